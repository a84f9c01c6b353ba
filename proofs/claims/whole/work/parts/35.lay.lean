/-! JOINT, THE MODEL -/
set_option maxRecDepth 20000 in
set_option maxHeartbeats 400000 in
theorem lp_lay59 {d : Nat} {post : Pst} {bs nm X c m e v : Int} {t : Nat} (ht : t = 0 ∨ t = 300) (he : 0 ≤ e ∧ e ≤ 1) (hm : 1 ≤ m ∧ m ≤ 301) (hv : 0 ≤ v ∧ v ≤ 400) : ∀ (nn : Nat) (r : List Int) (n : Nat) (g : Hp), (r.length = n) → (n ≤ 299) → (RV (fun k => g 79 (t + k)) r) → (LB 400 r) → (g 61 (m - e).toNat = v) → (∀ (g2 : Hp) (o : Option AV), (∀ a k, a ≠ 79 → g2 a k = g a k) → (∀ k : Nat, k < t → g2 79 k = g 79 k) → RV (fun k => g2 79 (t + k)) (insR v r) → (∀ k : Nat, n < k → g2 79 (t + k) = g 79 (t + k)) → WW mX12_layHeights d post 137 [some (.inr (.inr 49)), some (.inl bs), some (.inl nm), some (.inl X), some (.inl (t : Int)), some (.inl c), some (.inl m), some (.inl e), o] [] g2) → n < nn → WW mX12_layHeights d post 59 [some (.inr (.inr 49)), some (.inl bs), some (.inl nm), some (.inl X), some (.inl (t : Int)), some (.inl c), some (.inl m), some (.inl e), some (.inl (n : Int))] [] g := by
  intro nn
  induction nn with
  | zero => intro r n g hn hN hr hb hg hk; intros; omega
  | succ nn ih =>
    intro r n g hn hN hr hb hg hk hmu
    refine r_iload dX12_layHeights_59 rfl ?_
    refine r_if_le (tgt := 117) dX12_layHeights_61 rfl (by omega) (fun c_61 => ?_) (fun c_61 => ?_)
    · refine r_aload_n dX12_layHeights_117 rfl rfl ?_
      refine r_getR dX12_layHeights_118 fl_X12_118 sh_49 rfl ?_
      refine r_iload dX12_layHeights_121 rfl ?_
      refine r_iload dX12_layHeights_123 rfl ?_
      refine r_iadd dX12_layHeights_125 ?_
      refine r_aload_n dX12_layHeights_126 rfl rfl ?_
      refine r_getR dX12_layHeights_127 fl_X12_62 sh_49 rfl ?_
      refine r_iload dX12_layHeights_130 rfl ?_
      refine r_iload dX12_layHeights_132 rfl ?_
      refine r_isub dX12_layHeights_134 ?_
      refine r_iald dX12_layHeights_135 sh_61 (by decide) (by omega) ?_
      refine r_iast dX12_layHeights_136 sh_79 (by decide) (by omega) ?_
      rw [hg]
      have eu : ∀ k : Nat, k ≠ t + n → upH g 79 ((t : Int) + n).toNat v 79 k = g 79 k := fun k hk => by
        unfold upH
        rw [if_neg (by omega)]
      have ev : upH g 79 ((t : Int) + n).toNat v 79 (t + n) = v := by
        unfold upH
        rw [if_pos ⟨rfl, by omega⟩]
      refine hk _ _ (fun a k ha => ?_) (fun k hk => eu k (by omega)) ?_ (fun k hk => eu _ (by omega))
      · unfold upH
        rw [if_neg (by omega)]
      · first
          | (rw [insR, if_neg (by omega)]
             exact ⟨by rw [hn]; exact ev, hr.cg (fun k hk => eu _ (by omega))⟩)
          | (have er : r = [] := List.length_eq_zero_iff.mp (by omega)
             subst er
             have n0 : n = 0 := by rw [← hn]; rfl
             rw [n0] at ev
             rw [n0]
             exact ⟨ev, trivial⟩)
    · obtain ⟨a, l, rfl⟩ : ∃ a t, r = a :: t := by
        cases r with
        | nil => exact absurd hn (by simp only [List.length_nil]; omega)
        | cons a t => exact ⟨a, t, rfl⟩
      have hl : l.length + 1 = n := by rw [← hn]; rfl
      have ea : g 79 ((t : Int) + n - 1).toNat = a := by rw [show ((t : Int) + n - 1).toNat = t + l.length by omega]; exact hr.1
      have ba := hb a (List.mem_cons_self ..)
      refine r_aload_n dX12_layHeights_64 rfl rfl ?_
      refine r_getR dX12_layHeights_65 fl_X12_118 sh_49 rfl ?_
      refine r_iload dX12_layHeights_68 rfl ?_
      refine r_iload dX12_layHeights_70 rfl ?_
      refine r_iadd dX12_layHeights_72 ?_
      refine r_iconst dX12_layHeights_73 ?_
      refine r_isub dX12_layHeights_74 ?_
      refine r_iald dX12_layHeights_75 sh_79 (by decide) (by omega) ?_
      refine r_aload_n dX12_layHeights_76 rfl rfl ?_
      refine r_getR dX12_layHeights_77 fl_X12_62 sh_49 rfl ?_
      refine r_iload dX12_layHeights_80 rfl ?_
      refine r_iload dX12_layHeights_82 rfl ?_
      refine r_isub dX12_layHeights_84 ?_
      refine r_iald dX12_layHeights_85 sh_61 (by decide) (by omega) ?_
      refine r_icmp_le (tgt := 117) dX12_layHeights_86 rfl (by omega) (by omega) (fun c_86 => ?_) (fun c_86 => ?_)
      · refine r_aload_n dX12_layHeights_117 rfl rfl ?_
        refine r_getR dX12_layHeights_118 fl_X12_118 sh_49 rfl ?_
        refine r_iload dX12_layHeights_121 rfl ?_
        refine r_iload dX12_layHeights_123 rfl ?_
        refine r_iadd dX12_layHeights_125 ?_
        refine r_aload_n dX12_layHeights_126 rfl rfl ?_
        refine r_getR dX12_layHeights_127 fl_X12_62 sh_49 rfl ?_
        refine r_iload dX12_layHeights_130 rfl ?_
        refine r_iload dX12_layHeights_132 rfl ?_
        refine r_isub dX12_layHeights_134 ?_
        refine r_iald dX12_layHeights_135 sh_61 (by decide) (by omega) ?_
        refine r_iast dX12_layHeights_136 sh_79 (by decide) (by omega) ?_
        rw [hg]
        have eu : ∀ k : Nat, k ≠ t + n → upH g 79 ((t : Int) + n).toNat v 79 k = g 79 k := fun k hk => by
          unfold upH
          rw [if_neg (by omega)]
        have ev : upH g 79 ((t : Int) + n).toNat v 79 (t + n) = v := by
          unfold upH
          rw [if_pos ⟨rfl, by omega⟩]
        refine hk _ _ (fun a k ha => ?_) (fun k hk => eu k (by omega)) ?_ (fun k hk => eu _ (by omega))
        · unfold upH
          rw [if_neg (by omega)]
        · first
            | (rw [insR, if_neg (by omega)]
               exact ⟨by rw [hn]; exact ev, hr.cg (fun k hk => eu _ (by omega))⟩)
            | (have er : r = [] := List.length_eq_zero_iff.mp (by omega)
               subst er
               have n0 : n = 0 := by rw [← hn]; rfl
               rw [n0] at ev
               rw [n0]
               exact ⟨ev, trivial⟩)
      · refine r_aload_n dX12_layHeights_89 rfl rfl ?_
        refine r_getR dX12_layHeights_90 fl_X12_118 sh_49 rfl ?_
        refine r_iload dX12_layHeights_93 rfl ?_
        refine r_iload dX12_layHeights_95 rfl ?_
        refine r_iadd dX12_layHeights_97 ?_
        refine r_aload_n dX12_layHeights_98 rfl rfl ?_
        refine r_getR dX12_layHeights_99 fl_X12_118 sh_49 rfl ?_
        refine r_iload dX12_layHeights_102 rfl ?_
        refine r_iload dX12_layHeights_104 rfl ?_
        refine r_iadd dX12_layHeights_106 ?_
        refine r_iconst dX12_layHeights_107 ?_
        refine r_isub dX12_layHeights_108 ?_
        refine r_iald dX12_layHeights_109 sh_79 (by decide) (by omega) ?_
        refine r_iast dX12_layHeights_110 sh_79 (by decide) (by omega) ?_
        refine r_iinc (L' := [_, _, _, _, _, _, _, _, _]) dX12_layHeights_111 rfl rfl (by decide) rfl ?_
        refine r_goto (tgt := 59) dX12_layHeights_114 rfl ?_
        have ev : upH g 79 ((t : Int) + n).toNat a 79 (t + n) = a := by
          unfold upH
          rw [if_pos ⟨rfl, by omega⟩]
        have eu : ∀ k : Nat, k ≠ t + n → upH g 79 ((t : Int) + n).toNat a 79 k = g 79 k := fun k hk => by
          unfold upH
          rw [if_neg (by omega)]
        rw [ea, show (n : Int) + -1 = ((n - 1 : Nat) : Int) by omega]
        refine ih l (n - 1) (upH g 79 ((t : Int) + n).toNat a) (by omega) (by omega) (hr.2.cg (fun k hk => eu _ (by omega))) (fun z hz => hb z (List.mem_cons_of_mem _ hz)) hg (fun g2 o z1 z0 z2 z3 => ?_) (by omega)
        refine hk g2 o (fun a2 k ha => (z1 a2 k ha).trans (by unfold upH; rw [if_neg (by omega)])) (fun k hk => (z0 k hk).trans (eu k (by omega))) ?_ (fun k hk => (z3 k (by omega)).trans (eu _ (by omega)))
        rw [insR, if_pos (by omega)]
        refine ⟨?_, z2⟩
        rw [insR_len, hl]
        exact (z3 n (by omega)).trans ev
set_option maxRecDepth 20000 in
set_option maxHeartbeats 400000 in
theorem lp_lay38 {d : Nat} {post : Pst} {h : Hp} {bs nm X m e : Int} {t b q : Nat} (ht : t = 0 ∨ t = 300) (he : 0 ≤ e ∧ e ≤ 1) (hm : 1 ≤ m ∧ m ≤ 301) (hX : R32 X) (hq : m - e = b + q) (hxy : 0 ≤ h 60 (b + q) ∧ h 60 (b + q) ≤ 400 ∧ 0 ≤ h 61 (b + q) ∧ h 61 (b + q) ≤ 400) {r0 : List Int} (K : ∀ (r2 : List Int) (n2 : Nat) (g2 : Hp) (o : Option AV), r2 = gs (fun p => h 60 (b + p)) (fun p => h 61 (b + p)) X q r0 → r2.length = n2 → LB 400 r2 → (∀ a k, a ≠ 79 → g2 a k = h a k) → (∀ k : Nat, k < t → g2 79 k = h 79 k) → RV (fun k => g2 79 (t + k)) r2 → WW mX12_layHeights d post 140 [some (.inr (.inr 49)), some (.inl bs), some (.inl nm), some (.inl X), some (.inl (t : Int)), some (.inl (n2 : Int)), some (.inl m), some (.inl e), o] [] g2) : ∀ (nn : Nat) (r : List Int) (n : Nat) (g : Hp) (o : Option AV), (r = r0) → ((∀ a k, a ≠ 79 → g a k = h a k)) → ((∀ k : Nat, k < t → g 79 k = h 79 k)) → (RV (fun k => g 79 (t + k)) r) → (r.length = n) → (LB 400 r) → (n ≤ 299) → 0 < nn → WW mX12_layHeights d post 38 [some (.inr (.inr 49)), some (.inl bs), some (.inl nm), some (.inl X), some (.inl (t : Int)), some (.inl (n : Int)), some (.inl m), some (.inl e), o] [] g := by
  intro nn
  induction nn with
  | zero => intro r n g o hr0 hg hg1 hr hl hb hN; intros; omega
  | succ nn ih =>
    intro r n g o hr0 hg hg1 hr hl hb hN hmu
    subst hr0
    have eq : (m - e).toNat = b + q := by omega
    have q1 : g 60 (m - e).toNat = h 60 (b + q) := by rw [eq]; exact hg _ _ (by decide)
    have q2 : g 61 (m - e).toNat = h 61 (b + q) := by rw [eq]; exact hg _ _ (by decide)
    refine r_aload_n dX12_layHeights_38 rfl rfl ?_
    refine r_getR dX12_layHeights_39 fl_X12_59 sh_49 rfl ?_
    refine r_iload dX12_layHeights_42 rfl ?_
    refine r_iload dX12_layHeights_44 rfl ?_
    refine r_isub dX12_layHeights_46 ?_
    refine r_iald dX12_layHeights_47 sh_60 (by decide) (by omega) ?_
    refine r_iload_n dX12_layHeights_48 rfl rfl ?_
    refine r_icmp_eq (tgt := 55) dX12_layHeights_49 rfl (by omega) (by omega) (fun c_49 => ?_) (fun c_49 => ?_)
    · refine r_iload dX12_layHeights_55 rfl ?_
      refine r_istore (L' := [_, _, _, _, _, _, _, _, _]) dX12_layHeights_57 rfl (by decide) rfl ?_
      refine lp_lay59 (v := h 61 (b + q)) ht he hm (by omega) (n + 1) r n g hl hN hr hb q2 (fun g2 o z1 z0 z2 _ => ?_) (by omega)
      refine r_iinc (L' := [_, _, _, _, _, _, _, _, _]) dX12_layHeights_137 rfl rfl (by decide) rfl ?_
      rw [show (n : Int) + 1 = ((n + 1 : Nat) : Int) by omega]
      exact K (insR (h 61 (b + q)) r) (n + 1) g2 _ (by unfold gs; exact (if_pos (by show h 60 (b + q) = X; omega)).symm) (by rw [insR_len]; omega) (LB.ins (by omega) hb) (fun a k z => (z1 a k z).trans (hg a k z)) (fun k z => (z0 k z).trans (hg1 k z)) z2
    · refine r_goto (tgt := 140) dX12_layHeights_52 rfl ?_
      exact K r n g _ (by unfold gs; exact (if_neg (by show ¬ h 60 (b + q) = X; omega)).symm) hl hb hg hg1 hr
set_option maxRecDepth 20000 in
set_option maxHeartbeats 400000 in
theorem lp_lay32 {d : Nat} {post : Pst} {h : Hp} {bs nm X c m : Int} {t : Nat} {o : Option AV} : ∀ (nn : Nat) (e : Int), (0 ≤ e ∧ e ≤ 2) → (e < 2 → WW mX12_layHeights d post 38 [some (.inr (.inr 49)), some (.inl bs), some (.inl nm), some (.inl X), some (.inl (t : Int)), some (.inl c), some (.inl m), some (.inl e), o] [] h) → (e = 2 → WW mX12_layHeights d post 146 [some (.inr (.inr 49)), some (.inl bs), some (.inl nm), some (.inl X), some (.inl (t : Int)), some (.inl c), some (.inl m), some (.inl e), o] [] h) → 0 < nn → WW mX12_layHeights d post 32 [some (.inr (.inr 49)), some (.inl bs), some (.inl nm), some (.inl X), some (.inl (t : Int)), some (.inl c), some (.inl m), some (.inl e), o] [] h := by
  intro nn
  induction nn with
  | zero => intro e he k1 k2; intros; omega
  | succ nn ih =>
    intro e he k1 k2 hmu
    refine r_iload dX12_layHeights_32 rfl ?_
    refine r_iconst dX12_layHeights_34 ?_
    refine r_icmp_ge (tgt := 146) dX12_layHeights_35 rfl (by omega) ⟨by decide, by decide⟩ (fun c_35 => ?_) (fun c_35 => ?_)
    · exact k2 (by omega)
    · exact k1 (by omega)
set_option maxRecDepth 20000 in
set_option maxHeartbeats 400000 in
theorem lp_lay8 {d : Nat} {P : Int → Hp → Prop} {h : Hp} {nm X : Int} {t b : Nat} (hb : b = 0 ∨ b = 151) (ht : t = 0 ∨ t = 300) (hX : R32 X) (hn : 0 ≤ nm ∧ nm ≤ 150) (hxy : ∀ p : Nat, (p : Int) ≤ nm → (0 ≤ h 60 (b + p) ∧ h 60 (b + p) ≤ 400 ∧ 0 ≤ h 61 (b + p) ∧ h 61 (b + p) ≤ 400) ∧ (h 62 (b + p) = 0 ∨ h 62 (b + p) = 1)) (k : ∀ g2 : Hp, (∀ a k, a ≠ 79 → g2 a k = h a k) → (∀ k : Nat, k < t → g2 79 k = h 79 k) → RV (fun k => g2 79 (t + k)) (gatL (fun p => h 60 (b + p)) (fun p => h 61 (b + p)) (fun p => h 62 (b + p)) X nm.toNat) → P ((gatL (fun p => h 60 (b + p)) (fun p => h 61 (b + p)) (fun p => h 62 (b + p)) X nm.toNat).length) g2) : ∀ (nn : Nat) (i n : Nat) (m : Int) (g : Hp) (o o2 : Option AV), ((i : Int) ≤ nm) → (m = b + 1 + i) → ((∀ a k, a ≠ 79 → g a k = h a k)) → ((∀ k : Nat, k < t → g 79 k = h 79 k)) → (RV (fun k => g 79 (t + k)) (gatL (fun p => h 60 (b + p)) (fun p => h 61 (b + p)) (fun p => h 62 (b + p)) X i)) → ((gatL (fun p => h 60 (b + p)) (fun p => h 61 (b + p)) (fun p => h 62 (b + p)) X i).length = n) → nm.toNat - i < nn → WW mX12_layHeights d (pI P) 8 [some (.inr (.inr 49)), some (.inl (b : Int)), some (.inl nm), some (.inl X), some (.inl (t : Int)), some (.inl (n : Int)), some (.inl m), o, o2] [] g := by
  intro nn
  induction nn with
  | zero => intro i n m g o o2 hi hm hg hg1 hr hl; intros; omega
  | succ nn ih =>
    intro i n m g o o2 hi hm hg hg1 hr hl hmu
    have len := gatL_len (fun p => h 60 (b + p)) (fun p => h 61 (b + p)) (fun p => h 62 (b + p)) X i
    have lb : LB 400 (gatL (fun p => h 60 (b + p)) (fun p => h 61 (b + p)) (fun p => h 62 (b + p)) X i) := gatL_LB (fun k hk => ⟨(hxy k (by omega)).1.2.2.1, (hxy k (by omega)).1.2.2.2⟩)
    have e2 : m.toNat = b + (i + 1) := by omega
    refine r_iload dX12_layHeights_8 rfl ?_
    refine r_iload_n dX12_layHeights_10 rfl rfl ?_
    refine r_iload_n dX12_layHeights_11 rfl rfl ?_
    refine r_iadd dX12_layHeights_12 ?_
    refine r_icmp_gt (tgt := 152) dX12_layHeights_13 rfl (by omega) (by omega) (fun c_13 => ?_) (fun c_13 => ?_)
    · refine r_iload dX12_layHeights_152 rfl ?_
      refine r_iret dX12_layHeights_154 rfl ?_
      have e9 : nm.toNat = i := by omega
      rw [e9] at k
      refine ⟨_, rfl, ?_⟩
      rw [← hl]
      exact k g hg hg1 hr
    · have w := hxy (i + 1) (by omega)
      have ew : g 62 m.toNat = h 62 (b + (i + 1)) := by rw [e2]; exact hg _ _ (by decide)
      refine r_aload_n dX12_layHeights_16 rfl rfl ?_
      refine r_getR dX12_layHeights_17 fl_X12_65 sh_49 rfl ?_
      refine r_iload dX12_layHeights_20 rfl ?_
      refine r_zald dX12_layHeights_22 sh_62 (by decide) (by omega) ?_
      refine r_if_ne (tgt := 29) dX12_layHeights_23 rfl (by omega) (fun c_23 => ?_) (fun c_23 => ?_)
      · refine r_iconst dX12_layHeights_29 ?_
        refine r_istore (L' := [_, _, _, _, _, _, _, _, _]) dX12_layHeights_30 rfl (by decide) rfl ?_
        have cn : ¬ h 62 (b + (i + 1)) = 0 := by omega
        have wi := hxy i (by omega)
        refine lp_lay32 1 0 (by decide) (fun _ => ?_) (fun z => absurd z (by decide)) (by decide)
        refine lp_lay38 (b := b) (q := i + 1) ht (by decide) (by omega) hX (by omega) w.1 (fun r2 n2 g2 o z1 z2 z3 z4 z4b z5 => ?_) 1 _ n g _ rfl hg hg1 hr hl lb (by omega) (by decide)
        refine r_iinc (L' := [_, _, _, _, _, _, _, _, _]) dX12_layHeights_140 rfl rfl (by decide) rfl ?_
        refine r_goto (tgt := 32) dX12_layHeights_143 rfl ?_
        refine lp_lay32 1 1 (by decide) (fun _ => ?_) (fun z => absurd z (by decide)) (by decide)
        have l2 := gs_len (fun p => h 60 (b + p)) (fun p => h 61 (b + p)) X (i + 1) (gatL (fun p => h 60 (b + p)) (fun p => h 61 (b + p)) (fun p => h 62 (b + p)) X i)
        rw [← z1] at l2
        refine lp_lay38 (b := b) (q := i) ht (by decide) (by omega) hX (by omega) wi.1 (fun r3 n3 g3 o y1 y2 y3 y4 y4b y5 => ?_) 1 r2 n2 g2 _ rfl z4 z4b z5 z2 z3 (by omega) (by decide)
        refine r_iinc (L' := [_, _, _, _, _, _, _, _, _]) dX12_layHeights_140 rfl rfl (by decide) rfl ?_
        refine r_goto (tgt := 32) dX12_layHeights_143 rfl ?_
        refine lp_lay32 1 2 (by decide) (fun z => absurd z (by decide)) (fun _ => ?_) (by decide)
        refine r_iinc (L' := [_, _, _, _, _, _, _, _, _]) dX12_layHeights_146 rfl rfl (by decide) rfl ?_
        refine r_goto (tgt := 8) dX12_layHeights_149 rfl ?_
        have er : gatL (fun p => h 60 (b + p)) (fun p => h 61 (b + p)) (fun p => h 62 (b + p)) X (i + 1) = r3 := by rw [y1, z1, gs_comm, gatL, if_neg cn]
        exact ih (i + 1) n3 _ g3 _ _ (by omega) (by omega) y4 y4b (by rw [er]; exact y5) (by rw [er]; exact y2) (by omega)
      · refine r_goto (tgt := 146) dX12_layHeights_26 rfl ?_
        refine r_iinc (L' := [_, _, _, _, _, _, _, _, _]) dX12_layHeights_146 rfl rfl (by decide) rfl ?_
        refine r_goto (tgt := 8) dX12_layHeights_149 rfl ?_
        have cn : h 62 (b + (i + 1)) = 0 := by omega
        have er : gatL (fun p => h 60 (b + p)) (fun p => h 61 (b + p)) (fun p => h 62 (b + p)) X (i + 1) = gatL (fun p => h 60 (b + p)) (fun p => h 61 (b + p)) (fun p => h 62 (b + p)) X i := by rw [gatL, if_pos cn]
        exact ih (i + 1) n _ g _ _ (by omega) (by omega) hg hg1 (by rw [er]; exact hr) (by rw [er]; exact hl) (by omega)
