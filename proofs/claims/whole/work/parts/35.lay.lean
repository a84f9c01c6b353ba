/-! JOINT, THE MODEL -/
set_option maxRecDepth 20000 in
set_option maxHeartbeats 400000 in
theorem lp_lay59 {d : Nat} {post : Pst} {bs nm X c m e v : Int} {t : Nat} (ht : t = 0 ∨ t = 300) (he : 0 ≤ e ∧ e ≤ 1) (hm : 1 ≤ m ∧ m ≤ 301) (hv : 0 ≤ v ∧ v ≤ 400) : ∀ (nn : Nat) (r : List Int) (n : Nat) (g : Hp), (r.length = n) → (n ≤ 299) → (RV (fun k => g 79 (t + k)) r) → (LB 400 r) → (g 61 (m - e).toNat = v) → (∀ (g2 : Hp) (o : Option AV), (∀ a k, a ≠ 79 → g2 a k = g a k) → (∀ k : Nat, k < t → g2 79 k = g 79 k) → RV (fun k => g2 79 (t + k)) (insR v r) → (∀ k : Nat, n < k → g2 79 (t + k) = g 79 (t + k)) → WW mX12_layHeights d post 137 [some (.inr (.inr 49)), some (.inl bs), some (.inl nm), some (.inl X), some (.inl (t : Int)), some (.inl c), some (.inl m), some (.inl e), o] [] g2) → n < nn → WW mX12_layHeights d post 59 [some (.inr (.inr 49)), some (.inl bs), some (.inl nm), some (.inl X), some (.inl (t : Int)), some (.inl c), some (.inl m), some (.inl e), some (.inl (n : Int))] [] g := by
  intro nn
  induction nn with
  | zero => intro r n g hn hN hr hb hg hk; intros; omega
  | succ nn ih =>
    intro r n g hn hN hr hb hg hk hmu
    refine r_iload dX12_layHeights_59 rfl ?_
    refine r_if_le (tgt := 117) dX12_layHeights_61 rfl (by omega) (fun c_61 => ?_) (fun c_61 => ?_)
    · refine r_aload_n dX12_layHeights_117 rfl rfl ?_
      refine r_getR dX12_layHeights_118 fl_X12_118 sh_49 rfl ?_
      refine r_iload dX12_layHeights_121 rfl ?_
      refine r_iload dX12_layHeights_123 rfl ?_
      refine r_iadd dX12_layHeights_125 ?_
      refine r_aload_n dX12_layHeights_126 rfl rfl ?_
      refine r_getR dX12_layHeights_127 fl_X12_62 sh_49 rfl ?_
      refine r_iload dX12_layHeights_130 rfl ?_
      refine r_iload dX12_layHeights_132 rfl ?_
      refine r_isub dX12_layHeights_134 ?_
      refine r_iald dX12_layHeights_135 sh_61 (by decide) (by omega) ?_
      refine r_iast dX12_layHeights_136 sh_79 (by decide) (by omega) ?_
      rw [hg]
      have eu : ∀ k : Nat, k ≠ t + n → upH g 79 ((t : Int) + n).toNat v 79 k = g 79 k := fun k hk => by
        unfold upH
        rw [if_neg (by omega)]
      have ev : upH g 79 ((t : Int) + n).toNat v 79 (t + n) = v := by
        unfold upH
        rw [if_pos ⟨rfl, by omega⟩]
      refine hk _ _ (fun a k ha => ?_) (fun k hk => eu k (by omega)) ?_ (fun k hk => eu _ (by omega))
      · unfold upH
        rw [if_neg (by omega)]
      · first
          | (rw [insR, if_neg (by omega)]
             exact ⟨by rw [hn]; exact ev, hr.cg (fun k hk => eu _ (by omega))⟩)
          | (have er : r = [] := List.length_eq_zero_iff.mp (by omega)
             subst er
             have n0 : n = 0 := by rw [← hn]; rfl
             rw [n0] at ev
             rw [n0]
             exact ⟨ev, trivial⟩)
    · obtain ⟨a, l, rfl⟩ : ∃ a t, r = a :: t := by
        cases r with
        | nil => exact absurd hn (by simp only [List.length_nil]; omega)
        | cons a t => exact ⟨a, t, rfl⟩
      have hl : l.length + 1 = n := by rw [← hn]; rfl
      have ea : g 79 ((t : Int) + n - 1).toNat = a := by rw [show ((t : Int) + n - 1).toNat = t + l.length by omega]; exact hr.1
      have ba := hb a (List.mem_cons_self ..)
      refine r_aload_n dX12_layHeights_64 rfl rfl ?_
      refine r_getR dX12_layHeights_65 fl_X12_118 sh_49 rfl ?_
      refine r_iload dX12_layHeights_68 rfl ?_
      refine r_iload dX12_layHeights_70 rfl ?_
      refine r_iadd dX12_layHeights_72 ?_
      refine r_iconst dX12_layHeights_73 ?_
      refine r_isub dX12_layHeights_74 ?_
      refine r_iald dX12_layHeights_75 sh_79 (by decide) (by omega) ?_
      refine r_aload_n dX12_layHeights_76 rfl rfl ?_
      refine r_getR dX12_layHeights_77 fl_X12_62 sh_49 rfl ?_
      refine r_iload dX12_layHeights_80 rfl ?_
      refine r_iload dX12_layHeights_82 rfl ?_
      refine r_isub dX12_layHeights_84 ?_
      refine r_iald dX12_layHeights_85 sh_61 (by decide) (by omega) ?_
      refine r_icmp_le (tgt := 117) dX12_layHeights_86 rfl (by omega) (by omega) (fun c_86 => ?_) (fun c_86 => ?_)
      · refine r_aload_n dX12_layHeights_117 rfl rfl ?_
        refine r_getR dX12_layHeights_118 fl_X12_118 sh_49 rfl ?_
        refine r_iload dX12_layHeights_121 rfl ?_
        refine r_iload dX12_layHeights_123 rfl ?_
        refine r_iadd dX12_layHeights_125 ?_
        refine r_aload_n dX12_layHeights_126 rfl rfl ?_
        refine r_getR dX12_layHeights_127 fl_X12_62 sh_49 rfl ?_
        refine r_iload dX12_layHeights_130 rfl ?_
        refine r_iload dX12_layHeights_132 rfl ?_
        refine r_isub dX12_layHeights_134 ?_
        refine r_iald dX12_layHeights_135 sh_61 (by decide) (by omega) ?_
        refine r_iast dX12_layHeights_136 sh_79 (by decide) (by omega) ?_
        rw [hg]
        have eu : ∀ k : Nat, k ≠ t + n → upH g 79 ((t : Int) + n).toNat v 79 k = g 79 k := fun k hk => by
          unfold upH
          rw [if_neg (by omega)]
        have ev : upH g 79 ((t : Int) + n).toNat v 79 (t + n) = v := by
          unfold upH
          rw [if_pos ⟨rfl, by omega⟩]
        refine hk _ _ (fun a k ha => ?_) (fun k hk => eu k (by omega)) ?_ (fun k hk => eu _ (by omega))
        · unfold upH
          rw [if_neg (by omega)]
        · first
            | (rw [insR, if_neg (by omega)]
               exact ⟨by rw [hn]; exact ev, hr.cg (fun k hk => eu _ (by omega))⟩)
            | (have er : r = [] := List.length_eq_zero_iff.mp (by omega)
               subst er
               have n0 : n = 0 := by rw [← hn]; rfl
               rw [n0] at ev
               rw [n0]
               exact ⟨ev, trivial⟩)
      · refine r_aload_n dX12_layHeights_89 rfl rfl ?_
        refine r_getR dX12_layHeights_90 fl_X12_118 sh_49 rfl ?_
        refine r_iload dX12_layHeights_93 rfl ?_
        refine r_iload dX12_layHeights_95 rfl ?_
        refine r_iadd dX12_layHeights_97 ?_
        refine r_aload_n dX12_layHeights_98 rfl rfl ?_
        refine r_getR dX12_layHeights_99 fl_X12_118 sh_49 rfl ?_
        refine r_iload dX12_layHeights_102 rfl ?_
        refine r_iload dX12_layHeights_104 rfl ?_
        refine r_iadd dX12_layHeights_106 ?_
        refine r_iconst dX12_layHeights_107 ?_
        refine r_isub dX12_layHeights_108 ?_
        refine r_iald dX12_layHeights_109 sh_79 (by decide) (by omega) ?_
        refine r_iast dX12_layHeights_110 sh_79 (by decide) (by omega) ?_
        refine r_iinc (L' := [_, _, _, _, _, _, _, _, _]) dX12_layHeights_111 rfl rfl (by decide) rfl ?_
        refine r_goto (tgt := 59) dX12_layHeights_114 rfl ?_
        have ev : upH g 79 ((t : Int) + n).toNat a 79 (t + n) = a := by
          unfold upH
          rw [if_pos ⟨rfl, by omega⟩]
        have eu : ∀ k : Nat, k ≠ t + n → upH g 79 ((t : Int) + n).toNat a 79 k = g 79 k := fun k hk => by
          unfold upH
          rw [if_neg (by omega)]
        rw [ea, show (n : Int) + -1 = ((n - 1 : Nat) : Int) by omega]
        refine ih l (n - 1) (upH g 79 ((t : Int) + n).toNat a) (by omega) (by omega) (hr.2.cg (fun k hk => eu _ (by omega))) (fun z hz => hb z (List.mem_cons_of_mem _ hz)) hg (fun g2 o z1 z0 z2 z3 => ?_) (by omega)
        refine hk g2 o (fun a2 k ha => (z1 a2 k ha).trans (by unfold upH; rw [if_neg (by omega)])) (fun k hk => (z0 k hk).trans (eu k (by omega))) ?_ (fun k hk => (z3 k (by omega)).trans (eu _ (by omega)))
        rw [insR, if_pos (by omega)]
        refine ⟨?_, z2⟩
        rw [insR_len, hl]
        exact (z3 n (by omega)).trans ev
