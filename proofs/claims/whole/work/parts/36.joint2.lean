set_option maxRecDepth 20000 in
set_option maxHeartbeats 400000 in
theorem sp_lay0 {d : Nat} (hd : 1 ≤ d) {nm X : Int} {h : Hp}  (hX : R32 X) (hn : 0 ≤ nm ∧ nm ≤ 150) (hxy : ∀ p : Nat, (p : Int) ≤ nm → (0 ≤ h 60 (0 + p) ∧ h 60 (0 + p) ≤ 400 ∧ 0 ≤ h 61 (0 + p) ∧ h 61 (0 + p) ≤ 400) ∧ (h 62 (0 + p) = 0 ∨ h 62 (0 + p) = 1)) {P : Int → Hp → Prop} (k : ∀ (rr : Int), ∀ h' : Hp, (∀ a k, a ≠ 79 → h' a k = h a k) → (∀ k : Nat, k < 0 → h' 79 k = h 79 k) → (RV (fun k => h' 79 (0 + k)) (gatL (fun p => h 60 (0 + p)) (fun p => h 61 (0 + p)) (fun p => h 62 (0 + p)) X nm.toNat)) → (rr = (gatL (fun p => h 60 (0 + p)) (fun p => h 61 (0 + p)) (fun p => h 62 (0 + p)) X nm.toNat).length) → P (rr) h') : Cl d mX12_layHeights [.inr (.inr 49), .inl 0, .inl nm, .inl X, .inl 0] h (pI P) := by
  refine Cl.of (L := [some (.inr (.inr 49)), some (.inl 0), some (.inl nm), some (.inl X), some (.inl 0), none, none, none, none]) (by decide +kernel) (Nat.le_of_ble_eq_true rfl) rfl ?_
  refine r_iconst dX12_layHeights_0 ?_
  refine r_istore (L' := [_, _, _, _, _, _, _, _, _]) dX12_layHeights_1 rfl (by decide) rfl ?_
  refine r_iload_n dX12_layHeights_3 rfl rfl ?_
  refine r_iconst dX12_layHeights_4 ?_
  refine r_iadd dX12_layHeights_5 ?_
  refine r_istore (L' := [_, _, _, _, _, _, _, _, _]) dX12_layHeights_6 rfl (by decide) rfl ?_
  exact lp_lay8 (b := 0) (t := 0) (by decide) (by decide) hX hn hxy (fun g z1 z2 z3 => k _ g z1 z2 z3 rfl) 151 0 0 _ h _ _ (by omega) rfl (fun _ _ _ => rfl) (fun _ _ => rfl) trivial rfl (by omega)
set_option maxRecDepth 20000 in
set_option maxHeartbeats 400000 in
theorem sp_lay1 {d : Nat} (hd : 1 ≤ d) {nm X : Int} {h : Hp}  (hX : R32 X) (hn : 0 ≤ nm ∧ nm ≤ 150) (hxy : ∀ p : Nat, (p : Int) ≤ nm → (0 ≤ h 60 (151 + p) ∧ h 60 (151 + p) ≤ 400 ∧ 0 ≤ h 61 (151 + p) ∧ h 61 (151 + p) ≤ 400) ∧ (h 62 (151 + p) = 0 ∨ h 62 (151 + p) = 1)) {P : Int → Hp → Prop} (k : ∀ (rr : Int), ∀ h' : Hp, (∀ a k, a ≠ 79 → h' a k = h a k) → (∀ k : Nat, k < 300 → h' 79 k = h 79 k) → (RV (fun k => h' 79 (300 + k)) (gatL (fun p => h 60 (151 + p)) (fun p => h 61 (151 + p)) (fun p => h 62 (151 + p)) X nm.toNat)) → (rr = (gatL (fun p => h 60 (151 + p)) (fun p => h 61 (151 + p)) (fun p => h 62 (151 + p)) X nm.toNat).length) → P (rr) h') : Cl d mX12_layHeights [.inr (.inr 49), .inl 151, .inl nm, .inl X, .inl 300] h (pI P) := by
  refine Cl.of (L := [some (.inr (.inr 49)), some (.inl 151), some (.inl nm), some (.inl X), some (.inl 300), none, none, none, none]) (by decide +kernel) (Nat.le_of_ble_eq_true rfl) rfl ?_
  refine r_iconst dX12_layHeights_0 ?_
  refine r_istore (L' := [_, _, _, _, _, _, _, _, _]) dX12_layHeights_1 rfl (by decide) rfl ?_
  refine r_iload_n dX12_layHeights_3 rfl rfl ?_
  refine r_iconst dX12_layHeights_4 ?_
  refine r_iadd dX12_layHeights_5 ?_
  refine r_istore (L' := [_, _, _, _, _, _, _, _, _]) dX12_layHeights_6 rfl (by decide) rfl ?_
  exact lp_lay8 (b := 151) (t := 300) (by decide) (by decide) hX hn hxy (fun g z1 z2 z3 => k _ g z1 z2 z3 rfl) 151 0 0 _ h _ _ (by omega) rfl (fun _ _ _ => rfl) (fun _ _ => rfl) trivial rfl (by omega)
set_option maxRecDepth 20000 in
set_option maxHeartbeats 400000 in
theorem lp_mjoin {d : Nat} (hd : 1 ≤ d) {P : Int → Hp → Prop} {h : Hp} {v x w : Int} {r s : List Int} (hw : 0 ≤ w ∧ w ≤ 3) (hr : LB 400 r) (hs : LB 400 s) (hl : r.length ≤ 300 ∧ s.length ≤ 300) (r1 : RV (fun k => h 79 (0 + k)) r) (r2 : RV (fun k => h 79 (300 + k)) s) (k : P (fnJ r s w) h) : ∀ (nn : Nat) (i : Nat) (a1 a2 : Int) (o : Option AV), (i ≤ mnL r s) → (a1 = sumN (gap r s) i) → (a2 = gapM r s i) → mnL r s - i < nn → WW mX12_joint (d + 1) (pI P) 90 [some (.inr (.inr 49)), some (.inl v), some (.inl x), some (.inl w), some (.inl (r.length : Int)), some (.inl (s.length : Int)), some (.inl a1), some (.inl a2), some (.inl (mnL r s : Int)), some (.inl (i : Int)), o] [] h := by
  intro nn
  induction nn with
  | zero => intro i a1 a2 o hi h1 h2; intros; omega
  | succ nn ih =>
    intro i a1 a2 o hi h1 h2 hmu
    have hm : mnL r s ≤ r.length ∧ mnL r s ≤ s.length ∧ (mnL r s = r.length ∨ mnL r s = s.length) := by unfold mnL; split <;> omega
    have b1 := sumN_r (f := gap r s) (B := 400) i (fun j _ => gap_r hr hs j)
    have b2 := gapM_r hr hs i
    have b3 := nth_r (by decide) hr i
    have b4 := nth_r (by decide) hs i
    have b5 := gap_r hr hs i
    refine r_iload dX12_joint_90 rfl ?_
    refine r_iload dX12_joint_92 rfl ?_
    refine r_icmp_ge (tgt := 150) dX12_joint_94 rfl (by omega) (by omega) (fun c_94 => ?_) (fun c_94 => ?_)
    · refine r_iload_n dX12_joint_150 rfl rfl ?_
      refine r_if_ne (tgt := 159) dX12_joint_151 rfl (by omega) (fun c_151 => ?_) (fun c_151 => ?_)
      · refine r_iload_n dX12_joint_159 rfl rfl ?_
        refine r_iconst dX12_joint_160 ?_
        refine r_icmp_ne (tgt := 169) dX12_joint_161 rfl (by omega) ⟨by decide, by decide⟩ (fun c_161 => ?_) (fun c_161 => ?_)
        · refine r_iload_n dX12_joint_169 rfl rfl ?_
          refine r_iconst dX12_joint_170 ?_
          refine r_icmp_ne (tgt := 179) dX12_joint_171 rfl (by omega) ⟨by decide, by decide⟩ (fun c_171 => ?_) (fun c_171 => ?_)
          · refine r_iload dX12_joint_179 rfl ?_
            refine r_iload dX12_joint_181 rfl ?_
            refine r_iadd dX12_joint_183 ?_
            refine r_iconst dX12_joint_184 ?_
            refine r_iload dX12_joint_185 rfl ?_
            refine r_imul dX12_joint_187 ?_
            refine r_isub dX12_joint_188 ?_
            refine r_iret dX12_joint_189 rfl ?_
            have e0 : i = mnL r s := by omega
            subst e0
            refine ⟨_, rfl, eqP k ?_⟩
            unfold fnJ
            first
              | rw [if_pos (by omega)]
              | (rw [if_neg (by omega), if_pos (by omega)]; exact h1.symm)
              | (rw [if_neg (by omega), if_neg (by omega), if_pos (by omega)]; exact h2.symm)
              | (rw [if_neg (by omega), if_neg (by omega), if_neg (by omega)]; omega)
          · refine r_iload dX12_joint_174 rfl ?_
            refine r_goto (tgt := 189) dX12_joint_176 rfl ?_
            refine r_iret dX12_joint_189 rfl ?_
            have e0 : i = mnL r s := by omega
            subst e0
            refine ⟨_, rfl, eqP k ?_⟩
            unfold fnJ
            first
              | rw [if_pos (by omega)]
              | (rw [if_neg (by omega), if_pos (by omega)]; exact h1.symm)
              | (rw [if_neg (by omega), if_neg (by omega), if_pos (by omega)]; exact h2.symm)
              | (rw [if_neg (by omega), if_neg (by omega), if_neg (by omega)]; omega)
        · refine r_iload dX12_joint_164 rfl ?_
          refine r_goto (tgt := 189) dX12_joint_166 rfl ?_
          refine r_iret dX12_joint_189 rfl ?_
          have e0 : i = mnL r s := by omega
          subst e0
          refine ⟨_, rfl, eqP k ?_⟩
          unfold fnJ
          first
            | rw [if_pos (by omega)]
            | (rw [if_neg (by omega), if_pos (by omega)]; exact h1.symm)
            | (rw [if_neg (by omega), if_neg (by omega), if_pos (by omega)]; exact h2.symm)
            | (rw [if_neg (by omega), if_neg (by omega), if_neg (by omega)]; omega)
      · refine r_iload dX12_joint_154 rfl ?_
        refine r_goto (tgt := 189) dX12_joint_156 rfl ?_
        refine r_iret dX12_joint_189 rfl ?_
        have e0 : i = mnL r s := by omega
        subst e0
        refine ⟨_, rfl, eqP k ?_⟩
        unfold fnJ
        first
          | rw [if_pos (by omega)]
          | (rw [if_neg (by omega), if_pos (by omega)]; exact h1.symm)
          | (rw [if_neg (by omega), if_neg (by omega), if_pos (by omega)]; exact h2.symm)
          | (rw [if_neg (by omega), if_neg (by omega), if_neg (by omega)]; omega)
    · have q1 : h 79 (i : Int).toNat = nth r i := by rw [Int.toNat_natCast, ← Nat.zero_add i]; exact (r1.nth i (by omega)).trans (by rw [Nat.zero_add])
      have q2 : h 79 (300 + (i : Int)).toNat = nth s i := by rw [show (300 + (i : Int)).toNat = 300 + i by omega]; exact r2.nth i (by omega)
      refine r_aload_n dX12_joint_97 rfl rfl ?_
      refine r_getR dX12_joint_98 fl_X12_118 sh_49 rfl ?_
      refine r_iload dX12_joint_101 rfl ?_
      refine r_iald dX12_joint_103 sh_79 (by decide) (by omega) ?_
      refine r_aload_n dX12_joint_104 rfl rfl ?_
      refine r_getR dX12_joint_105 fl_X12_118 sh_49 rfl ?_
      refine r_sipush dX12_joint_108 (by decide +kernel) ?_
      refine r_iload dX12_joint_111 rfl ?_
      refine r_iadd dX12_joint_113 ?_
      refine r_iald dX12_joint_114 sh_79 (by decide) (by omega) ?_
      refine r_isub dX12_joint_115 ?_
      refine r_callSI (av := [_]) (M' := mX12_sizeOf) dX12_joint_116 sX12_sizeOf ml_X12_198 rfl rfl (by simp [wtA]) (sp_X12_sizeOf (by omega) (by omega) ?_)
      refine r_eqI (y := gap r s i) (by unfold gap; rw [← q1, ← q2]) ?_
      refine r_istore (L' := [_, _, _, _, _, _, _, _, _, _, _]) dX12_joint_119 rfl (by decide) rfl ?_
      refine r_iload dX12_joint_121 rfl ?_
      refine r_iload dX12_joint_123 rfl ?_
      refine r_iadd dX12_joint_125 ?_
      refine r_istore (L' := [_, _, _, _, _, _, _, _, _, _, _]) dX12_joint_126 rfl (by decide) rfl ?_
      refine r_iload dX12_joint_128 rfl ?_
      refine r_iload dX12_joint_130 rfl ?_
      refine r_icmp_le (tgt := 140) dX12_joint_132 rfl (by omega) (by omega) (fun c_132 => ?_) (fun c_132 => ?_)
      · refine r_iload dX12_joint_140 rfl ?_
        refine r_istore (L' := [_, _, _, _, _, _, _, _, _, _, _]) dX12_joint_142 rfl (by decide) rfl ?_
        refine r_iinc (L' := [_, _, _, _, _, _, _, _, _, _, _]) dX12_joint_144 rfl rfl (by decide) rfl ?_
        refine r_goto (tgt := 90) dX12_joint_147 rfl ?_
        refine ih (i + 1) _ _ _ (by omega) ?_ ?_ (by omega)
        · show _ = sumN (gap r s) i + gap r s i
          omega
        · show _ = max (gapM r s i) (gap r s i)
          omega
      · refine r_iload dX12_joint_135 rfl ?_
        refine r_goto (tgt := 142) dX12_joint_137 rfl ?_
        refine r_istore (L' := [_, _, _, _, _, _, _, _, _, _, _]) dX12_joint_142 rfl (by decide) rfl ?_
        refine r_iinc (L' := [_, _, _, _, _, _, _, _, _, _, _]) dX12_joint_144 rfl rfl (by decide) rfl ?_
        refine r_goto (tgt := 90) dX12_joint_147 rfl ?_
        refine ih (i + 1) _ _ _ (by omega) ?_ ?_ (by omega)
        · show _ = sumN (gap r s) i + gap r s i
          omega
        · show _ = max (gapM r s i) (gap r s i)
          omega
theorem gatL_neg {x y c : Nat → Int} {X : Int} (hX : X < 0) : ∀ {m : Nat}, (∀ k : Nat, k ≤ m → 0 ≤ x k) → gatL x y c X m = []
  | 0, _ => rfl
  | m + 1, h => by
    have i := gatL_neg (y := y) (c := c) hX (m := m) (fun k hk => h k (by omega))
    have a := h m (by omega)
    have b := h (m + 1) (by omega)
    rw [gatL]
    split
    · exact i
    · unfold gs
      rw [if_neg (by omega), if_neg (by omega)]
      exact i
theorem RV.sub {f : Nat → Int} {r : List Int} (h : RV (fun k => f (0 + k)) r) {g : Nat → Int} (hl : r.length ≤ 300) (e : ∀ k : Nat, k < 300 → g k = f k) : RV (fun k => g (0 + k)) r := h.cg (fun k hk => e _ (by omega))
set_option maxRecDepth 20000 in
set_option maxHeartbeats 400000 in
theorem sp_X12_joint {d : Nat} (hd : 5 ≤ d) {v x w : Int} {h : Hp}  (hw : MOK h) (hv : R32 v) (hx : R32 x) (hw2 : R32 w) (hn : 0 ≤ (h 49 29) ∧ (h 49 29) ≤ 150) (hn2 : 0 ≤ (h 49 30) ∧ (h 49 30) ≤ 150) (hxy : ∀ p : Nat, (p : Int) ≤ (h 49 29) → (0 ≤ h 60 (0 + p) ∧ h 60 (0 + p) ≤ 400 ∧ 0 ≤ h 61 (0 + p) ∧ h 61 (0 + p) ≤ 400) ∧ (h 62 (0 + p) = 0 ∨ h 62 (0 + p) = 1)) (hxy2 : ∀ p : Nat, (p : Int) ≤ (h 49 30) → (0 ≤ h 60 (151 + p) ∧ h 60 (151 + p) ≤ 400 ∧ 0 ≤ h 61 (151 + p) ∧ h 61 (151 + p) ≤ 400) ∧ (h 62 (151 + p) = 0 ∨ h 62 (151 + p) = 1)) {P : Int → Hp → Prop} (k : ∀ h' : Hp, (FrM h h') → P (if (1 ≤ v ∧ v ≤ (h 49 3)) ∧ (0 ≤ w ∧ w ≤ 3) then fnJ (gatL (fun p => h 60 (0 + p)) (fun p => h 61 (0 + p)) (fun p => h 62 (0 + p)) x (h 49 29).toNat) (gatL (fun p => h 60 (151 + p)) (fun p => h 61 (151 + p)) (fun p => h 62 (151 + p)) (x - v) (h 49 30).toNat) w else -1) h') : Cl d mX12_joint [.inr (.inr 49), .inl v, .inl x, .inl w] h (pI P) := by
  refine Cl.of (L := [some (.inr (.inr 49)), some (.inl v), some (.inl x), some (.inl w), none, none, none, none, none, none, none]) (by decide +kernel) (Nat.le_of_ble_eq_true rfl) rfl ?_
  obtain ⟨d, rfl⟩ : ∃ q, d = q + 1 := ⟨d - 1, by omega⟩
  refine r_aload_n dX12_joint_0 rfl rfl ?_
  refine r_iconst dX12_joint_1 ?_
  refine r_putI dX12_joint_2 fl_X12_127 sh_49 rfl ?_
  refine r_gh (fun g eg => ?_)
  have f : FrM h g := by rw [eg]; exact FrM.rf.up rfl
  have e3 : g 49 3 = h 49 3 := f 49 3 rfl
  have e4 : g 49 4 = h 49 4 := f 49 4 rfl
  have e5 : g 49 5 = h 49 5 := f 49 5 rfl
  have e6 : g 49 6 = h 49 6 := f 49 6 rfl
  have e7 : g 49 7 = h 49 7 := f 49 7 rfl
  have e8 : g 49 8 = h 49 8 := f 49 8 rfl
  have e29 : g 49 29 = h 49 29 := f 49 29 rfl
  have e30 : g 49 30 = h 49 30 := f 49 30 rfl
  have ea60 : g 60 = h 60 := funext fun j => f 60 j rfl
  have ea61 : g 61 = h 61 := funext fun j => f 61 j rfl
  have ea62 : g 62 = h 62 := funext fun j => f 62 j rfl
  have w : MOK g := by omega
  rw [← e29, ← ea60, ← ea61, ← ea62] at hxy
  rw [← e30, ← ea60, ← ea61, ← ea62] at hxy2
  rw [← e3, ← e29, ← e30, ← ea60, ← ea61, ← ea62] at k
  refine r_aload_n dX12_joint_5 rfl rfl ?_
  refine r_iload_n dX12_joint_6 rfl rfl ?_
  refine r_callVI (av := [_]) (M' := mX12_isBeside) dX12_joint_7 vX12_isBeside ml_X12_411 sh_49 (by decide) rfl rfl rfl rfl (by simp [wtA]) (sp_X12_isBeside (by omega) (by omega) (by omega) (fun b_7 => ?_) (fun b_7 => ?_))
  · refine r_if_eq (tgt := 22) dX12_joint_10 rfl ⟨by decide, by decide⟩ (fun c_10 => absurd c_10 (by decide)) (fun c_10 => ?_)
    refine r_iload_n dX12_joint_13 rfl rfl ?_
    refine r_iconst dX12_joint_14 ?_
    refine r_iconst dX12_joint_15 ?_
    refine r_callSI (av := [_, _, _]) (M' := mX12_isIn) dX12_joint_16 sX12_isIn ml_X12_160 rfl rfl (by simp [wtA]) (sp_X12_isIn (by omega) (by omega) (by omega) (by omega) (fun b_16 => ?_) (fun b_16 => ?_))
    · refine r_if_ne (tgt := 24) dX12_joint_19 rfl ⟨by decide, by decide⟩ (fun c_19 => ?_) (fun c_19 => absurd c_19 (by decide))
      refine r_aload_n dX12_joint_24 rfl rfl ?_
      refine r_iconst dX12_joint_25 ?_
      refine r_aload_n dX12_joint_26 rfl rfl ?_
      refine r_getI dX12_joint_27 fl_X12_164 sh_49 rfl ?_
      refine r_iload_n dX12_joint_30 rfl rfl ?_
      refine r_iconst dX12_joint_31 ?_
      refine r_callVI (av := [_, _, _, _]) (M' := mX12_layHeights) dX12_joint_32 vX12_layHeights ml_X12_421 sh_49 (by decide) rfl rfl rfl rfl (by simp [wtA]) (sp_lay0 (by omega) hx (by omega) hxy (fun v1 g1 p0 p1 p2 p3 => ?_))
      refine r_istore (L' := [_, _, _, _, _, _, _, _, _, _, _]) dX12_joint_35 rfl (by decide) rfl ?_
      refine r_iload_n dX12_joint_37 rfl rfl ?_
      refine r_iload_n dX12_joint_38 rfl rfl ?_
      refine r_icmp_ge (tgt := 46) dX12_joint_39 rfl (by omega) (by omega) (fun c_39 => ?_) (fun c_39 => ?_)
      · refine r_aload_n dX12_joint_46 rfl rfl ?_
        refine r_sipush dX12_joint_47 (by decide +kernel) ?_
        refine r_aload_n dX12_joint_50 rfl rfl ?_
        refine r_getI dX12_joint_51 fl_X12_171 sh_49 rfl ?_
        refine r_iload_n dX12_joint_54 rfl rfl ?_
        refine r_iload_n dX12_joint_55 rfl rfl ?_
        refine r_isub dX12_joint_56 ?_
        refine r_sipush dX12_joint_57 (by decide +kernel) ?_
        refine r_callVI (av := [_, _, _, _]) (M' := mX12_layHeights) dX12_joint_60 vX12_layHeights ml_X12_421 sh_49 (by decide) rfl rfl rfl rfl (by simp [wtA]) (sp_lay1 (by omega) (by omega) (by rw [p0 49 30 (by decide)]; omega) (fun p hp => by rw [p0 49 30 (by decide)] at hp; rw [p0 60 _ (by decide), p0 61 _ (by decide), p0 62 _ (by decide)]; exact hxy2 p hp) (fun v2 g2 q0 q1 q2 q3 => ?_))
        sorry
      · refine r_iconst dX12_joint_42 ?_
        refine r_goto (tgt := 63) dX12_joint_43 rfl ?_
        sorry
    · refine r_if_ne (tgt := 24) dX12_joint_19 rfl ⟨by decide, by decide⟩ (fun c_19 => absurd c_19 (by decide)) (fun c_19 => ?_)
      refine r_iconst dX12_joint_22 ?_
      refine r_iret dX12_joint_23 rfl ?_
      refine ⟨_, rfl, eqP (k g f) ?_⟩
      rw [if_neg (by omega)]
  · refine r_if_eq (tgt := 22) dX12_joint_10 rfl ⟨by decide, by decide⟩ (fun c_10 => ?_) (fun c_10 => absurd c_10 (by decide))
    refine r_iconst dX12_joint_22 ?_
    refine r_iret dX12_joint_23 rfl ?_
    refine ⟨_, rfl, eqP (k g f) ?_⟩
    rw [if_neg (by omega)]
