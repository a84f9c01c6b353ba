set_option maxRecDepth 20000 in
set_option maxHeartbeats 400000 in
theorem sp_lay0 {d : Nat} (hd : 1 ≤ d) {nm X : Int} {h : Hp}  (hX : R32 X) (hn : 0 ≤ nm ∧ nm ≤ 150) (hxy : ∀ p : Nat, (p : Int) ≤ nm → (0 ≤ h 60 (0 + p) ∧ h 60 (0 + p) ≤ 400 ∧ 0 ≤ h 61 (0 + p) ∧ h 61 (0 + p) ≤ 400) ∧ (h 62 (0 + p) = 0 ∨ h 62 (0 + p) = 1)) {P : Int → Hp → Prop} (k : ∀ (rr : Int), ∀ h' : Hp, (∀ a k, a ≠ 79 → h' a k = h a k) → (∀ k : Nat, k < 0 → h' 79 k = h 79 k) → (RV (fun k => h' 79 (0 + k)) (gatL (fun p => h 60 (0 + p)) (fun p => h 61 (0 + p)) (fun p => h 62 (0 + p)) X nm.toNat)) → (rr = (gatL (fun p => h 60 (0 + p)) (fun p => h 61 (0 + p)) (fun p => h 62 (0 + p)) X nm.toNat).length) → P (rr) h') : Cl d mX12_layHeights [.inr (.inr 49), .inl 0, .inl nm, .inl X, .inl 0] h (pI P) := by
  refine Cl.of (L := [some (.inr (.inr 49)), some (.inl 0), some (.inl nm), some (.inl X), some (.inl 0), none, none, none, none]) (by decide +kernel) (Nat.le_of_ble_eq_true rfl) rfl ?_
  refine r_iconst dX12_layHeights_0 ?_
  refine r_istore (L' := [_, _, _, _, _, _, _, _, _]) dX12_layHeights_1 rfl (by decide) rfl ?_
  refine r_iload_n dX12_layHeights_3 rfl rfl ?_
  refine r_iconst dX12_layHeights_4 ?_
  refine r_iadd dX12_layHeights_5 ?_
  refine r_istore (L' := [_, _, _, _, _, _, _, _, _]) dX12_layHeights_6 rfl (by decide) rfl ?_
  exact lp_lay8 (b := 0) (t := 0) (by decide) (by decide) hX hn hxy (fun g z1 z2 z3 => k _ g z1 z2 z3 rfl) 151 0 0 _ h _ _ (by omega) rfl (fun _ _ _ => rfl) (fun _ _ => rfl) trivial rfl (by omega)
set_option maxRecDepth 20000 in
set_option maxHeartbeats 400000 in
theorem sp_lay1 {d : Nat} (hd : 1 ≤ d) {nm X : Int} {h : Hp}  (hX : R32 X) (hn : 0 ≤ nm ∧ nm ≤ 150) (hxy : ∀ p : Nat, (p : Int) ≤ nm → (0 ≤ h 60 (151 + p) ∧ h 60 (151 + p) ≤ 400 ∧ 0 ≤ h 61 (151 + p) ∧ h 61 (151 + p) ≤ 400) ∧ (h 62 (151 + p) = 0 ∨ h 62 (151 + p) = 1)) {P : Int → Hp → Prop} (k : ∀ (rr : Int), ∀ h' : Hp, (∀ a k, a ≠ 79 → h' a k = h a k) → (∀ k : Nat, k < 300 → h' 79 k = h 79 k) → (RV (fun k => h' 79 (300 + k)) (gatL (fun p => h 60 (151 + p)) (fun p => h 61 (151 + p)) (fun p => h 62 (151 + p)) X nm.toNat)) → (rr = (gatL (fun p => h 60 (151 + p)) (fun p => h 61 (151 + p)) (fun p => h 62 (151 + p)) X nm.toNat).length) → P (rr) h') : Cl d mX12_layHeights [.inr (.inr 49), .inl 151, .inl nm, .inl X, .inl 300] h (pI P) := by
  refine Cl.of (L := [some (.inr (.inr 49)), some (.inl 151), some (.inl nm), some (.inl X), some (.inl 300), none, none, none, none]) (by decide +kernel) (Nat.le_of_ble_eq_true rfl) rfl ?_
  refine r_iconst dX12_layHeights_0 ?_
  refine r_istore (L' := [_, _, _, _, _, _, _, _, _]) dX12_layHeights_1 rfl (by decide) rfl ?_
  refine r_iload_n dX12_layHeights_3 rfl rfl ?_
  refine r_iconst dX12_layHeights_4 ?_
  refine r_iadd dX12_layHeights_5 ?_
  refine r_istore (L' := [_, _, _, _, _, _, _, _, _]) dX12_layHeights_6 rfl (by decide) rfl ?_
  exact lp_lay8 (b := 151) (t := 300) (by decide) (by decide) hX hn hxy (fun g z1 z2 z3 => k _ g z1 z2 z3 rfl) 151 0 0 _ h _ _ (by omega) rfl (fun _ _ _ => rfl) (fun _ _ => rfl) trivial rfl (by omega)
set_option maxRecDepth 20000 in
set_option maxHeartbeats 400000 in
theorem lp_mjoin {d : Nat} (hd : 1 ≤ d) {P : Int → Hp → Prop} {h : Hp} {v x w : Int} {r s : List Int} (hw : 0 ≤ w ∧ w ≤ 3) (hr : LB 400 r) (hs : LB 400 s) (hl : r.length ≤ 300 ∧ s.length ≤ 300) (r1 : RV (fun k => h 79 (0 + k)) r) (r2 : RV (fun k => h 79 (300 + k)) s) (k : P (fnJ r s w) h) : ∀ (nn : Nat) (i : Nat) (a1 a2 : Int) (o : Option AV), (i ≤ mnL r s) → (a1 = sumN (gap r s) i) → (a2 = gapM r s i) → mnL r s - i < nn → WW mX12_joint (d + 1) (pI P) 90 [some (.inr (.inr 49)), some (.inl v), some (.inl x), some (.inl w), some (.inl (r.length : Int)), some (.inl (s.length : Int)), some (.inl a1), some (.inl a2), some (.inl (mnL r s : Int)), some (.inl (i : Int)), o] [] h := by
  intro nn
  induction nn with
  | zero => intro i a1 a2 o hi h1 h2; intros; omega
  | succ nn ih =>
    intro i a1 a2 o hi h1 h2 hmu
    have hm : mnL r s ≤ r.length ∧ mnL r s ≤ s.length ∧ (mnL r s = r.length ∨ mnL r s = s.length) := by unfold mnL; split <;> omega
    have b1 := sumN_r (f := gap r s) (B := 400) i (fun j _ => gap_r hr hs j)
    have b2 := gapM_r hr hs i
    have b3 := nth_r (by decide) hr i
    have b4 := nth_r (by decide) hs i
    have b5 := gap_r hr hs i
    refine r_iload dX12_joint_90 rfl ?_
    refine r_iload dX12_joint_92 rfl ?_
    refine r_icmp_ge (tgt := 150) dX12_joint_94 rfl (by omega) (by omega) (fun c_94 => ?_) (fun c_94 => ?_)
    · refine r_iload_n dX12_joint_150 rfl rfl ?_
      refine r_if_ne (tgt := 159) dX12_joint_151 rfl (by omega) (fun c_151 => ?_) (fun c_151 => ?_)
      · refine r_iload_n dX12_joint_159 rfl rfl ?_
        refine r_iconst dX12_joint_160 ?_
        refine r_icmp_ne (tgt := 169) dX12_joint_161 rfl (by omega) ⟨by decide, by decide⟩ (fun c_161 => ?_) (fun c_161 => ?_)
        · refine r_iload_n dX12_joint_169 rfl rfl ?_
          refine r_iconst dX12_joint_170 ?_
          refine r_icmp_ne (tgt := 179) dX12_joint_171 rfl (by omega) ⟨by decide, by decide⟩ (fun c_171 => ?_) (fun c_171 => ?_)
          · refine r_iload dX12_joint_179 rfl ?_
            refine r_iload dX12_joint_181 rfl ?_
            refine r_iadd dX12_joint_183 ?_
            refine r_iconst dX12_joint_184 ?_
            refine r_iload dX12_joint_185 rfl ?_
            refine r_imul dX12_joint_187 ?_
            refine r_isub dX12_joint_188 ?_
            refine r_iret dX12_joint_189 rfl ?_
            have e0 : i = mnL r s := by omega
            subst e0
            refine ⟨_, rfl, eqP k ?_⟩
            unfold fnJ
            first
              | rw [if_pos (by omega)]
              | (rw [if_neg (by omega), if_pos (by omega)]; exact h1.symm)
              | (rw [if_neg (by omega), if_neg (by omega), if_pos (by omega)]; exact h2.symm)
              | (rw [if_neg (by omega), if_neg (by omega), if_neg (by omega)]; omega)
          · refine r_iload dX12_joint_174 rfl ?_
            refine r_goto (tgt := 189) dX12_joint_176 rfl ?_
            refine r_iret dX12_joint_189 rfl ?_
            have e0 : i = mnL r s := by omega
            subst e0
            refine ⟨_, rfl, eqP k ?_⟩
            unfold fnJ
            first
              | rw [if_pos (by omega)]
              | (rw [if_neg (by omega), if_pos (by omega)]; exact h1.symm)
              | (rw [if_neg (by omega), if_neg (by omega), if_pos (by omega)]; exact h2.symm)
              | (rw [if_neg (by omega), if_neg (by omega), if_neg (by omega)]; omega)
        · refine r_iload dX12_joint_164 rfl ?_
          refine r_goto (tgt := 189) dX12_joint_166 rfl ?_
          refine r_iret dX12_joint_189 rfl ?_
          have e0 : i = mnL r s := by omega
          subst e0
          refine ⟨_, rfl, eqP k ?_⟩
          unfold fnJ
          first
            | rw [if_pos (by omega)]
            | (rw [if_neg (by omega), if_pos (by omega)]; exact h1.symm)
            | (rw [if_neg (by omega), if_neg (by omega), if_pos (by omega)]; exact h2.symm)
            | (rw [if_neg (by omega), if_neg (by omega), if_neg (by omega)]; omega)
      · refine r_iload dX12_joint_154 rfl ?_
        refine r_goto (tgt := 189) dX12_joint_156 rfl ?_
        refine r_iret dX12_joint_189 rfl ?_
        have e0 : i = mnL r s := by omega
        subst e0
        refine ⟨_, rfl, eqP k ?_⟩
        unfold fnJ
        first
          | rw [if_pos (by omega)]
          | (rw [if_neg (by omega), if_pos (by omega)]; exact h1.symm)
          | (rw [if_neg (by omega), if_neg (by omega), if_pos (by omega)]; exact h2.symm)
          | (rw [if_neg (by omega), if_neg (by omega), if_neg (by omega)]; omega)
    · have q1 : h 79 (i : Int).toNat = nth r i := by rw [Int.toNat_natCast, ← Nat.zero_add i]; exact (r1.nth i (by omega)).trans (by rw [Nat.zero_add])
      have q2 : h 79 (300 + (i : Int)).toNat = nth s i := by rw [show (300 + (i : Int)).toNat = 300 + i by omega]; exact r2.nth i (by omega)
      refine r_aload_n dX12_joint_97 rfl rfl ?_
      refine r_getR dX12_joint_98 fl_X12_118 sh_49 rfl ?_
      refine r_iload dX12_joint_101 rfl ?_
      refine r_iald dX12_joint_103 sh_79 (by decide) (by omega) ?_
      refine r_aload_n dX12_joint_104 rfl rfl ?_
      refine r_getR dX12_joint_105 fl_X12_118 sh_49 rfl ?_
      refine r_sipush dX12_joint_108 (by decide +kernel) ?_
      refine r_iload dX12_joint_111 rfl ?_
      refine r_iadd dX12_joint_113 ?_
      refine r_iald dX12_joint_114 sh_79 (by decide) (by omega) ?_
      refine r_isub dX12_joint_115 ?_
      refine r_callSI (av := [_]) (M' := mX12_sizeOf) dX12_joint_116 sX12_sizeOf ml_X12_198 rfl rfl (by simp [wtA]) (sp_X12_sizeOf (by omega) (by omega) ?_)
      refine r_eqI (y := gap r s i) (by unfold gap; rw [← q1, ← q2]) ?_
      refine r_istore (L' := [_, _, _, _, _, _, _, _, _, _, _]) dX12_joint_119 rfl (by decide) rfl ?_
      refine r_iload dX12_joint_121 rfl ?_
      refine r_iload dX12_joint_123 rfl ?_
      refine r_iadd dX12_joint_125 ?_
      refine r_istore (L' := [_, _, _, _, _, _, _, _, _, _, _]) dX12_joint_126 rfl (by decide) rfl ?_
      refine r_iload dX12_joint_128 rfl ?_
      refine r_iload dX12_joint_130 rfl ?_
      refine r_icmp_le (tgt := 140) dX12_joint_132 rfl (by omega) (by omega) (fun c_132 => ?_) (fun c_132 => ?_)
      · refine r_iload dX12_joint_140 rfl ?_
        refine r_istore (L' := [_, _, _, _, _, _, _, _, _, _, _]) dX12_joint_142 rfl (by decide) rfl ?_
        refine r_iinc (L' := [_, _, _, _, _, _, _, _, _, _, _]) dX12_joint_144 rfl rfl (by decide) rfl ?_
        refine r_goto (tgt := 90) dX12_joint_147 rfl ?_
        refine ih (i + 1) _ _ _ (by omega) ?_ ?_ (by omega)
        · show _ = sumN (gap r s) i + gap r s i
          omega
        · show _ = max (gapM r s i) (gap r s i)
          omega
      · refine r_iload dX12_joint_135 rfl ?_
        refine r_goto (tgt := 142) dX12_joint_137 rfl ?_
        refine r_istore (L' := [_, _, _, _, _, _, _, _, _, _, _]) dX12_joint_142 rfl (by decide) rfl ?_
        refine r_iinc (L' := [_, _, _, _, _, _, _, _, _, _, _]) dX12_joint_144 rfl rfl (by decide) rfl ?_
        refine r_goto (tgt := 90) dX12_joint_147 rfl ?_
        refine ih (i + 1) _ _ _ (by omega) ?_ ?_ (by omega)
        · show _ = sumN (gap r s) i + gap r s i
          omega
        · show _ = max (gapM r s i) (gap r s i)
          omega
theorem gatL_neg {x y c : Nat → Int} {X : Int} (hX : X < 0) : ∀ {m : Nat}, (∀ k : Nat, k ≤ m → 0 ≤ x k) → gatL x y c X m = []
  | 0, _ => rfl
  | m + 1, h => by
    have i := gatL_neg (y := y) (c := c) hX (m := m) (fun k hk => h k (by omega))
    have a := h m (by omega)
    have b := h (m + 1) (by omega)
    rw [gatL]
    split
    · exact i
    · unfold gs
      rw [if_neg (by omega), if_neg (by omega)]
      exact i
theorem RV.sub {f : Nat → Int} {r : List Int} (h : RV (fun k => f (0 + k)) r) {g : Nat → Int} (hl : r.length ≤ 300) (e : ∀ k : Nat, k < 300 → g k = f k) : RV (fun k => g (0 + k)) r := h.cg (fun k hk => e _ (by omega))
set_option maxRecDepth 20000 in
set_option maxHeartbeats 400000 in
theorem lp_mj65 {d : Nat} (hd : 1 ≤ d) {P : Int → Hp → Prop} {h : Hp} {v x w : Int} {r s : List Int} (hw : 0 ≤ w ∧ w ≤ 3) (hr : LB 400 r) (hs : LB 400 s) (hl : r.length ≤ 300 ∧ s.length ≤ 300) (r1 : RV (fun k => h 79 (0 + k)) r) (r2 : RV (fun k => h 79 (300 + k)) s) (k : P (fnJ r s w) h) : ∀ (nn : Nat) (o6 o7 o8 o9 o10 : Option AV), (True) → 0 < nn → WW mX12_joint (d + 1) (pI P) 65 [some (.inr (.inr 49)), some (.inl v), some (.inl x), some (.inl w), some (.inl (r.length : Int)), some (.inl (s.length : Int)), o6, o7, o8, o9, o10] [] h := by
  intro nn
  induction nn with
  | zero => intro o6 o7 o8 o9 o10 hu; intros; omega
  | succ nn ih =>
    intro o6 o7 o8 o9 o10 hu hmu
    refine r_iconst dX12_joint_65 ?_
    refine r_istore (L' := [_, _, _, _, _, _, _, _, _, _, _]) dX12_joint_66 rfl (by decide) rfl ?_
    refine r_iconst dX12_joint_68 ?_
    refine r_istore (L' := [_, _, _, _, _, _, _, _, _, _, _]) dX12_joint_69 rfl (by decide) rfl ?_
    refine r_iload dX12_joint_71 rfl ?_
    refine r_iload dX12_joint_73 rfl ?_
    refine r_icmp_ge (tgt := 83) dX12_joint_75 rfl (by omega) (by omega) (fun c_75 => ?_) (fun c_75 => ?_)
    · refine r_iload dX12_joint_83 rfl ?_
      refine r_eqI (y := (mnL r s : Int)) (by unfold mnL; split <;> omega) ?_
      refine r_istore (L' := [_, _, _, _, _, _, _, _, _, _, _]) dX12_joint_85 rfl (by decide) rfl ?_
      refine r_iconst dX12_joint_87 ?_
      refine r_istore (L' := [_, _, _, _, _, _, _, _, _, _, _]) dX12_joint_88 rfl (by decide) rfl ?_
      exact lp_mjoin hd hw hr hs hl r1 r2 k 301 0 0 0 _ (by omega) rfl rfl (by unfold mnL; split <;> omega)
    · refine r_iload dX12_joint_78 rfl ?_
      refine r_goto (tgt := 85) dX12_joint_80 rfl ?_
      refine r_eqI (y := (mnL r s : Int)) (by unfold mnL; split <;> omega) ?_
      refine r_istore (L' := [_, _, _, _, _, _, _, _, _, _, _]) dX12_joint_85 rfl (by decide) rfl ?_
      refine r_iconst dX12_joint_87 ?_
      refine r_istore (L' := [_, _, _, _, _, _, _, _, _, _, _]) dX12_joint_88 rfl (by decide) rfl ?_
      exact lp_mjoin hd hw hr hs hl r1 r2 k 301 0 0 0 _ (by omega) rfl rfl (by unfold mnL; split <;> omega)
set_option maxRecDepth 20000 in
set_option maxHeartbeats 400000 in
theorem sp_X12_joint {d : Nat} (hd : 5 ≤ d) {v x w : Int} {h : Hp}  (hw : MOK h) (hv : R32 v) (hx : R32 x) (hw2 : R32 w) (hn : 0 ≤ (h 49 29) ∧ (h 49 29) ≤ 150) (hn2 : 0 ≤ (h 49 30) ∧ (h 49 30) ≤ 150) (hxy : ∀ p : Nat, (p : Int) ≤ (h 49 29) → (0 ≤ h 60 (0 + p) ∧ h 60 (0 + p) ≤ 400 ∧ 0 ≤ h 61 (0 + p) ∧ h 61 (0 + p) ≤ 400) ∧ (h 62 (0 + p) = 0 ∨ h 62 (0 + p) = 1)) (hxy2 : ∀ p : Nat, (p : Int) ≤ (h 49 30) → (0 ≤ h 60 (151 + p) ∧ h 60 (151 + p) ≤ 400 ∧ 0 ≤ h 61 (151 + p) ∧ h 61 (151 + p) ≤ 400) ∧ (h 62 (151 + p) = 0 ∨ h 62 (151 + p) = 1)) {P : Int → Hp → Prop} (k : ∀ h' : Hp, (FrM h h') → P (if (1 ≤ v ∧ v ≤ (h 49 3)) ∧ (0 ≤ w ∧ w ≤ 3) then fnJ (gatL (fun p => h 60 (0 + p)) (fun p => h 61 (0 + p)) (fun p => h 62 (0 + p)) x (h 49 29).toNat) (gatL (fun p => h 60 (151 + p)) (fun p => h 61 (151 + p)) (fun p => h 62 (151 + p)) (x - v) (h 49 30).toNat) w else -1) h') : Cl d mX12_joint [.inr (.inr 49), .inl v, .inl x, .inl w] h (pI P) := by
  refine Cl.of (L := [some (.inr (.inr 49)), some (.inl v), some (.inl x), some (.inl w), none, none, none, none, none, none, none]) (by decide +kernel) (Nat.le_of_ble_eq_true rfl) rfl ?_
  obtain ⟨d, rfl⟩ : ∃ q, d = q + 1 := ⟨d - 1, by omega⟩
  refine r_aload_n dX12_joint_0 rfl rfl ?_
  refine r_iconst dX12_joint_1 ?_
  refine r_putI dX12_joint_2 fl_X12_127 sh_49 rfl ?_
  refine r_gh (fun g eg => ?_)
  have f : FrM h g := by rw [eg]; exact FrM.rf.up rfl
  have e3 : g 49 3 = h 49 3 := f 49 3 rfl
  have e4 : g 49 4 = h 49 4 := f 49 4 rfl
  have e5 : g 49 5 = h 49 5 := f 49 5 rfl
  have e6 : g 49 6 = h 49 6 := f 49 6 rfl
  have e7 : g 49 7 = h 49 7 := f 49 7 rfl
  have e8 : g 49 8 = h 49 8 := f 49 8 rfl
  have e29 : g 49 29 = h 49 29 := f 49 29 rfl
  have e30 : g 49 30 = h 49 30 := f 49 30 rfl
  have ea60 : g 60 = h 60 := funext fun j => f 60 j rfl
  have ea61 : g 61 = h 61 := funext fun j => f 61 j rfl
  have ea62 : g 62 = h 62 := funext fun j => f 62 j rfl
  have w : MOK g := by omega
  rw [← e29, ← ea60, ← ea61, ← ea62] at hxy
  rw [← e30, ← ea60, ← ea61, ← ea62] at hxy2
  rw [← e3, ← e29, ← e30, ← ea60, ← ea61, ← ea62] at k
  refine r_aload_n dX12_joint_5 rfl rfl ?_
  refine r_iload_n dX12_joint_6 rfl rfl ?_
  refine r_callVI (av := [_]) (M' := mX12_isBeside) dX12_joint_7 vX12_isBeside ml_X12_411 sh_49 (by decide) rfl rfl rfl rfl (by simp [wtA]) (sp_X12_isBeside (by omega) (by omega) (by omega) (fun b_7 => ?_) (fun b_7 => ?_))
  · refine r_if_eq (tgt := 22) dX12_joint_10 rfl ⟨by decide, by decide⟩ (fun c_10 => absurd c_10 (by decide)) (fun c_10 => ?_)
    refine r_iload_n dX12_joint_13 rfl rfl ?_
    refine r_iconst dX12_joint_14 ?_
    refine r_iconst dX12_joint_15 ?_
    refine r_callSI (av := [_, _, _]) (M' := mX12_isIn) dX12_joint_16 sX12_isIn ml_X12_160 rfl rfl (by simp [wtA]) (sp_X12_isIn (by omega) (by omega) (by omega) (by omega) (fun b_16 => ?_) (fun b_16 => ?_))
    · refine r_if_ne (tgt := 24) dX12_joint_19 rfl ⟨by decide, by decide⟩ (fun c_19 => ?_) (fun c_19 => absurd c_19 (by decide))
      refine r_aload_n dX12_joint_24 rfl rfl ?_
      refine r_iconst dX12_joint_25 ?_
      refine r_aload_n dX12_joint_26 rfl rfl ?_
      refine r_getI dX12_joint_27 fl_X12_164 sh_49 rfl ?_
      refine r_iload_n dX12_joint_30 rfl rfl ?_
      refine r_iconst dX12_joint_31 ?_
      refine r_callVI (av := [_, _, _, _]) (M' := mX12_layHeights) dX12_joint_32 vX12_layHeights ml_X12_421 sh_49 (by decide) rfl rfl rfl rfl (by simp [wtA]) (sp_lay0 (by omega) hx (by omega) hxy (fun v1 g1 p0 p1 p2 p3 => ?_))
      refine r_istore (L' := [_, _, _, _, _, _, _, _, _, _, _]) dX12_joint_35 rfl (by decide) rfl ?_
      refine r_iload_n dX12_joint_37 rfl rfl ?_
      refine r_iload_n dX12_joint_38 rfl rfl ?_
      refine r_icmp_ge (tgt := 46) dX12_joint_39 rfl (by omega) (by omega) (fun c_39 => ?_) (fun c_39 => ?_)
      · refine r_aload_n dX12_joint_46 rfl rfl ?_
        refine r_sipush dX12_joint_47 (by decide +kernel) ?_
        refine r_aload_n dX12_joint_50 rfl rfl ?_
        refine r_getI dX12_joint_51 fl_X12_171 sh_49 rfl ?_
        refine r_iload_n dX12_joint_54 rfl rfl ?_
        refine r_iload_n dX12_joint_55 rfl rfl ?_
        refine r_isub dX12_joint_56 ?_
        refine r_sipush dX12_joint_57 (by decide +kernel) ?_
        refine r_callVI (av := [_, _, _, _]) (M' := mX12_layHeights) dX12_joint_60 vX12_layHeights ml_X12_421 sh_49 (by decide) rfl rfl rfl rfl (by simp [wtA]) (sp_lay1 (by omega) (by omega) (by rw [p0 49 30 (by decide)]; omega) (fun p hp => by rw [p0 49 30 (by decide)] at hp; rw [p0 60 _ (by decide), p0 61 _ (by decide), p0 62 _ (by decide)]; exact hxy2 p hp) (fun v2 g2 q0 q1 q2 q3 => ?_))
        refine r_istore (L' := [_, _, _, _, _, _, _, _, _, _, _]) dX12_joint_63 rfl (by decide) rfl ?_
        have len1 := gatL_len (fun p => g 60 (0 + p)) (fun p => g 61 (0 + p)) (fun p => g 62 (0 + p)) x (g 49 29).toNat
        have len2 := gatL_len (fun p => g 60 (151 + p)) (fun p => g 61 (151 + p)) (fun p => g 62 (151 + p)) (x - v) (g 49 30).toNat
        have lb1 : LB 400 (gatL (fun p => g 60 (0 + p)) (fun p => g 61 (0 + p)) (fun p => g 62 (0 + p)) x (g 49 29).toNat) := gatL_LB (fun k hk => ⟨(hxy k (by omega)).1.2.2.1, (hxy k (by omega)).1.2.2.2⟩)
        have lb2 : LB 400 (gatL (fun p => g 60 (151 + p)) (fun p => g 61 (151 + p)) (fun p => g 62 (151 + p)) (x - v) (g 49 30).toNat) := gatL_LB (fun k hk => ⟨(hxy2 k (by omega)).1.2.2.1, (hxy2 k (by omega)).1.2.2.2⟩)
        have f1 : FrM h g1 := f.tr (fun a q z => p0 a q (by rintro rfl; cases z))
        rw [if_pos (by omega)] at k
        rw [p0 49 30 (by decide), show g1 60 = g 60 from funext fun j => p0 60 j (by decide), show g1 61 = g 61 from funext fun j => p0 61 j (by decide), show g1 62 = g 62 from funext fun j => p0 62 j (by decide)] at q2 q3
        have f2 : FrM h g2 := f1.tr (fun a q z => q0 a q (by rintro rfl; cases z))
        subst p3
        subst q3
        exact lp_mj65 (by omega) (by omega) lb1 lb2 ⟨by omega, by omega⟩ (RV.sub p2 (by omega) q1) q2 (k g2 f2) 1 _ _ _ _ _ trivial (by omega)
      · refine r_iconst dX12_joint_42 ?_
        refine r_goto (tgt := 63) dX12_joint_43 rfl ?_
        refine r_istore (L' := [_, _, _, _, _, _, _, _, _, _, _]) dX12_joint_63 rfl (by decide) rfl ?_
        have len1 := gatL_len (fun p => g 60 (0 + p)) (fun p => g 61 (0 + p)) (fun p => g 62 (0 + p)) x (g 49 29).toNat
        have len2 := gatL_len (fun p => g 60 (151 + p)) (fun p => g 61 (151 + p)) (fun p => g 62 (151 + p)) (x - v) (g 49 30).toNat
        have lb1 : LB 400 (gatL (fun p => g 60 (0 + p)) (fun p => g 61 (0 + p)) (fun p => g 62 (0 + p)) x (g 49 29).toNat) := gatL_LB (fun k hk => ⟨(hxy k (by omega)).1.2.2.1, (hxy k (by omega)).1.2.2.2⟩)
        have lb2 : LB 400 (gatL (fun p => g 60 (151 + p)) (fun p => g 61 (151 + p)) (fun p => g 62 (151 + p)) (x - v) (g 49 30).toNat) := gatL_LB (fun k hk => ⟨(hxy2 k (by omega)).1.2.2.1, (hxy2 k (by omega)).1.2.2.2⟩)
        have f1 : FrM h g1 := f.tr (fun a q z => p0 a q (by rintro rfl; cases z))
        rw [if_pos (by omega)] at k
        have en : (gatL (fun p => g 60 (151 + p)) (fun p => g 61 (151 + p)) (fun p => g 62 (151 + p)) (x - v) (g 49 30).toNat) = [] := gatL_neg (by omega) (fun k hk => (hxy2 k (by omega)).1.1)
        rw [en] at k
        subst p3
        exact lp_mj65 (s := []) (by omega) (by omega) lb1 (fun _ hz => absurd hz List.not_mem_nil) ⟨by omega, by decide⟩ p2 trivial (k g1 f1) 1 _ _ _ _ _ trivial (by omega)
    · refine r_if_ne (tgt := 24) dX12_joint_19 rfl ⟨by decide, by decide⟩ (fun c_19 => absurd c_19 (by decide)) (fun c_19 => ?_)
      refine r_iconst dX12_joint_22 ?_
      refine r_iret dX12_joint_23 rfl ?_
      refine ⟨_, rfl, eqP (k g f) ?_⟩
      rw [if_neg (by omega)]
  · refine r_if_eq (tgt := 22) dX12_joint_10 rfl ⟨by decide, by decide⟩ (fun c_10 => ?_) (fun c_10 => absurd c_10 (by decide))
    refine r_iconst dX12_joint_22 ?_
    refine r_iret dX12_joint_23 rfl ?_
    refine ⟨_, rfl, eqP (k g f) ?_⟩
    rw [if_neg (by omega)]
theorem gatL_cg {x y c x2 y2 c2 : Nat → Int} {X : Int} : ∀ {m : Nat}, (∀ k : Nat, k ≤ m → x k = x2 k ∧ y k = y2 k ∧ c k = c2 k) → gatL x y c X m = gatL x2 y2 c2 X m
  | 0, _ => rfl
  | m + 1, h => by
    have i := gatL_cg (X := X) (m := m) (fun k hk => h k (by omega))
    have a := h m (by omega)
    have b := h (m + 1) (by omega)
    rw [gatL, gatL]
    unfold gs
    rw [i, a.1, a.2.1, b.1, b.2.1, b.2.2]
theorem REL.gat1 {h : Hp} (r : REL h) (X : Int) : gatL (h 17) (h 18) (h 19) X (h 16 0).toNat = gatL (fun p => h 60 (0 + p)) (fun p => h 61 (0 + p)) (fun p => h 62 (0 + p)) X (h 49 29).toNat := by
  rw [r.n.2.2]
  refine gatL_cg (fun k hk => ?_)
  have n := r.n
  have a := r.2.2.2.1.2.2.2 k (by omega)
  exact ⟨a.2.2.2.2.2.2.2.1.symm, a.2.2.2.2.2.2.2.2.1.symm, a.2.2.2.2.2.2.2.2.2.symm⟩
theorem REL.gat2 {h : Hp} (r : REL h) (X : Int) : gatL (h 24) (h 25) (h 26) X (h 23 0).toNat = gatL (fun p => h 60 (151 + p)) (fun p => h 61 (151 + p)) (fun p => h 62 (151 + p)) X (h 49 30).toNat := by
  rw [r.n2.2.2]
  refine gatL_cg (fun k hk => ?_)
  have n := r.n2
  have a := r.2.2.2.2.1.2.2.2 k (by omega)
  exact ⟨a.2.2.2.2.2.2.2.1.symm, a.2.2.2.2.2.2.2.2.1.symm, a.2.2.2.2.2.2.2.2.2.symm⟩
theorem pr_joint {d : Nat} (hd : 20 ≤ d) {v x w : Int} (hv : R32 v) (hx : R32 x) (hw : R32 w) : PR d mX11_joint mX12_joint [.inl v, .inl x, .inl w] := by
  intro h r
  have n := r.n
  have n2 := r.n2
  refine sp_X11_joint (by omega) r.1.1 hv hx hw (by omega) (by omega) (fun p hp => ?_) (fun p hp => ?_) (fun h1 f => ?_)
  · have a := r.2.2.2.1.2.2.2 p hp
    have := r.1
    omega
  · have a := r.2.2.2.2.1.2.2.2 p hp
    have := r.1
    omega
  have r1 := f.rel r
  have m1 := r1.n
  have m2 := r1.n2
  refine sp_X12_joint (by omega) r1.1.2.1 hv hx hw (by omega) (by omega) (fun p hp => ?_) (fun p hp => ?_) (fun h2 f2 => ⟨?_, f2.rel r1⟩)
  · have a := r1.2.2.2.1.2.2.2 p (by omega)
    have := r1.1
    omega
  · have a := r1.2.2.2.2.1.2.2.2 p (by omega)
    have := r1.1
    omega
  have q : ∀ a k, scrC a k = false → h1 a k = h a k := f.1
  rw [← q 16 0 rfl, ← q 23 0 rfl, ← q 1 0 rfl, ← (show h1 17 = h 17 from funext fun j => q 17 j rfl), ← (show h1 18 = h 18 from funext fun j => q 18 j rfl), ← (show h1 19 = h 19 from funext fun j => q 19 j rfl), ← (show h1 24 = h 24 from funext fun j => q 24 j rfl), ← (show h1 25 = h 25 from funext fun j => q 25 j rfl), ← (show h1 26 = h 26 from funext fun j => q 26 j rfl), r1.gat1, r1.gat2, r1.1.2.2.1]
