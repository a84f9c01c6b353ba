theorem r_gh {M : MI} {d : Nat} {post : Pst} {pc : Nat} {L : List (Option AV)} {st : List AV} {h : Hp} (k : ∀ g, g = h → WW M d post pc L st g) : WW M d post pc L st h := k h rfl
theorem up_self {h : Hp} {a k : Nat} : upH h a k (h a k) = h := by
  funext a2 k2
  unfold upH
  split
  · rename_i q; rw [q.1, q.2]
  · rfl
/-! PULLS, REACH, GRAIN -/
noncomputable def plF (G K E W x y : Int) : Int := (G * stF K E (100 * x) (100 * y) * (W - x)).tdiv (K * W * y)
theorem plF_r {G K E W x y : Int} (hG : 1 ≤ G ∧ G ≤ 99) (hK : 2 ≤ K ∧ K ≤ 20) (hE : 0 ≤ E ∧ E ≤ 99) (hW : 20 ≤ W ∧ W ≤ 200) (hx : 0 ≤ x ∧ x ≤ W) (hy : 1 ≤ y ∧ y ≤ 200) :
    0 ≤ plF G K E W x y ∧ plF G K E W x y ≤ 112068000 ∧ 0 ≤ G * stF K E (100 * x) (100 * y) ∧ G * stF K E (100 * x) (100 * y) ≤ 560340 ∧ 0 ≤ G * stF K E (100 * x) (100 * y) * (W - x) ∧ G * stF K E (100 * x) (100 * y) * (W - x) ≤ 112068000 ∧ 40 ≤ K * W ∧ K * W ≤ 4000 ∧ 1 ≤ K * W * y ∧ K * W * y ≤ 800000 := by
  have s1 := stF_r (K := K) (E := E) (x := 100 * x) (y := 100 * y) hK hE (by omega) (by omega)
  have s2 := mulR (a := G) (b := stF K E (100 * x) (100 * y)) (A := 99) (B := 5660) (by omega) (by omega)
  have s3 := mulR (a := G * stF K E (100 * x) (100 * y)) (b := W - x) (A := 560340) (B := 200) (by omega) (by omega)
  have s4 := mulR (a := K) (b := W) (A := 20) (B := 200) (by omega) (by omega)
  have s5 := mulR (a := K * W) (b := y) (A := 4000) (B := 200) (by omega) (by omega)
  have s6 : 2 * 20 ≤ K * W := Int.mul_le_mul (by omega) (by omega) (by omega) (by omega)
  have s7 : 40 * 1 ≤ K * W * y := Int.mul_le_mul (by omega) (by omega) (by omega) (by omega)
  have s8 := tdivNN (a := G * stF K E (100 * x) (100 * y) * (W - x)) (b := K * W * y) (by omega) (by omega)
  unfold plF
  omega
def sumN (f : Nat → Int) : Nat → Int
  | 0 => 0
  | n + 1 => sumN f n + f n
theorem sumN_r {f : Nat → Int} {B : Int} : ∀ (n : Nat), (∀ i, i < n → 0 ≤ f i ∧ f i ≤ B) → 0 ≤ sumN f n ∧ sumN f n ≤ B * n
  | 0, _ => by simp [sumN]
  | n + 1, h => by
    have h1 := sumN_r n (fun i hi => h i (by omega))
    have h2 := h n (by omega)
    have e : B * ((n + 1 : Nat) : Int) = B * n + B := by rw [Int.natCast_add, Int.mul_add]; simp
    simp only [sumN]
    omega
noncomputable def mayN (G K E W lim x y : Int) : Int := if plF G K E W x y ≤ lim ∧ plF G K E W (W - x) y ≤ lim then 1 else 0
noncomputable def rowN (G K E W lim y : Int) : Int := sumN (fun x => mayN G K E W lim (x : Int) y) (W + 1).toNat
noncomputable def rchF (G K E W H lim : Int) : Int := sumN (fun j => rowN G K E W lim ((j : Int) + 1)) H.toNat
theorem mayN_r (G K E W lim x y : Int) : 0 ≤ mayN G K E W lim x y ∧ mayN G K E W lim x y ≤ 1 := by
  unfold mayN
  split <;> omega
theorem cnt_r {f : Nat → Int} (hf : ∀ i, 0 ≤ f i ∧ f i ≤ 1) (n : Nat) : 0 ≤ sumN f n ∧ sumN f n ≤ n := by
  have := sumN_r (f := f) (B := 1) n (fun i _ => hf i)
  omega
theorem rowN_r {G K E W lim y : Int} (hW : 20 ≤ W ∧ W ≤ 200) : 0 ≤ rowN G K E W lim y ∧ rowN G K E W lim y ≤ 201 := by
  have := cnt_r (f := fun x => mayN G K E W lim (x : Int) y) (fun i => mayN_r _ _ _ _ _ _ _) (W + 1).toNat
  unfold rowN
  omega
set_option maxRecDepth 20000 in
set_option maxHeartbeats 400000 in
theorem sp_X10_leftPull {d : Nat} (hd : 3 ≤ d) {x y : Int} {h : Hp}  (hw : WOK h) (hx : 0 ≤ x ∧ x ≤ (h 1 0)) (hy : 1 ≤ y ∧ y ≤ (h 1 1)) {P : Int → Hp → Prop} (k : P (plF (h 1 4) (h 1 2) (h 1 3) (h 1 0) x y) (h)) : Cl d mX10_leftPull [.inr (.inr 1), .inl x, .inl y] h (pI P) := by
  refine Cl.of (L := [some (.inr (.inr 1)), some (.inl x), some (.inl y), none, none]) (by decide +kernel) (Nat.le_of_ble_eq_true rfl) rfl ?_
  obtain ⟨d, rfl⟩ : ∃ q, d = q + 1 := ⟨d - 1, by omega⟩
  have g1 := (plF_r (G := (h 1 4)) (K := (h 1 2)) (E := (h 1 3)) (W := (h 1 0)) (x := x) (y := y) (by omega) (by omega) (by omega) (by omega) (by omega) (by omega))
  have g2 := stF_r (K := (h 1 2)) (E := (h 1 3)) (x := 100 * x) (y := 100 * y) (by omega) (by omega) (by omega) (by omega)
  refine r_iload_n dX10_leftPull_0 rfl rfl ?_
  refine r_iconst dX10_leftPull_1 ?_
  refine r_icmp_ge (tgt := 7) dX10_leftPull_2 rfl (by omega) ⟨by decide, by decide⟩ (fun c_2 => ?_) (fun c_2 => absurd c_2 (by omega))
  refine r_aload_n dX10_leftPull_7 rfl rfl ?_
  refine r_getI dX10_leftPull_8 fl_X10_24 sh_1 rfl ?_
  refine r_i2l dX10_leftPull_11 (by omega) ?_
  refine r_aload_n dX10_leftPull_12 rfl rfl ?_
  refine r_ldc2 (z := 100) dX10_leftPull_13 kl_X10_50 (by decide +kernel) ?_
  refine r_iload_n dX10_leftPull_16 rfl rfl ?_
  refine r_i2l dX10_leftPull_17 (by omega) ?_
  refine r_lmul dX10_leftPull_18 ?_
  refine r_ldc2 (z := 100) dX10_leftPull_19 kl_X10_50 (by decide +kernel) ?_
  refine r_iload_n dX10_leftPull_22 rfl rfl ?_
  refine r_i2l dX10_leftPull_23 (by omega) ?_
  refine r_lmul dX10_leftPull_24 ?_
  refine r_callVI (av := [_, _]) (M' := mX10_leftSteps) dX10_leftPull_25 vX10_leftSteps ml_X10_52 sh_1 (by decide) rfl rfl rfl rfl (by simp [wtA]) (sp_X10_leftSteps (by omega) (by omega) (by omega) (by omega) ?_)
  refine r_i2l dX10_leftPull_28 (by omega) ?_
  refine r_lmul dX10_leftPull_29 ?_
  refine r_aload_n dX10_leftPull_30 rfl rfl ?_
  refine r_getI dX10_leftPull_31 fl_X10_9 sh_1 rfl ?_
  refine r_iload_n dX10_leftPull_34 rfl rfl ?_
  refine r_isub dX10_leftPull_35 ?_
  refine r_i2l dX10_leftPull_36 (by omega) ?_
  refine r_lmul dX10_leftPull_37 ?_
  refine r_lstore_n (L' := [_, _, _, _, _]) dX10_leftPull_38 rfl rfl (by decide) rfl ?_
  refine r_lload_n dX10_leftPull_39 rfl rfl ?_
  refine r_aload_n dX10_leftPull_40 rfl rfl ?_
  refine r_getI dX10_leftPull_41 fl_X10_18 sh_1 rfl ?_
  refine r_i2l dX10_leftPull_44 (by omega) ?_
  refine r_aload_n dX10_leftPull_45 rfl rfl ?_
  refine r_getI dX10_leftPull_46 fl_X10_9 sh_1 rfl ?_
  refine r_i2l dX10_leftPull_49 (by omega) ?_
  refine r_lmul dX10_leftPull_50 ?_
  refine r_iload_n dX10_leftPull_51 rfl rfl ?_
  refine r_i2l dX10_leftPull_52 (by omega) ?_
  refine r_lmul dX10_leftPull_53 ?_
  refine r_ldiv dX10_leftPull_54 (by omega) (by omega) (by omega) ?_
  refine r_l2i dX10_leftPull_55 ?_
  refine r_iret dX10_leftPull_56 rfl ?_
  exact ⟨_, rfl, k⟩
set_option maxRecDepth 20000 in
set_option maxHeartbeats 400000 in
theorem sp_X10_rightPull {d : Nat} (hd : 4 ≤ d) {x y : Int} {h : Hp}  (hw : WOK h) (hx : 0 ≤ x ∧ x ≤ (h 1 0)) (hy : 1 ≤ y ∧ y ≤ (h 1 1)) {P : Int → Hp → Prop} (k : P (plF (h 1 4) (h 1 2) (h 1 3) (h 1 0) ((h 1 0) - x) y) (h)) : Cl d mX10_rightPull [.inr (.inr 1), .inl x, .inl y] h (pI P) := by
  refine Cl.of (L := [some (.inr (.inr 1)), some (.inl x), some (.inl y)]) (by decide +kernel) (Nat.le_of_ble_eq_true rfl) rfl ?_
  obtain ⟨d, rfl⟩ : ∃ q, d = q + 1 := ⟨d - 1, by omega⟩
  refine r_aload_n dX10_rightPull_0 rfl rfl ?_
  refine r_aload_n dX10_rightPull_1 rfl rfl ?_
  refine r_getI dX10_rightPull_2 fl_X10_9 sh_1 rfl ?_
  refine r_iload_n dX10_rightPull_5 rfl rfl ?_
  refine r_isub dX10_rightPull_6 ?_
  refine r_iload_n dX10_rightPull_7 rfl rfl ?_
  refine r_callVI (av := [_, _]) (M' := mX10_leftPull) dX10_rightPull_8 vX10_leftPull ml_X10_81 sh_1 (by decide) rfl rfl rfl rfl (by simp [wtA]) (sp_X10_leftPull (by omega) (by omega) (by omega) (by omega) ?_)
  refine r_iret dX10_rightPull_11 rfl ?_
  exact ⟨_, rfl, k⟩
set_option maxRecDepth 20000 in
set_option maxHeartbeats 400000 in
theorem sp_X10_bears {d : Nat} (hd : 5 ≤ d) {x y : Int} {h : Hp}  (hw : WOK h) (hx : 0 ≤ x ∧ x ≤ (h 1 0)) (hy : 1 ≤ y ∧ y ≤ (h 1 1)) {P : Int → Hp → Prop} (kt : (plF (h 1 4) (h 1 2) (h 1 3) (h 1 0) x y ≤ (h 1 5) ∧ plF (h 1 4) (h 1 2) (h 1 3) (h 1 0) ((h 1 0) - x) y ≤ (h 1 5)) → P 1 h) (kf : ¬ (plF (h 1 4) (h 1 2) (h 1 3) (h 1 0) x y ≤ (h 1 5) ∧ plF (h 1 4) (h 1 2) (h 1 3) (h 1 0) ((h 1 0) - x) y ≤ (h 1 5)) → P 0 h) : Cl d mX10_bears [.inr (.inr 1), .inl x, .inl y] h (pI P) := by
  refine Cl.of (L := [some (.inr (.inr 1)), some (.inl x), some (.inl y)]) (by decide +kernel) (Nat.le_of_ble_eq_true rfl) rfl ?_
  obtain ⟨d, rfl⟩ : ∃ q, d = q + 1 := ⟨d - 1, by omega⟩
  have g1 := (plF_r (G := (h 1 4)) (K := (h 1 2)) (E := (h 1 3)) (W := (h 1 0)) (x := x) (y := y) (by omega) (by omega) (by omega) (by omega) (by omega) (by omega))
  have g2 := (plF_r (G := (h 1 4)) (K := (h 1 2)) (E := (h 1 3)) (W := (h 1 0)) (x := (h 1 0) - x) (y := y) (by omega) (by omega) (by omega) (by omega) (by omega) (by omega))
  refine r_aload_n dX10_bears_0 rfl rfl ?_
  refine r_iload_n dX10_bears_1 rfl rfl ?_
  refine r_iload_n dX10_bears_2 rfl rfl ?_
  refine r_callVI (av := [_, _]) (M' := mX10_leftPull) dX10_bears_3 vX10_leftPull ml_X10_81 sh_1 (by decide) rfl rfl rfl rfl (by simp [wtA]) (sp_X10_leftPull (by omega) (by omega) (by omega) (by omega) ?_)
  refine r_aload_n dX10_bears_6 rfl rfl ?_
  refine r_getI dX10_bears_7 fl_X10_27 sh_1 rfl ?_
  refine r_icmp_gt (tgt := 30) dX10_bears_10 rfl (by omega) (by omega) (fun c_10 => ?_) (fun c_10 => ?_)
  · refine r_iconst dX10_bears_30 ?_
    refine r_zret dX10_bears_31 rfl (.inl rfl) ?_
    exact ⟨_, rfl, kf (by omega)⟩
  · refine r_aload_n dX10_bears_13 rfl rfl ?_
    refine r_iload_n dX10_bears_14 rfl rfl ?_
    refine r_iload_n dX10_bears_15 rfl rfl ?_
    refine r_callVI (av := [_, _]) (M' := mX10_rightPull) dX10_bears_16 vX10_rightPull ml_X10_85 sh_1 (by decide) rfl rfl rfl rfl (by simp [wtA]) (sp_X10_rightPull (by omega) (by omega) (by omega) (by omega) ?_)
    refine r_aload_n dX10_bears_19 rfl rfl ?_
    refine r_getI dX10_bears_20 fl_X10_27 sh_1 rfl ?_
    refine r_icmp_gt (tgt := 30) dX10_bears_23 rfl (by omega) (by omega) (fun c_23 => ?_) (fun c_23 => ?_)
    · refine r_iconst dX10_bears_30 ?_
      refine r_zret dX10_bears_31 rfl (.inl rfl) ?_
      exact ⟨_, rfl, kf (by omega)⟩
    · refine r_iconst dX10_bears_26 ?_
      refine r_goto (tgt := 31) dX10_bears_27 rfl ?_
      refine r_zret dX10_bears_31 rfl (.inr rfl) ?_
      exact ⟨_, rfl, kt (by omega)⟩
set_option maxRecDepth 20000 in
set_option maxHeartbeats 400000 in
theorem sp_pullOf0 {d : Nat} (hd : 4 ≤ d) {x y : Int} {h : Hp}  (hw : MOK h) (hx : 0 ≤ x ∧ x ≤ (h 49 3)) (hy : 1 ≤ y ∧ y ≤ (h 49 4)) {P : Int → Hp → Prop} (k : P (plF (h 49 7) (h 49 5) (h 49 6) (h 49 3) x y) (h)) : Cl d mX12_pullOf [.inr (.inr 49), .inl x, .inl y, .inl 0] h (pI P) := by
  refine Cl.of (L := [some (.inr (.inr 49)), some (.inl x), some (.inl y), some (.inl 0), none]) (by decide +kernel) (Nat.le_of_ble_eq_true rfl) rfl ?_
  obtain ⟨d, rfl⟩ : ∃ q, d = q + 1 := ⟨d - 1, by omega⟩
  have g1 := (plF_r (G := (h 49 7)) (K := (h 49 5)) (E := (h 49 6)) (W := (h 49 3)) (x := x) (y := y) (by omega) (by omega) (by omega) (by omega) (by omega) (by omega))
  have g2 := stF_r (K := (h 49 5)) (E := (h 49 6)) (x := 100 * x) (y := 100 * y) (by omega) (by omega) (by omega) (by omega)
  refine r_iload_n dX12_pullOf_0 rfl rfl ?_
  refine r_if_ne (tgt := 19) dX12_pullOf_1 rfl ⟨by decide, by decide⟩ (fun c_1 => absurd c_1 (by decide)) (fun c_1 => ?_)
  refine r_aload_n dX12_pullOf_4 rfl rfl ?_
  refine r_bipush dX12_pullOf_5 (by decide +kernel) ?_
  refine r_iload_n dX12_pullOf_7 rfl rfl ?_
  refine r_imul dX12_pullOf_8 ?_
  refine r_bipush dX12_pullOf_9 (by decide +kernel) ?_
  refine r_iload_n dX12_pullOf_11 rfl rfl ?_
  refine r_imul dX12_pullOf_12 ?_
  refine r_callVI (av := [_, _]) (M' := mX12_leftOf) dX12_pullOf_13 vX12_leftOf ml_X12_188 sh_49 (by decide) rfl rfl rfl rfl (by simp [wtA]) (sp_X12_leftOf (by omega) (by omega) (by omega) (by omega) ?_)
  refine r_goto (tgt := 31) dX12_pullOf_16 rfl ?_
  refine r_istore (L' := [_, _, _, _, _]) dX12_pullOf_31 rfl (by decide) rfl ?_
  refine r_aload_n dX12_pullOf_33 rfl rfl ?_
  refine r_getI dX12_pullOf_34 fl_X12_23 sh_49 rfl ?_
  refine r_iload dX12_pullOf_37 rfl ?_
  refine r_imul dX12_pullOf_39 ?_
  refine r_iload_n dX12_pullOf_40 rfl rfl ?_
  refine r_if_ne (tgt := 53) dX12_pullOf_41 rfl ⟨by decide, by decide⟩ (fun c_41 => absurd c_41 (by decide)) (fun c_41 => ?_)
  refine r_aload_n dX12_pullOf_44 rfl rfl ?_
  refine r_getI dX12_pullOf_45 fl_X12_13 sh_49 rfl ?_
  refine r_iload_n dX12_pullOf_48 rfl rfl ?_
  refine r_isub dX12_pullOf_49 ?_
  refine r_goto (tgt := 54) dX12_pullOf_50 rfl ?_
  refine r_imul dX12_pullOf_54 ?_
  refine r_aload_n dX12_pullOf_55 rfl rfl ?_
  refine r_getI dX12_pullOf_56 fl_X12_20 sh_49 rfl ?_
  refine r_aload_n dX12_pullOf_59 rfl rfl ?_
  refine r_getI dX12_pullOf_60 fl_X12_13 sh_49 rfl ?_
  refine r_imul dX12_pullOf_63 ?_
  refine r_iload_n dX12_pullOf_64 rfl rfl ?_
  refine r_imul dX12_pullOf_65 ?_
  refine r_idiv dX12_pullOf_66 (by omega) (by omega) (by omega) ?_
  refine r_iret dX12_pullOf_67 rfl ?_
  exact ⟨_, rfl, k⟩
set_option maxRecDepth 20000 in
set_option maxHeartbeats 400000 in
theorem sp_pullOf1 {d : Nat} (hd : 4 ≤ d) {x y : Int} {h : Hp}  (hw : MOK h) (hx : 0 ≤ x ∧ x ≤ (h 49 3)) (hy : 1 ≤ y ∧ y ≤ (h 49 4)) {P : Int → Hp → Prop} (k : P (plF (h 49 7) (h 49 5) (h 49 6) (h 49 3) ((h 49 3) - x) y) (h)) : Cl d mX12_pullOf [.inr (.inr 49), .inl x, .inl y, .inl 1] h (pI P) := by
  refine Cl.of (L := [some (.inr (.inr 49)), some (.inl x), some (.inl y), some (.inl 1), none]) (by decide +kernel) (Nat.le_of_ble_eq_true rfl) rfl ?_
  obtain ⟨d, rfl⟩ : ∃ q, d = q + 1 := ⟨d - 1, by omega⟩
  have g1 := (plF_r (G := (h 49 7)) (K := (h 49 5)) (E := (h 49 6)) (W := (h 49 3)) (x := (h 49 3) - x) (y := y) (by omega) (by omega) (by omega) (by omega) (by omega) (by omega))
  rw [show (h 49 3) - ((h 49 3) - x) = x by omega, show 100 * ((h 49 3) - x) = 100 * (h 49 3) - 100 * x by omega] at g1
  have g2 := stF_r (K := (h 49 5)) (E := (h 49 6)) (x := 100 * (h 49 3) - 100 * x) (y := 100 * y) (by omega) (by omega) (by omega) (by omega)
  refine r_iload_n dX12_pullOf_0 rfl rfl ?_
  refine r_if_ne (tgt := 19) dX12_pullOf_1 rfl ⟨by decide, by decide⟩ (fun c_1 => ?_) (fun c_1 => absurd c_1 (by decide))
  refine r_aload_n dX12_pullOf_19 rfl rfl ?_
  refine r_bipush dX12_pullOf_20 (by decide +kernel) ?_
  refine r_iload_n dX12_pullOf_22 rfl rfl ?_
  refine r_imul dX12_pullOf_23 ?_
  refine r_bipush dX12_pullOf_24 (by decide +kernel) ?_
  refine r_iload_n dX12_pullOf_26 rfl rfl ?_
  refine r_imul dX12_pullOf_27 ?_
  refine r_callVI (av := [_, _]) (M' := mX12_rightOf) dX12_pullOf_28 vX12_rightOf ml_X12_191 sh_49 (by decide) rfl rfl rfl rfl (by simp [wtA]) (sp_X12_rightOf (by omega) (by omega) (by omega) (by omega) ?_)
  refine r_istore (L' := [_, _, _, _, _]) dX12_pullOf_31 rfl (by decide) rfl ?_
  refine r_aload_n dX12_pullOf_33 rfl rfl ?_
  refine r_getI dX12_pullOf_34 fl_X12_23 sh_49 rfl ?_
  refine r_iload dX12_pullOf_37 rfl ?_
  refine r_imul dX12_pullOf_39 ?_
  refine r_iload_n dX12_pullOf_40 rfl rfl ?_
  refine r_if_ne (tgt := 53) dX12_pullOf_41 rfl ⟨by decide, by decide⟩ (fun c_41 => ?_) (fun c_41 => absurd c_41 (by decide))
  refine r_iload_n dX12_pullOf_53 rfl rfl ?_
  refine r_imul dX12_pullOf_54 ?_
  refine r_aload_n dX12_pullOf_55 rfl rfl ?_
  refine r_getI dX12_pullOf_56 fl_X12_20 sh_49 rfl ?_
  refine r_aload_n dX12_pullOf_59 rfl rfl ?_
  refine r_getI dX12_pullOf_60 fl_X12_13 sh_49 rfl ?_
  refine r_imul dX12_pullOf_63 ?_
  refine r_iload_n dX12_pullOf_64 rfl rfl ?_
  refine r_imul dX12_pullOf_65 ?_
  refine r_idiv dX12_pullOf_66 (by omega) (by omega) (by omega) ?_
  refine r_iret dX12_pullOf_67 rfl ?_
  refine ⟨_, rfl, eqP k ?_⟩
  unfold plF
  rw [show (h 49 3) - ((h 49 3) - x) = x by omega, show 100 * ((h 49 3) - x) = 100 * (h 49 3) - 100 * x by omega]
set_option maxRecDepth 20000 in
set_option maxHeartbeats 400000 in
theorem sp_X12_pullOf {d : Nat} (hd : 4 ≤ d) {x y c : Int} {h : Hp}  (hw : MOK h) (hx : 0 ≤ x ∧ x ≤ (h 49 3)) (hy : 1 ≤ y ∧ y ≤ (h 49 4)) (hc : c = 0 ∨ c = 1) {P : Int → Hp → Prop} (k : P (if c = 0 then plF (h 49 7) (h 49 5) (h 49 6) (h 49 3) x y else plF (h 49 7) (h 49 5) (h 49 6) (h 49 3) ((h 49 3) - x) y) (h)) : Cl d mX12_pullOf [.inr (.inr 49), .inl x, .inl y, .inl c] h (pI P) := by
  rcases hc with rfl | rfl
  · exact sp_pullOf0 hd hw hx hy k
  · exact sp_pullOf1 hd hw hx hy k
set_option maxRecDepth 20000 in
set_option maxHeartbeats 400000 in
theorem sp_X12_mayDraw {d : Nat} (hd : 5 ≤ d) {x y : Int} {h : Hp}  (hw : MOK h) (hx : 0 ≤ x ∧ x ≤ (h 49 3)) (hy : 1 ≤ y ∧ y ≤ (h 49 4)) {P : Int → Hp → Prop} (kt : (plF (h 49 7) (h 49 5) (h 49 6) (h 49 3) x y ≤ (h 49 8) ∧ plF (h 49 7) (h 49 5) (h 49 6) (h 49 3) ((h 49 3) - x) y ≤ (h 49 8)) → P 1 h) (kf : ¬ (plF (h 49 7) (h 49 5) (h 49 6) (h 49 3) x y ≤ (h 49 8) ∧ plF (h 49 7) (h 49 5) (h 49 6) (h 49 3) ((h 49 3) - x) y ≤ (h 49 8)) → P 0 h) : Cl d mX12_mayDraw [.inr (.inr 49), .inl x, .inl y] h (pI P) := by
  refine Cl.of (L := [some (.inr (.inr 49)), some (.inl x), some (.inl y)]) (by decide +kernel) (Nat.le_of_ble_eq_true rfl) rfl ?_
  obtain ⟨d, rfl⟩ : ∃ q, d = q + 1 := ⟨d - 1, by omega⟩
  have g1 := (plF_r (G := (h 49 7)) (K := (h 49 5)) (E := (h 49 6)) (W := (h 49 3)) (x := x) (y := y) (by omega) (by omega) (by omega) (by omega) (by omega) (by omega))
  have g2 := (plF_r (G := (h 49 7)) (K := (h 49 5)) (E := (h 49 6)) (W := (h 49 3)) (x := (h 49 3) - x) (y := y) (by omega) (by omega) (by omega) (by omega) (by omega) (by omega))
  refine r_aload_n dX12_mayDraw_0 rfl rfl ?_
  refine r_iload_n dX12_mayDraw_1 rfl rfl ?_
  refine r_iload_n dX12_mayDraw_2 rfl rfl ?_
  refine r_iconst dX12_mayDraw_3 ?_
  refine r_callVI (av := [_, _, _]) (M' := mX12_pullOf) dX12_mayDraw_4 vX12_pullOf ml_X12_206 sh_49 (by decide) rfl rfl rfl rfl (by simp [wtA]) (sp_pullOf0 (by omega) hw hx hy ?_)
  refine r_aload_n dX12_mayDraw_7 rfl rfl ?_
  refine r_getI dX12_mayDraw_8 fl_X12_26 sh_49 rfl ?_
  refine r_icmp_gt (tgt := 32) dX12_mayDraw_11 rfl (by omega) (by omega) (fun c_11 => ?_) (fun c_11 => ?_)
  · refine r_iconst dX12_mayDraw_32 ?_
    refine r_zret dX12_mayDraw_33 rfl (.inl rfl) ?_
    exact ⟨_, rfl, kf (by omega)⟩
  · refine r_aload_n dX12_mayDraw_14 rfl rfl ?_
    refine r_iload_n dX12_mayDraw_15 rfl rfl ?_
    refine r_iload_n dX12_mayDraw_16 rfl rfl ?_
    refine r_iconst dX12_mayDraw_17 ?_
    refine r_callVI (av := [_, _, _]) (M' := mX12_pullOf) dX12_mayDraw_18 vX12_pullOf ml_X12_206 sh_49 (by decide) rfl rfl rfl rfl (by simp [wtA]) (sp_pullOf1 (by omega) hw hx hy ?_)
    refine r_aload_n dX12_mayDraw_21 rfl rfl ?_
    refine r_getI dX12_mayDraw_22 fl_X12_26 sh_49 rfl ?_
    refine r_icmp_gt (tgt := 32) dX12_mayDraw_25 rfl (by omega) (by omega) (fun c_25 => ?_) (fun c_25 => ?_)
    · refine r_iconst dX12_mayDraw_32 ?_
      refine r_zret dX12_mayDraw_33 rfl (.inl rfl) ?_
      exact ⟨_, rfl, kf (by omega)⟩
    · refine r_iconst dX12_mayDraw_28 ?_
      refine r_goto (tgt := 33) dX12_mayDraw_29 rfl ?_
      refine r_zret dX12_mayDraw_33 rfl (.inr rfl) ?_
      exact ⟨_, rfl, kt (by omega)⟩
set_option maxRecDepth 20000 in
set_option maxHeartbeats 400000 in
theorem lp_creach1 {d : Nat} (hd : 5 ≤ d) {post : Pst} {h : Hp} {y S0 : Int} (hw : WOK h) (hy : 1 ≤ y ∧ y ≤ (h 1 1)) (hS : 0 ≤ S0 ∧ S0 ≤ 100000) (K : ∀ o, WW mX10_countReach (d + 1) post 53 [some (.inr (.inr 1)), some (.inl (S0 + rowN (h 1 4) (h 1 2) (h 1 3) (h 1 0) (h 1 5) y)), some (.inl y), o] [] h) : ∀ (nn : Nat) (i : Nat) (s : Int), ((i : Int) ≤ (h 1 0) + 1) → (s = S0 + sumN (fun x : Nat => mayN (h 1 4) (h 1 2) (h 1 3) (h 1 0) (h 1 5) (x : Int) y) i) → ((h 1 0) + 1).toNat - i < nn → WW mX10_countReach (d + 1) post 27 [some (.inr (.inr 1)), some (.inl s), some (.inl y), some (.inl (i : Int))] [] h := by
  intro nn
  induction nn with
  | zero => intro i s hi hs; intros; omega
  | succ nn ih =>
    intro i s hi hs hmu
    have hc := cnt_r (f := (fun x : Nat => mayN (h 1 4) (h 1 2) (h 1 3) (h 1 0) (h 1 5) (x : Int) y)) (fun i => mayN_r _ _ _ _ _ _ _) i
    refine r_iload_n dX10_countReach_27 rfl rfl ?_
    refine r_aload_n dX10_countReach_28 rfl rfl ?_
    refine r_getI dX10_countReach_29 fl_X10_9 sh_1 rfl ?_
    refine r_icmp_gt (tgt := 53) dX10_countReach_32 rfl (by omega) (by omega) (fun c_32 => ?_) (fun c_32 => ?_)
    · have e0 : i = ((h 1 0) + 1).toNat := by omega
      subst e0
      rw [hs]
      exact K _
    · refine r_aload_n dX10_countReach_35 rfl rfl ?_
      refine r_iload_n dX10_countReach_36 rfl rfl ?_
      refine r_iload_n dX10_countReach_37 rfl rfl ?_
      refine r_callVI (av := [_, _]) (M' := mX10_bears) dX10_countReach_38 vX10_bears ml_X10_88 sh_1 (by decide) rfl rfl rfl rfl (by simp [wtA]) (sp_X10_bears (by omega) (by omega) (by omega) (by omega) (fun b_38 => ?_) (fun b_38 => ?_))
      · refine r_if_eq (tgt := 47) dX10_countReach_41 rfl ⟨by decide, by decide⟩ (fun c_41 => absurd c_41 (by decide)) (fun c_41 => ?_)
        refine r_iinc (L' := [_, _, _, _]) dX10_countReach_44 rfl rfl (by decide) rfl ?_
        refine r_iinc (L' := [_, _, _, _]) dX10_countReach_47 rfl rfl (by decide) rfl ?_
        refine r_goto (tgt := 27) dX10_countReach_50 rfl ?_
        exact ih (i + 1) _ (by omega) (by first | (have e : mayN (h 1 4) (h 1 2) (h 1 3) (h 1 0) (h 1 5) (i : Int) y = 1 := if_pos b_38; simp only [sumN]; omega) | (have e : mayN (h 1 4) (h 1 2) (h 1 3) (h 1 0) (h 1 5) (i : Int) y = 0 := if_neg b_38; simp only [sumN]; omega)) (by omega)
      · refine r_if_eq (tgt := 47) dX10_countReach_41 rfl ⟨by decide, by decide⟩ (fun c_41 => ?_) (fun c_41 => absurd c_41 (by decide))
        refine r_iinc (L' := [_, _, _, _]) dX10_countReach_47 rfl rfl (by decide) rfl ?_
        refine r_goto (tgt := 27) dX10_countReach_50 rfl ?_
        exact ih (i + 1) _ (by omega) (by first | (have e : mayN (h 1 4) (h 1 2) (h 1 3) (h 1 0) (h 1 5) (i : Int) y = 1 := if_pos b_38; simp only [sumN]; omega) | (have e : mayN (h 1 4) (h 1 2) (h 1 3) (h 1 0) (h 1 5) (i : Int) y = 0 := if_neg b_38; simp only [sumN]; omega)) (by omega)
set_option maxRecDepth 20000 in
set_option maxHeartbeats 400000 in
theorem lp_creach2 {d : Nat} (hd : 5 ≤ d) {post : Pst} {h : Hp} (hw : WOK h) (K : ∀ o o2, WW mX10_countReach (d + 1) post 59 [some (.inr (.inr 1)), some (.inl (rchF (h 1 4) (h 1 2) (h 1 3) (h 1 0) (h 1 1) (h 1 5))), o, o2] [] h) : ∀ (nn : Nat) (j : Nat) (s : Int) (o : Option AV), ((j : Int) ≤ (h 1 1)) → (s = sumN (fun j : Nat => rowN (h 1 4) (h 1 2) (h 1 3) (h 1 0) (h 1 5) ((j : Int) + 1)) j) → ((h 1 1)).toNat - j < nn → WW mX10_countReach (d + 1) post 17 [some (.inr (.inr 1)), some (.inl s), some (.inl ((j : Int) + 1)), o] [] h := by
  intro nn
  induction nn with
  | zero => intro j s o hj hs; intros; omega
  | succ nn ih =>
    intro j s o hj hs hmu
    have hc := sumN_r (f := fun j : Nat => rowN (h 1 4) (h 1 2) (h 1 3) (h 1 0) (h 1 5) ((j : Int) + 1)) (B := 201) j (fun i _ => rowN_r (by omega))
    refine r_iload_n dX10_countReach_17 rfl rfl ?_
    refine r_aload_n dX10_countReach_18 rfl rfl ?_
    refine r_getI dX10_countReach_19 fl_X10_15 sh_1 rfl ?_
    refine r_icmp_gt (tgt := 59) dX10_countReach_22 rfl (by omega) (by omega) (fun c_22 => ?_) (fun c_22 => ?_)
    · have e0 : j = ((h 1 1)).toNat := by omega
      subst e0
      rw [hs]
      exact K _ _
    · refine r_iconst dX10_countReach_25 ?_
      refine r_istore_n (L' := [_, _, _, _]) dX10_countReach_26 rfl rfl (by decide) rfl ?_
      refine lp_creach1 (y := (j : Int) + 1) (S0 := s) hd hw (by omega) (by omega) (fun o => ?_) (((h 1 0) + 1).toNat + 1) 0 s (by omega) (by simp [sumN]) (by omega)
      refine r_iinc (L' := [_, _, _, _]) dX10_countReach_53 rfl rfl (by decide) rfl ?_
      refine r_goto (tgt := 17) dX10_countReach_56 rfl ?_
      exact ih (j + 1) _ _ (by omega) (by rw [hs]; simp only [sumN]) (by omega)
set_option maxRecDepth 20000 in
set_option maxHeartbeats 400000 in
theorem lp_mreach1 {d : Nat} (hd : 5 ≤ d) {post : Pst} {h : Hp} {y S0 : Int} (hw : MOK h) (hy : 1 ≤ y ∧ y ≤ (h 49 4)) (hS : 0 ≤ S0 ∧ S0 ≤ 100000) (K : ∀ o, WW mX12_reach (d + 1) post 50 [some (.inr (.inr 49)), some (.inl (S0 + rowN (h 49 7) (h 49 5) (h 49 6) (h 49 3) (h 49 8) y)), some (.inl y), o] [] h) : ∀ (nn : Nat) (i : Nat) (s : Int), ((i : Int) ≤ (h 49 3) + 1) → (s = S0 + sumN (fun x : Nat => mayN (h 49 7) (h 49 5) (h 49 6) (h 49 3) (h 49 8) (x : Int) y) i) → ((h 49 3) + 1).toNat - i < nn → WW mX12_reach (d + 1) post 19 [some (.inr (.inr 49)), some (.inl s), some (.inl y), some (.inl (i : Int))] [] h := by
  intro nn
  induction nn with
  | zero => intro i s hi hs; intros; omega
  | succ nn ih =>
    intro i s hi hs hmu
    have hc := cnt_r (f := (fun x : Nat => mayN (h 49 7) (h 49 5) (h 49 6) (h 49 3) (h 49 8) (x : Int) y)) (fun i => mayN_r _ _ _ _ _ _ _) i
    refine r_iload_n dX12_reach_19 rfl rfl ?_
    refine r_aload_n dX12_reach_20 rfl rfl ?_
    refine r_getI dX12_reach_21 fl_X12_13 sh_49 rfl ?_
    refine r_icmp_gt (tgt := 50) dX12_reach_24 rfl (by omega) (by omega) (fun c_24 => ?_) (fun c_24 => ?_)
    · have e0 : i = ((h 49 3) + 1).toNat := by omega
      subst e0
      rw [hs]
      exact K _
    · refine r_iload_n dX12_reach_27 rfl rfl ?_
      refine r_aload_n dX12_reach_28 rfl rfl ?_
      refine r_iload_n dX12_reach_29 rfl rfl ?_
      refine r_iload_n dX12_reach_30 rfl rfl ?_
      refine r_callVI (av := [_, _]) (M' := mX12_mayDraw) dX12_reach_31 vX12_mayDraw ml_X12_210 sh_49 (by decide) rfl rfl rfl rfl (by simp [wtA]) (sp_X12_mayDraw (by omega) (by omega) (by omega) (by omega) (fun b_31 => ?_) (fun b_31 => ?_))
      · refine r_if_eq (tgt := 41) dX12_reach_34 rfl ⟨by decide, by decide⟩ (fun c_34 => absurd c_34 (by decide)) (fun c_34 => ?_)
        refine r_iconst dX12_reach_37 ?_
        refine r_goto (tgt := 42) dX12_reach_38 rfl ?_
        refine r_iadd dX12_reach_42 ?_
        refine r_nmI (fun x1_43 e_x1_43 => ?_)
        refine r_istore_n (L' := [_, _, _, _]) dX12_reach_43 rfl rfl (by decide) rfl ?_
        refine r_iinc (L' := [_, _, _, _]) dX12_reach_44 rfl rfl (by decide) rfl ?_
        refine r_goto (tgt := 19) dX12_reach_47 rfl ?_
        exact ih (i + 1) _ (by omega) (by first | (have e : mayN (h 49 7) (h 49 5) (h 49 6) (h 49 3) (h 49 8) (i : Int) y = 1 := if_pos b_31; simp only [sumN]; omega) | (have e : mayN (h 49 7) (h 49 5) (h 49 6) (h 49 3) (h 49 8) (i : Int) y = 0 := if_neg b_31; simp only [sumN]; omega)) (by omega)
      · refine r_if_eq (tgt := 41) dX12_reach_34 rfl ⟨by decide, by decide⟩ (fun c_34 => ?_) (fun c_34 => absurd c_34 (by decide))
        refine r_iconst dX12_reach_41 ?_
        refine r_iadd dX12_reach_42 ?_
        refine r_nmI (fun x1_43 e_x1_43 => ?_)
        refine r_istore_n (L' := [_, _, _, _]) dX12_reach_43 rfl rfl (by decide) rfl ?_
        refine r_iinc (L' := [_, _, _, _]) dX12_reach_44 rfl rfl (by decide) rfl ?_
        refine r_goto (tgt := 19) dX12_reach_47 rfl ?_
        exact ih (i + 1) _ (by omega) (by first | (have e : mayN (h 49 7) (h 49 5) (h 49 6) (h 49 3) (h 49 8) (i : Int) y = 1 := if_pos b_31; simp only [sumN]; omega) | (have e : mayN (h 49 7) (h 49 5) (h 49 6) (h 49 3) (h 49 8) (i : Int) y = 0 := if_neg b_31; simp only [sumN]; omega)) (by omega)
set_option maxRecDepth 20000 in
set_option maxHeartbeats 400000 in
theorem lp_mreach2 {d : Nat} (hd : 5 ≤ d) {post : Pst} {h : Hp} (hw : MOK h) (K : ∀ o o2, WW mX12_reach (d + 1) post 56 [some (.inr (.inr 49)), some (.inl (rchF (h 49 7) (h 49 5) (h 49 6) (h 49 3) (h 49 4) (h 49 8))), o, o2] [] h) : ∀ (nn : Nat) (j : Nat) (s : Int) (o : Option AV), ((j : Int) ≤ (h 49 4)) → (s = sumN (fun j : Nat => rowN (h 49 7) (h 49 5) (h 49 6) (h 49 3) (h 49 8) ((j : Int) + 1)) j) → ((h 49 4)).toNat - j < nn → WW mX12_reach (d + 1) post 9 [some (.inr (.inr 49)), some (.inl s), some (.inl ((j : Int) + 1)), o] [] h := by
  intro nn
  induction nn with
  | zero => intro j s o hj hs; intros; omega
  | succ nn ih =>
    intro j s o hj hs hmu
    have hc := sumN_r (f := fun j : Nat => rowN (h 49 7) (h 49 5) (h 49 6) (h 49 3) (h 49 8) ((j : Int) + 1)) (B := 201) j (fun i _ => rowN_r (by omega))
    refine r_iload_n dX12_reach_9 rfl rfl ?_
    refine r_aload_n dX12_reach_10 rfl rfl ?_
    refine r_getI dX12_reach_11 fl_X12_17 sh_49 rfl ?_
    refine r_icmp_gt (tgt := 56) dX12_reach_14 rfl (by omega) (by omega) (fun c_14 => ?_) (fun c_14 => ?_)
    · have e0 : j = ((h 49 4)).toNat := by omega
      subst e0
      rw [hs]
      exact K _ _
    · refine r_iconst dX12_reach_17 ?_
      refine r_istore_n (L' := [_, _, _, _]) dX12_reach_18 rfl rfl (by decide) rfl ?_
      refine lp_mreach1 (y := (j : Int) + 1) (S0 := s) hd hw (by omega) (by omega) (fun o => ?_) (((h 49 3) + 1).toNat + 1) 0 s (by omega) (by simp [sumN]) (by omega)
      refine r_iinc (L' := [_, _, _, _]) dX12_reach_50 rfl rfl (by decide) rfl ?_
      refine r_goto (tgt := 9) dX12_reach_53 rfl ?_
      exact ih (j + 1) _ _ (by omega) (by rw [hs]; simp only [sumN]) (by omega)
set_option maxRecDepth 20000 in
set_option maxHeartbeats 400000 in
theorem sp_X10_countReach {d : Nat} (hd : 6 ≤ d) {h : Hp}  (hw : WOK h) (hr : (h 1 8) = -1 ∨ (h 1 8) = rchF (h 1 4) (h 1 2) (h 1 3) (h 1 0) (h 1 1) (h 1 5)) (hr2 : R32 (h 1 8)) {P : Int → Hp → Prop} (k : P (rchF (h 1 4) (h 1 2) (h 1 3) (h 1 0) (h 1 1) (h 1 5)) (upH h 1 8 (rchF (h 1 4) (h 1 2) (h 1 3) (h 1 0) (h 1 1) (h 1 5)))) : Cl d mX10_countReach [.inr (.inr 1)] h (pI P) := by
  refine Cl.of (L := [some (.inr (.inr 1)), none, none, none]) (by decide +kernel) (Nat.le_of_ble_eq_true rfl) rfl ?_
  obtain ⟨d, rfl⟩ : ∃ q, d = q + 1 := ⟨d - 1, by omega⟩
  refine r_aload_n dX10_countReach_0 rfl rfl ?_
  refine r_getI dX10_countReach_1 fl_X10_37 sh_1 rfl ?_
  refine r_iconst dX10_countReach_4 ?_
  refine r_icmp_eq (tgt := 13) dX10_countReach_5 rfl (by omega) ⟨by decide, by decide⟩ (fun c_5 => ?_) (fun c_5 => ?_)
  · refine r_iconst dX10_countReach_13 ?_
    refine r_istore_n (L' := [_, _, _, _]) dX10_countReach_14 rfl rfl (by decide) rfl ?_
    refine r_iconst dX10_countReach_15 ?_
    refine r_istore_n (L' := [_, _, _, _]) dX10_countReach_16 rfl rfl (by decide) rfl ?_
    refine lp_creach2 (by omega) hw (fun o o2 => ?_) ((h 1 1).toNat + 1) 0 0 _ (by omega) (by simp [sumN]) (by omega)
    refine r_aload_n dX10_countReach_59 rfl rfl ?_
    refine r_iload_n dX10_countReach_60 rfl rfl ?_
    refine r_putI dX10_countReach_61 fl_X10_37 sh_1 rfl ?_
    refine r_iload_n dX10_countReach_64 rfl rfl ?_
    refine r_iret dX10_countReach_65 rfl ?_
    exact ⟨_, rfl, k⟩
  · refine r_aload_n dX10_countReach_8 rfl rfl ?_
    refine r_getI dX10_countReach_9 fl_X10_37 sh_1 rfl ?_
    refine r_iret dX10_countReach_12 rfl ?_
    have e1 : (h 1 8) = rchF (h 1 4) (h 1 2) (h 1 3) (h 1 0) (h 1 1) (h 1 5) := by omega
    refine ⟨_, rfl, eqH k e1.symm ?_⟩
    rw [← e1]
    exact up_self
