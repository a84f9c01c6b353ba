set_option maxRecDepth 20000 in
set_option maxHeartbeats 400000 in
theorem sp_X12_hung {d : Nat} (hd : 1 ≤ d) {n : Int} {h : Hp}  (hw : MOK h) (hn : -20000 ≤ n ∧ n ≤ 20000) {P : Int → Hp → Prop} (k : P (hgF (h 49 6) n) (h)) : Cl d mX12_hung [.inr (.inr 49), .inl n] h (pJ P) := by
  refine Cl.of (L := [some (.inr (.inr 49)), some (.inl n)]) (by decide +kernel) (Nat.le_of_ble_eq_true rfl) rfl ?_
  have h1 : -1980000 ≤ n * (h 49 6) ∧ n * (h 49 6) ≤ 1980000 := by
    rcases Int.le_total 0 n with q | q
    · have := mulR (a := n) (b := (h 49 6)) (A := 20000) (B := 99) (by omega) (by omega)
      omega
    · have := mulR (a := -n) (b := (h 49 6)) (A := 20000) (B := 99) (by omega) (by omega)
      rw [Int.neg_mul] at this
      omega
  refine r_iload_n dX12_hung_0 rfl rfl ?_
  refine r_i2l dX12_hung_1 (by omega) ?_
  refine r_iload_n dX12_hung_2 rfl rfl ?_
  refine r_i2l dX12_hung_3 (by omega) ?_
  refine r_aload_n dX12_hung_4 rfl rfl ?_
  refine r_getI dX12_hung_5 fl_X12_135 sh_49 rfl ?_
  refine r_i2l dX12_hung_8 (by omega) ?_
  refine r_lmul dX12_hung_9 ?_
  refine r_ldc2 (z := 10000) dX12_hung_10 kl_X12_138 (by decide +kernel) ?_
  refine r_ldiv dX12_hung_13 (by omega) ⟨by decide, by decide⟩ (by decide) ?_
  refine r_ladd dX12_hung_14 ?_
  refine r_lret dX12_hung_15 rfl ?_
  exact ⟨_, rfl, k⟩
set_option maxRecDepth 20000 in
set_option maxHeartbeats 400000 in
theorem lp_msteps2 {d : Nat} (hd : 1 ≤ d) {P : Int → Hp → Prop} {h : Hp} {x y g q : Int} (hw : MOK h) (hg : 0 ≤ g ∧ g ≤ 10000) (hq : 0 ≤ q ∧ q ≤ 10000) (hs : hgF (h 49 6) q ≤ g) (k : P q h) : ∀ (nn : Nat) (u : Unit), (True) → 0 < nn → WW mX12_stepsFor (d + 1) (pI P) 67 [some (.inr (.inr 49)), some (.inr (.inl x)), none, some (.inr (.inl y)), none, some (.inr (.inl g)), none, some (.inl q)] [] h := by
  intro nn
  induction nn with
  | zero => intro u hu; intros; omega
  | succ nn ih =>
    intro u hu hmu
    refine r_aload_n dX12_stepsFor_67 rfl rfl ?_
    refine r_iload dX12_stepsFor_68 rfl ?_
    refine r_callVJ (av := [_]) (M' := mX12_hung) dX12_stepsFor_70 vX12_hung ml_X12_146 sh_49 (by decide) rfl rfl rfl rfl (by simp [wtA]) (sp_X12_hung (by omega) (by omega) (by omega) ?_)
    refine r_lload dX12_stepsFor_73 rfl ?_
    have hr := hgF_r (E := (h 49 6)) (n := q) (by omega) (by omega)
    refine r_lcmp_le (tgt := 85) dX12_stepsFor_75 dX12_stepsFor_76 rfl (by omega) (by omega) (fun c_75 => ?_) (fun c_75 => absurd c_75 (by omega))
    refine r_iload dX12_stepsFor_85 rfl ?_
    refine r_iret dX12_stepsFor_87 rfl ?_
    exact ⟨_, rfl, k⟩
set_option maxRecDepth 20000 in
set_option maxHeartbeats 400000 in
theorem lp_msteps1 {d : Nat} (hd : 1 ≤ d) {P : Int → Hp → Prop} {h : Hp} {x y g N : Int} (hw : MOK h) (hg : 0 ≤ g ∧ g ≤ 9000) (hN : N = (10000 * (g + 1) - 1).tdiv (10000 + (h 49 6))) (hN2 : N ≤ 9001) (k : P N h) : ∀ (nn : Nat) (q : Int), (0 ≤ q ∧ q ≤ N) → (N - q).toNat < nn → WW mX12_stepsFor (d + 1) (pI P) 47 [some (.inr (.inr 49)), some (.inr (.inl x)), none, some (.inr (.inl y)), none, some (.inr (.inl g)), none, some (.inl q)] [] h := by
  intro nn
  induction nn with
  | zero => intro q hq; intros; omega
  | succ nn ih =>
    intro q hq hmu
    have i1 := hung_le (E := (h 49 6)) (g := g) (n := q + 1) (by omega) (by omega) (by omega)
    have i2 := hung_le (E := (h 49 6)) (g := g) (n := q) (by omega) (by omega) (by omega)
    have hr := hgF_r (E := (h 49 6)) (n := q + 1) (by omega) (by omega)
    rw [← hN] at i1 i2
    refine r_aload_n dX12_stepsFor_47 rfl rfl ?_
    refine r_iload dX12_stepsFor_48 rfl ?_
    refine r_iconst dX12_stepsFor_50 ?_
    refine r_iadd dX12_stepsFor_51 ?_
    refine r_callVJ (av := [_]) (M' := mX12_hung) dX12_stepsFor_52 vX12_hung ml_X12_146 sh_49 (by decide) rfl rfl rfl rfl (by simp [wtA]) (sp_X12_hung (by omega) (by omega) (by omega) ?_)
    refine r_lload dX12_stepsFor_55 rfl ?_
    refine r_lcmp_gt (tgt := 67) dX12_stepsFor_57 dX12_stepsFor_58 rfl (by omega) (by omega) (fun c_57 => ?_) (fun c_57 => ?_)
    · have e0 : q = N := by omega
      subst e0
      exact lp_msteps2 hd hw (by omega) (by omega) (i2.mpr (by omega)) k 1 () trivial (by omega)
    · refine r_iinc (L' := [_, _, _, _, _, _, _, _]) dX12_stepsFor_61 rfl rfl (by decide) rfl ?_
      refine r_goto (tgt := 47) dX12_stepsFor_64 rfl ?_
      exact ih _ (by omega) (by omega)
set_option maxRecDepth 20000 in
set_option maxHeartbeats 400000 in
theorem sp_X12_stepsFor {d : Nat} (hd : 2 ≤ d) {x y : Int} {h : Hp}  (hw : MOK h) (hx : 0 ≤ x ∧ x ≤ 20000) (hy : 0 ≤ y ∧ y ≤ 20000) {P : Int → Hp → Prop} (k : P (stF (h 49 5) (h 49 6) x y) (h)) : Cl d mX12_stepsFor [.inr (.inr 49), .inr (.inl x), .inr (.inl y)] h (pI P) := by
  refine Cl.of (L := [some (.inr (.inr 49)), some (.inr (.inl x)), none, some (.inr (.inl y)), none, none, none, none]) (by decide +kernel) (Nat.le_of_ble_eq_true rfl) rfl ?_
  obtain ⟨d, rfl⟩ : ∃ q, d = q + 1 := ⟨d - 1, by omega⟩
  have g1 := stF_r (K := (h 49 5)) (E := (h 49 6)) (x := x) (y := y) (by omega) (by omega) hx hy
  have g3 := rt0_nn ((h 49 5) * (h 49 5) * (x * x + y * y))
  have g4 := rt0_le (n := (h 49 5) * (h 49 5) * (x * x + y * y)) (b := 566000) (by omega) (by omega)
  have g5 := tdivNN (a := rt0 ((h 49 5) * (h 49 5) * (x * x + y * y))) (b := 100) (by omega) (by omega)
  have g6 := tdiv_le (a := rt0 ((h 49 5) * (h 49 5) * (x * x + y * y))) (b := 100) (q := 5660) (by omega) (by omega) (by omega)
  have g7 := rt0_eq (n := (h 49 5) * (h 49 5) * (x * x + y * y)) (by omega)
  refine r_aload_n dX12_stepsFor_0 rfl rfl ?_
  refine r_getI dX12_stepsFor_1 fl_X12_20 sh_49 rfl ?_
  refine r_i2l dX12_stepsFor_4 (by omega) ?_
  refine r_aload_n dX12_stepsFor_5 rfl rfl ?_
  refine r_getI dX12_stepsFor_6 fl_X12_20 sh_49 rfl ?_
  refine r_i2l dX12_stepsFor_9 (by omega) ?_
  refine r_lmul dX12_stepsFor_10 ?_
  refine r_lload_n dX12_stepsFor_11 rfl rfl ?_
  refine r_lload_n dX12_stepsFor_12 rfl rfl ?_
  refine r_lmul dX12_stepsFor_13 ?_
  refine r_lload_n dX12_stepsFor_14 rfl rfl ?_
  refine r_lload_n dX12_stepsFor_15 rfl rfl ?_
  refine r_lmul dX12_stepsFor_16 ?_
  refine r_ladd dX12_stepsFor_17 ?_
  refine r_lmul dX12_stepsFor_18 ?_
  refine r_callSJ (av := [_]) (M' := mX12_root) dX12_stepsFor_19 sX12_root ml_X12_140 rfl rfl (by simp [wtA]) (sp_X12_root (by omega) (by omega) ?_)
  refine r_eqJ g7.symm ?_
  refine r_ldc2 (z := 100) dX12_stepsFor_22 kl_X12_144 (by decide +kernel) ?_
  refine r_ldiv dX12_stepsFor_25 (by omega) ⟨by decide, by decide⟩ (by decide) ?_
  refine r_lstore (L' := [_, _, _, _, _, _, _, _]) dX12_stepsFor_26 rfl (by decide) rfl ?_
  refine r_lload dX12_stepsFor_28 rfl ?_
  refine r_ldc2 (z := 10000) dX12_stepsFor_30 kl_X12_138 (by decide +kernel) ?_
  refine r_lmul dX12_stepsFor_33 ?_
  refine r_ldc2 (z := 10000) dX12_stepsFor_34 kl_X12_138 (by decide +kernel) ?_
  refine r_aload_n dX12_stepsFor_37 rfl rfl ?_
  refine r_getI dX12_stepsFor_38 fl_X12_135 sh_49 rfl ?_
  refine r_i2l dX12_stepsFor_41 (by omega) ?_
  refine r_ladd dX12_stepsFor_42 ?_
  refine r_ldiv dX12_stepsFor_43 (by omega) (by omega) (by omega) ?_
  refine r_l2i dX12_stepsFor_44 ?_
  refine r_nmI (fun x7 e_x7 => ?_)
  refine r_istore (L' := [_, _, _, _, _, _, _, _]) dX12_stepsFor_45 rfl (by decide) rfl ?_
  have g8 : x7 ≤ stF (h 49 5) (h 49 6) x y ∧ 0 ≤ x7 := by
    rw [e_x7]
    unfold stF
    rw [Int.tdiv_eq_ediv_of_nonneg (by omega), Int.tdiv_eq_ediv_of_nonneg (a := 10000 * _ - 1) (by omega)]
    exact ⟨Int.ediv_le_ediv (by omega) (by omega), Int.ediv_nonneg (by omega) (by omega)⟩
  exact lp_msteps1 (N := stF (h 49 5) (h 49 6) x y) (by omega) hw (by omega) rfl (by omega) k 10000 _ (by omega) (by omega)
