/-! THE WALL -/
theorem mulR {a b A B : Int} (ha : 0 ≤ a ∧ a ≤ A) (hb : 0 ≤ b ∧ b ≤ B) : 0 ≤ a * b ∧ a * b ≤ A * B := ⟨Int.mul_nonneg ha.1 hb.1, Int.mul_le_mul ha.2 hb.2 hb.1 (by omega)⟩
theorem sqR {a : Int} (A : Int) (h : -A ≤ a ∧ a ≤ A) : 0 ≤ a * a ∧ a * a ≤ A * A := by
  rcases Int.le_total 0 a with q | q
  · exact mulR ⟨q, h.2⟩ ⟨q, h.2⟩
  · have := mulR (a := -a) (b := -a) (A := A) (B := A) ⟨by omega, by omega⟩ ⟨by omega, by omega⟩
    rw [Int.neg_mul_neg] at this
    exact this
theorem tdivR {a b A : Int} (h : -A ≤ a ∧ a ≤ A) (hb : 0 < b) : -A ≤ a.tdiv b ∧ a.tdiv b ≤ A := by
  rcases Int.le_total 0 a with q | q
  · have := tdivNN q hb
    omega
  · have e : a.tdiv b = -((-a).tdiv b) := by rw [Int.neg_tdiv]; omega
    have := tdivNN (a := -a) (by omega) hb
    omega
theorem tdiv_le {a b q : Int} (ha : 0 ≤ a) (hb : 0 < b) (h : a ≤ q * b) : a.tdiv b ≤ q := by
  rw [Int.tdiv_eq_ediv_of_nonneg ha]
  exact Int.ediv_le_of_le_mul hb h
theorem tdivS {a b q : Int} (hb : 0 < b) (hq : 0 ≤ q) (h : -(q * b) ≤ a ∧ a ≤ q * b) : -q ≤ a.tdiv b ∧ a.tdiv b ≤ q := by
  rcases Int.le_total 0 a with z | z
  · have := tdiv_le z hb h.2
    have := tdivNN z hb
    omega
  · have e : a.tdiv b = -((-a).tdiv b) := by rw [Int.neg_tdiv]; omega
    have := tdiv_le (a := -a) (b := b) (q := q) (by omega) hb (by omega)
    have := tdivNN (a := -a) (by omega) hb
    omega
noncomputable def rt0 (n : Int) : Int := if n ≤ 0 then 0 else rt n
theorem rt0_nn (n : Int) : 0 ≤ rt0 n := by
  unfold rt0
  split
  · omega
  · exact rt_nn (by omega)
theorem rt_0 : rt 0 = 0 := rt_of ⟨by decide, by decide, by decide⟩
theorem rt0_eq {n : Int} (h : 0 ≤ n) : rt0 n = rt n := by
  unfold rt0
  split
  · rw [show n = 0 by omega, rt_0]
  · rfl
theorem rt0_le {n b : Int} (hb : 0 ≤ b) (hn : n ≤ b * b) : rt0 n ≤ b := by
  unfold rt0
  split
  · exact hb
  · exact rt_le (by omega) hb hn
def hgF (E n : Int) : Int := n + (n * E).tdiv 10000
def pX (K W E l r : Int) : Int := (100 * (hgF E l * hgF E l - hgF E r * hgF E r + K * K * W * W)).tdiv (2 * (K * K) * W)
noncomputable def pY (K W E l r : Int) : Int := rt0 ((10000 * hgF E l * hgF E l).tdiv (K * K) - pX K W E l r * pX K W E l r)
noncomputable def stF (K E x y : Int) : Int := (10000 * ((rt0 (K * K * (x * x + y * y))).tdiv 100 + 1) - 1).tdiv (10000 + E)
abbrev WOK (h : Hp) : Prop := 20 ≤ h 1 0 ∧ h 1 0 ≤ 200 ∧ 20 ≤ h 1 1 ∧ h 1 1 ≤ 200 ∧ 2 ≤ h 1 2 ∧ h 1 2 ≤ 20 ∧ 0 ≤ h 1 3 ∧ h 1 3 ≤ 99 ∧ 1 ≤ h 1 4 ∧ h 1 4 ≤ 99 ∧ 1 ≤ h 1 5 ∧ h 1 5 ≤ 9999 ∧ 0 ≤ h 1 7 ∧ h 1 7 ≤ 1099511627776
theorem hgF_r {E n : Int} (hE : 0 ≤ E ∧ E ≤ 99) (hn : -20000 ≤ n ∧ n ≤ 20000) : -20198 ≤ hgF E n ∧ hgF E n ≤ 20198 := by
  have h1 : -1980000 ≤ n * E ∧ n * E ≤ 1980000 := by
    rcases Int.le_total 0 n with q | q
    · have := mulR (a := n) (b := E) (A := 20000) (B := 99) (by omega) (by omega)
      omega
    · have := mulR (a := -n) (b := E) (A := 20000) (B := 99) (by omega) (by omega)
      rw [Int.neg_mul] at this
      omega
  have := tdivS (a := n * E) (b := 10000) (q := 198) (by omega) (by omega) (by omega)
  unfold hgF
  omega
theorem KKr {K : Int} (hK : 2 ≤ K ∧ K ≤ 20) : 4 ≤ K * K ∧ K * K ≤ 400 := by
  have h1 := mulR (a := K) (b := K) (A := 20) (B := 20) (by omega) (by omega)
  have h2 : 2 * 2 ≤ K * K := Int.mul_le_mul hK.1 hK.1 (by omega) (by omega)
  omega
theorem stF_r {K E x y : Int} (hK : 2 ≤ K ∧ K ≤ 20) (hE : 0 ≤ E ∧ E ≤ 99) (hx : 0 ≤ x ∧ x ≤ 20000) (hy : 0 ≤ y ∧ y ≤ 20000) : 0 ≤ stF K E x y ∧ stF K E x y ≤ 5660 ∧ 0 ≤ K * K * (x * x + y * y) ∧ K * K * (x * x + y * y) ≤ 320000000000 := by
  have k1 := KKr hK
  have x1 := mulR hx hx
  have y1 := mulR hy hy
  have m1 := mulR (a := K * K) (b := x * x + y * y) (A := 400) (B := 800000000) (by omega) (by omega)
  have r1 := rt0_nn (K * K * (x * x + y * y))
  have r2 := rt0_le (n := K * K * (x * x + y * y)) (b := 566000) (by omega) (by omega)
  have d1 := tdiv_le (a := rt0 (K * K * (x * x + y * y))) (b := 100) (q := 5660) r1 (by omega) (by omega)
  have d2 := tdivNN (a := rt0 (K * K * (x * x + y * y))) (b := 100) r1 (by omega)
  have d3 := tdivNN (a := 10000 * ((rt0 (K * K * (x * x + y * y))).tdiv 100 + 1) - 1) (b := 10000 + E) (by omega) (by omega)
  have d4 : (10000 * ((rt0 (K * K * (x * x + y * y))).tdiv 100 + 1) - 1).tdiv (10000 + E) < 5661 := by
    rw [Int.tdiv_eq_ediv_of_nonneg (by omega)]
    refine (Int.ediv_lt_iff_lt_mul (by omega)).mpr ?_
    have : 5661 * (10000 + E) = 56610000 + 5661 * E := by grind
    omega
  unfold stF
  refine ⟨d3.1, by omega, m1.1, by omega⟩
theorem pX_r {K W E l r : Int} (hK : 2 ≤ K ∧ K ≤ 20) (hW : 20 ≤ W ∧ W ≤ 200) (hE : 0 ≤ E ∧ E ≤ 99) (hl : -20000 ≤ l ∧ l ≤ 20000) (hr : -20000 ≤ r ∧ r ≤ 20000) :
    -300000000 ≤ pX K W E l r ∧ pX K W E l r ≤ 300000000 ∧ 160 ≤ 2 * (K * K) * W ∧ 2 * (K * K) * W ≤ 160000 ∧ 0 ≤ K * K * W * W ∧ K * K * W * W ≤ 16000000 := by
  have k1 := KKr hK
  have a1 := sqR _ (hgF_r hE hl)
  have b1 := sqR _ (hgF_r hE hr)
  have w1 := mulR (a := K * K) (b := W) (A := 400) (B := 200) (by omega) (by omega)
  have w2 := mulR (a := K * K * W) (b := W) (A := 80000) (B := 200) (by omega) (by omega)
  have w3 : 4 * 20 ≤ K * K * W := Int.mul_le_mul (by omega) (by omega) (by omega) (by omega)
  have e1 : 2 * (K * K) * W = 2 * (K * K * W) := by rw [Int.mul_assoc]
  have q1 := tdivS (a := 100 * (hgF E l * hgF E l - hgF E r * hgF E r + K * K * W * W)) (b := 2 * (K * K) * W) (q := 300000000) (by omega) (by omega) (by omega)
  unfold pX
  omega
theorem pY_r {K W E l r : Int} (hK : 2 ≤ K ∧ K ≤ 20) (hE : 0 ≤ E ∧ E ≤ 99) (hl : -20000 ≤ l ∧ l ≤ 20000) : 0 ≤ pY K W E l r ∧ pY K W E l r ≤ 2019800 ∧ 0 ≤ 10000 * hgF E l * hgF E l ∧ 10000 * hgF E l * hgF E l ≤ 4079592040000 := by
  have k1 := KKr hK
  have a1 := sqR _ (hgF_r hE hl)
  have e1 : 10000 * hgF E l * hgF E l = 10000 * (hgF E l * hgF E l) := by rw [Int.mul_assoc]
  have d1 := tdivNN (a := 10000 * hgF E l * hgF E l) (b := K * K) (by omega) (by omega)
  have x1 : 0 ≤ pX K W E l r * pX K W E l r := by
    rcases Int.le_total 0 (pX K W E l r) with q | q
    · exact Int.mul_nonneg q q
    · have := Int.mul_nonneg (show 0 ≤ -pX K W E l r by omega) (show 0 ≤ -pX K W E l r by omega)
      rw [Int.neg_mul_neg] at this
      exact this
  refine ⟨rt0_nn _, rt0_le (by omega) ?_, by omega, by omega⟩
  omega
set_option maxRecDepth 20000 in
set_option maxHeartbeats 400000 in
theorem sp_X10_hung {d : Nat} (hd : 1 ≤ d) {n : Int} {h : Hp}  (hw : WOK h) (hn : -20000 ≤ n ∧ n ≤ 20000) {P : Int → Hp → Prop} (k : P (hgF (h 1 3) n) (h)) : Cl d mX10_hung [.inr (.inr 1), .inr (.inl n)] h (pJ P) := by
  refine Cl.of (L := [some (.inr (.inr 1)), some (.inr (.inl n)), none]) (by decide +kernel) (Nat.le_of_ble_eq_true rfl) rfl ?_
  have h1 : -1980000 ≤ n * (h 1 3) ∧ n * (h 1 3) ≤ 1980000 := by
    rcases Int.le_total 0 n with q | q
    · have := mulR (a := n) (b := (h 1 3)) (A := 20000) (B := 99) (by omega) (by omega)
      omega
    · have := mulR (a := -n) (b := (h 1 3)) (A := 20000) (B := 99) (by omega) (by omega)
      rw [Int.neg_mul] at this
      omega
  refine r_lload_n dX10_hung_0 rfl rfl ?_
  refine r_lload_n dX10_hung_1 rfl rfl ?_
  refine r_aload_n dX10_hung_2 rfl rfl ?_
  refine r_getI dX10_hung_3 fl_X10_21 sh_1 rfl ?_
  refine r_i2l dX10_hung_6 (by omega) ?_
  refine r_lmul dX10_hung_7 ?_
  refine r_ldc2 (z := 10000) dX10_hung_8 kl_X10_44 (by decide +kernel) ?_
  refine r_ldiv dX10_hung_11 (by omega) ⟨by decide, by decide⟩ (by decide) ?_
  refine r_ladd dX10_hung_12 ?_
  refine r_lret dX10_hung_13 rfl ?_
  exact ⟨_, rfl, k⟩
set_option maxRecDepth 20000 in
set_option maxHeartbeats 400000 in
theorem sp_X10_leftSteps {d : Nat} (hd : 2 ≤ d) {x y : Int} {h : Hp}  (hw : WOK h) (hx : 0 ≤ x ∧ x ≤ 20000) (hy : 0 ≤ y ∧ y ≤ 20000) {P : Int → Hp → Prop} (k : P (stF (h 1 2) (h 1 3) x y) (h)) : Cl d mX10_leftSteps [.inr (.inr 1), .inr (.inl x), .inr (.inl y)] h (pI P) := by
  refine Cl.of (L := [some (.inr (.inr 1)), some (.inr (.inl x)), none, some (.inr (.inl y)), none, none, none, none, none]) (by decide +kernel) (Nat.le_of_ble_eq_true rfl) rfl ?_
  obtain ⟨d, rfl⟩ : ∃ q, d = q + 1 := ⟨d - 1, by omega⟩
  have g1 := stF_r (K := (h 1 2)) (E := (h 1 3)) (x := x) (y := y) (by omega) (by omega) hx hy
  have g2 := mulR (a := (h 1 2)) (b := x + y) (A := 20) (B := 40000) (by omega) (by omega)
  have g3 := rt0_nn ((h 1 2) * (h 1 2) * (x * x + y * y))
  have g4 := rt0_le (n := (h 1 2) * (h 1 2) * (x * x + y * y)) (b := 566000) (by omega) (by omega)
  refine r_aload_n dX10_leftSteps_0 rfl rfl ?_
  refine r_getI dX10_leftSteps_1 fl_X10_18 sh_1 rfl ?_
  refine r_i2l dX10_leftSteps_4 (by omega) ?_
  refine r_aload_n dX10_leftSteps_5 rfl rfl ?_
  refine r_getI dX10_leftSteps_6 fl_X10_18 sh_1 rfl ?_
  refine r_i2l dX10_leftSteps_9 (by omega) ?_
  refine r_lmul dX10_leftSteps_10 ?_
  refine r_lload_n dX10_leftSteps_11 rfl rfl ?_
  refine r_lload_n dX10_leftSteps_12 rfl rfl ?_
  refine r_lmul dX10_leftSteps_13 ?_
  refine r_lload_n dX10_leftSteps_14 rfl rfl ?_
  refine r_lload_n dX10_leftSteps_15 rfl rfl ?_
  refine r_lmul dX10_leftSteps_16 ?_
  refine r_ladd dX10_leftSteps_17 ?_
  refine r_lmul dX10_leftSteps_18 ?_
  refine r_lstore (L' := [_, _, _, _, _, _, _, _, _]) dX10_leftSteps_19 rfl (by decide) rfl ?_
  refine r_lload dX10_leftSteps_21 rfl ?_
  refine r_aload_n dX10_leftSteps_23 rfl rfl ?_
  refine r_getI dX10_leftSteps_24 fl_X10_18 sh_1 rfl ?_
  refine r_i2l dX10_leftSteps_27 (by omega) ?_
  refine r_lload_n dX10_leftSteps_28 rfl rfl ?_
  refine r_lload_n dX10_leftSteps_29 rfl rfl ?_
  refine r_ladd dX10_leftSteps_30 ?_
  refine r_lmul dX10_leftSteps_31 ?_
  refine r_callNJ (av := [_, _]) (M' := mX11_root) dX10_leftSteps_32 sX11_root mn_X10_46 rfl rfl (by simp [wtA]) (sp_X11_root (by omega) (by omega) (by omega) (show WW _ _ _ _ _ (.inr (.inl (rt0 _)) :: _) _ from ?_))
  refine r_ldc2 (z := 100) dX10_leftSteps_35 kl_X10_50 (by decide +kernel) ?_
  refine r_ldiv dX10_leftSteps_38 (by omega) ⟨by decide, by decide⟩ (by decide) ?_
  refine r_nmJ (fun x7 e_x7 => ?_)
  refine r_lstore (L' := [_, _, _, _, _, _, _, _, _]) dX10_leftSteps_39 rfl (by decide) rfl ?_
  have g5 := tdivNN (a := rt0 ((h 1 2) * (h 1 2) * (x * x + y * y))) (b := 100) (by omega) (by omega)
  refine r_ldc2 (z := 10000) dX10_leftSteps_41 kl_X10_44 (by decide +kernel) ?_
  refine r_lload dX10_leftSteps_44 rfl ?_
  refine r_lconst (z := 1) dX10_leftSteps_46 (by decide +kernel) ?_
  refine r_ladd dX10_leftSteps_47 ?_
  refine r_lmul dX10_leftSteps_48 ?_
  refine r_lconst (z := 1) dX10_leftSteps_49 (by decide +kernel) ?_
  refine r_lsub dX10_leftSteps_50 ?_
  refine r_sipush dX10_leftSteps_51 (by decide +kernel) ?_
  refine r_aload_n dX10_leftSteps_54 rfl rfl ?_
  refine r_getI dX10_leftSteps_55 fl_X10_21 sh_1 rfl ?_
  refine r_iadd dX10_leftSteps_58 ?_
  refine r_i2l dX10_leftSteps_59 (by omega) ?_
  refine r_ldiv dX10_leftSteps_60 (by omega) (by omega) (by omega) ?_
  refine r_l2i dX10_leftSteps_61 ?_
  refine r_iret dX10_leftSteps_62 rfl ?_
  subst e_x7
  exact ⟨_, rfl, k⟩
set_option maxRecDepth 20000 in
set_option maxHeartbeats 400000 in
theorem sp_X10_rightSteps {d : Nat} (hd : 3 ≤ d) {x y : Int} {h : Hp}  (hw : WOK h) (hx : 0 ≤ x ∧ x ≤ 100 * (h 1 0)) (hy : 0 ≤ y ∧ y ≤ 20000) {P : Int → Hp → Prop} (k : P (stF (h 1 2) (h 1 3) (100 * (h 1 0) - x) y) (h)) : Cl d mX10_rightSteps [.inr (.inr 1), .inr (.inl x), .inr (.inl y)] h (pI P) := by
  refine Cl.of (L := [some (.inr (.inr 1)), some (.inr (.inl x)), none, some (.inr (.inl y)), none]) (by decide +kernel) (Nat.le_of_ble_eq_true rfl) rfl ?_
  obtain ⟨d, rfl⟩ : ∃ q, d = q + 1 := ⟨d - 1, by omega⟩
  refine r_aload_n dX10_rightSteps_0 rfl rfl ?_
  refine r_ldc2 (z := 100) dX10_rightSteps_1 kl_X10_50 (by decide +kernel) ?_
  refine r_aload_n dX10_rightSteps_4 rfl rfl ?_
  refine r_getI dX10_rightSteps_5 fl_X10_9 sh_1 rfl ?_
  refine r_i2l dX10_rightSteps_8 (by omega) ?_
  refine r_lmul dX10_rightSteps_9 ?_
  refine r_lload_n dX10_rightSteps_10 rfl rfl ?_
  refine r_lsub dX10_rightSteps_11 ?_
  refine r_lload_n dX10_rightSteps_12 rfl rfl ?_
  refine r_callVI (av := [_, _]) (M' := mX10_leftSteps) dX10_rightSteps_13 vX10_leftSteps ml_X10_52 sh_1 (by decide) rfl rfl rfl rfl (by simp [wtA]) (sp_X10_leftSteps (by omega) (by omega) (by omega) (by omega) ?_)
  refine r_iret dX10_rightSteps_16 rfl ?_
  exact ⟨_, rfl, k⟩
set_option maxRecDepth 20000 in
set_option maxHeartbeats 400000 in
theorem sp_X10_locate {d : Nat} (hd : 2 ≤ d) {l r : Int} {h : Hp}  (hw : WOK h) (hl : -20000 ≤ l ∧ l ≤ 20000) (hr : -20000 ≤ r ∧ r ≤ 20000) {P : Hp → Prop} (k : P (upH (upH h 1 6 (pX (h 1 2) (h 1 0) (h 1 3) l r)) 1 7 (pY (h 1 2) (h 1 0) (h 1 3) l r))) : Cl d mX10_locate [.inr (.inr 1), .inr (.inl l), .inr (.inl r)] h (pV P) := by
  refine Cl.of (L := [some (.inr (.inr 1)), some (.inr (.inl l)), none, some (.inr (.inl r)), none, none, none, none, none, none, none]) (by decide +kernel) (Nat.le_of_ble_eq_true rfl) rfl ?_
  obtain ⟨d, rfl⟩ : ∃ q, d = q + 1 := ⟨d - 1, by omega⟩
  have g1 := pX_r (K := (h 1 2)) (W := (h 1 0)) (E := (h 1 3)) (l := l) (r := r) (by omega) (by omega) (by omega) hl hr
  have g2 := pY_r (K := (h 1 2)) (W := (h 1 0)) (E := (h 1 3)) (l := l) (r := r) (by omega) (by omega) hl
  have g3 := sqR _ (hgF_r (E := (h 1 3)) (by omega) hl)
  have g4 := sqR _ (hgF_r (E := (h 1 3)) (by omega) hr)
  have g5 := KKr (K := (h 1 2)) (by omega)
  have g6 := sqR 300000000 (a := pX (h 1 2) (h 1 0) (h 1 3) l r) (by omega)
  have g7 := tdivNN (a := 10000 * hgF (h 1 3) l * hgF (h 1 3) l) (b := (h 1 2) * (h 1 2)) (by omega) (by omega)
  refine r_aload_n dX10_locate_0 rfl rfl ?_
  refine r_lload_n dX10_locate_1 rfl rfl ?_
  refine r_callVJ (av := [_]) (M' := mX10_hung) dX10_locate_2 vX10_hung ml_X10_56 sh_1 (by decide) rfl rfl rfl rfl (by simp [wtA]) (sp_X10_hung (by omega) (by omega) (by omega) ?_)
  refine r_lstore (L' := [_, _, _, _, _, _, _, _, _, _, _]) dX10_locate_5 rfl (by decide) rfl ?_
  refine r_aload_n dX10_locate_7 rfl rfl ?_
  refine r_lload_n dX10_locate_8 rfl rfl ?_
  refine r_callVJ (av := [_]) (M' := mX10_hung) dX10_locate_9 vX10_hung ml_X10_56 sh_1 (by decide) rfl rfl rfl rfl (by simp [wtA]) (sp_X10_hung (by omega) (by omega) (by omega) ?_)
  refine r_lstore (L' := [_, _, _, _, _, _, _, _, _, _, _]) dX10_locate_12 rfl (by decide) rfl ?_
  refine r_aload_n dX10_locate_14 rfl rfl ?_
  refine r_getI dX10_locate_15 fl_X10_18 sh_1 rfl ?_
  refine r_i2l dX10_locate_18 (by omega) ?_
  refine r_aload_n dX10_locate_19 rfl rfl ?_
  refine r_getI dX10_locate_20 fl_X10_18 sh_1 rfl ?_
  refine r_i2l dX10_locate_23 (by omega) ?_
  refine r_lmul dX10_locate_24 ?_
  refine r_lstore (L' := [_, _, _, _, _, _, _, _, _, _, _]) dX10_locate_25 rfl (by decide) rfl ?_
  refine r_aload_n dX10_locate_27 rfl rfl ?_
  refine r_ldc2 (z := 100) dX10_locate_28 kl_X10_50 (by decide +kernel) ?_
  refine r_lload dX10_locate_31 rfl ?_
  refine r_lload dX10_locate_33 rfl ?_
  refine r_lmul dX10_locate_35 ?_
  refine r_lload dX10_locate_36 rfl ?_
  refine r_lload dX10_locate_38 rfl ?_
  refine r_lmul dX10_locate_40 ?_
  refine r_lsub dX10_locate_41 ?_
  refine r_lload dX10_locate_42 rfl ?_
  refine r_aload_n dX10_locate_44 rfl rfl ?_
  refine r_getI dX10_locate_45 fl_X10_9 sh_1 rfl ?_
  refine r_i2l dX10_locate_48 (by omega) ?_
  refine r_lmul dX10_locate_49 ?_
  refine r_aload_n dX10_locate_50 rfl rfl ?_
  refine r_getI dX10_locate_51 fl_X10_9 sh_1 rfl ?_
  refine r_i2l dX10_locate_54 (by omega) ?_
  refine r_lmul dX10_locate_55 ?_
  refine r_ladd dX10_locate_56 ?_
  refine r_lmul dX10_locate_57 ?_
  refine r_ldc2 (z := 2) dX10_locate_58 kl_X10_60 (by decide +kernel) ?_
  refine r_lload dX10_locate_61 rfl ?_
  refine r_lmul dX10_locate_63 ?_
  refine r_aload_n dX10_locate_64 rfl rfl ?_
  refine r_getI dX10_locate_65 fl_X10_9 sh_1 rfl ?_
  refine r_i2l dX10_locate_68 (by omega) ?_
  refine r_lmul dX10_locate_69 ?_
  refine r_ldiv dX10_locate_70 (by omega) (by omega) (by omega) ?_
  refine r_eqJ (show _ = pX (h 1 2) (h 1 0) (h 1 3) l r from rfl) ?_
  refine r_putJ dX10_locate_71 fl_X10_30 sh_1 rfl ?_
  refine r_aload_n dX10_locate_74 rfl rfl ?_
  refine r_ldc2 (z := 10000) dX10_locate_75 kl_X10_44 (by decide +kernel) ?_
  refine r_lload dX10_locate_78 rfl ?_
  refine r_lmul dX10_locate_80 ?_
  refine r_lload dX10_locate_81 rfl ?_
  refine r_lmul dX10_locate_83 ?_
  refine r_lload dX10_locate_84 rfl ?_
  refine r_ldiv dX10_locate_86 (by omega) (by omega) (by omega) ?_
  refine r_aload_n dX10_locate_87 rfl rfl ?_
  refine r_getJ dX10_locate_88 fl_X10_30 sh_1 rfl ?_
  refine r_eqJ (up_s _ _ _ _) ?_
  refine r_aload_n dX10_locate_91 rfl rfl ?_
  refine r_getJ dX10_locate_92 fl_X10_30 sh_1 rfl ?_
  refine r_eqJ (up_s _ _ _ _) ?_
  refine r_lmul dX10_locate_95 ?_
  refine r_lsub dX10_locate_96 ?_
  refine r_aload_n dX10_locate_97 rfl rfl ?_
  refine r_getJ dX10_locate_98 fl_X10_34 sh_1 rfl ?_
  refine r_eqJ (up_nk (by decide)) ?_
  refine r_callNJ (av := [_, _]) (M' := mX11_root) dX10_locate_101 sX11_root mn_X10_46 rfl rfl (by simp [wtA]) (sp_X11_root (by omega) (by omega) (by omega) ?_)
  refine r_eqJ (show _ = pY (h 1 2) (h 1 0) (h 1 3) l r from rfl) ?_
  refine r_putJ dX10_locate_104 fl_X10_34 sh_1 rfl ?_
  refine r_vret dX10_locate_107 rfl ?_
  exact ⟨rfl, k⟩
/-- what a locate leaves as it was -/
theorem WOK_up6 {h : Hp} {X Y : Int} (hw : WOK h) (hY : 0 ≤ Y ∧ Y ≤ 1099511627776) : WOK (upH (upH h 1 6 X) 1 7 Y) := by
  simp only [WOK, upH]
  simp
  omega
