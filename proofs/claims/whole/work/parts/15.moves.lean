/-! MOVES: of the class, of the reference -/
def LR (lf rg : Nat → Int) (n : Int) : Prop := ∀ p : Nat, (p : Int) ≤ n → 0 ≤ lf p ∧ lf p ≤ 5660 ∧ 0 ≤ rg p ∧ rg p ≤ 5660
theorem tkF_r {lf rg : Nat → Int} {n : Int} (h : LR lf rg n) {m : Nat} (hm : (m : Int) < n) : 0 ≤ tkF lf rg m ∧ tkF lf rg m ≤ 5660 := by
  have h1 := h m (by omega)
  have h2 := h (m + 1) (by omega)
  unfold tkF
  omega
theorem RMv.lr {W H K E n : Int} {x y dn lf rg mx my md : Nat → Int} {b : Nat} (h : RMv W H K E n x y dn lf rg mx my md b) (hW : 20 ≤ W ∧ W ≤ 200) (hH : 20 ≤ H ∧ H ≤ 200) (hK : 2 ≤ K ∧ K ≤ 20) (hE : 0 ≤ E ∧ E ≤ 99) : LR lf rg n := by
  intro p hp
  obtain ⟨h1, h2, h3, h4, h5, h6, h7, -⟩ := h.2.2 p hp
  have s1 := stF_r (K := K) (E := E) (x := 100 * x p) (y := 100 * y p) hK hE (by omega) (by omega)
  have s2 := stF_r (K := K) (E := E) (x := 100 * W - 100 * x p) (y := 100 * y p) hK hE (by omega) (by omega)
  omega
/-- what a cord has missed by so many moves -/
def msN (ms : Nat → Int) (c n : Nat) : Int := sumN (fun i => ms (2 * i + c)) n
theorem msN_r {ms : Nat → Int} (h : ∀ j : Nat, j < 300 → -9 ≤ ms j ∧ ms j ≤ 9) {c : Nat} (hc : c < 2) : ∀ n : Nat, n ≤ 150 → -9 * (n : Int) ≤ msN ms c n ∧ msN ms c n ≤ 9 * n
  | 0, _ => by simp [msN, sumN]
  | n + 1, hn => by
    have h1 := msN_r h hc n (by omega)
    have h2 := h (2 * n + c) (by omega)
    unfold msN at h1 ⊢
    simp only [sumN]
    omega
def btF (f l i n : Int) : Int := if 0 < n then f + (i * (l - f)).tdiv n else f
theorem btF_r {f l i n : Int} (hf : 0 ≤ f ∧ f ≤ 5660) (hl : 0 ≤ l ∧ l ≤ 5660) (hi : 0 ≤ i ∧ i ≤ n) : 0 ≤ btF f l i n ∧ btF f l i n ≤ 5660 := by
  unfold btF
  split
  · rename_i hn
    rcases Int.le_total f l with q | q
    · have m1 := mulR (a := i) (b := l - f) (A := n) (B := l - f) (by omega) (by omega)
      have := tdiv_le (a := i * (l - f)) (b := n) (q := l - f) (by omega) hn (by rw [Int.mul_comm (l - f) n]; omega)
      have := tdivNN (a := i * (l - f)) (b := n) (by omega) hn
      omega
    · have m1 := mulR (a := i) (b := f - l) (A := n) (B := f - l) (by omega) (by omega)
      have e : i * (l - f) = -(i * (f - l)) := by grind
      have := tdiv_le (a := i * (f - l)) (b := n) (q := f - l) (by omega) hn (by rw [Int.mul_comm (f - l) n]; omega)
      have := tdivNN (a := i * (f - l)) (b := n) (by omega) hn
      rw [e, Int.neg_tdiv]
      omega
  · omega
set_option maxRecDepth 20000 in
set_option maxHeartbeats 400000 in
theorem sp_X2_ticksOf_16 {d : Nat} (hd : 2 ≤ d) {m : Int} {h : Hp} {n : Int} (hm : 0 ≤ m ∧ m < n) (hn : n ≤ 150) (hq : LR (h 20) (h 21) n) {P : Int → Hp → Prop} (k : P (tkF (h 20) (h 21) m.toNat) (h)) : Cl d mX2_ticksOf [.inr (.inr 16), .inl m] h (pI P) := by
  refine Cl.of (L := [some (.inr (.inr 16)), some (.inl m)]) (by decide +kernel) (Nat.le_of_ble_eq_true rfl) rfl ?_
  obtain ⟨d, rfl⟩ : ∃ q, d = q + 1 := ⟨d - 1, by omega⟩
  have e1 : (m + 1).toNat = m.toNat + 1 := by omega
  have q1 := hq m.toNat (by omega)
  have q2 := hq (m.toNat + 1) (by omega)
  rw [← e1] at q2
  refine r_aload_n dX2_ticksOf_0 rfl rfl ?_
  refine r_getR dX2_ticksOf_1 fl_X2_26 sh_16 rfl ?_
  refine r_iload_n dX2_ticksOf_4 rfl rfl ?_
  refine r_iconst dX2_ticksOf_5 ?_
  refine r_iadd dX2_ticksOf_6 ?_
  refine r_iald dX2_ticksOf_7 sh_20 (by decide) (by omega) ?_
  refine r_aload_n dX2_ticksOf_8 rfl rfl ?_
  refine r_getR dX2_ticksOf_9 fl_X2_26 sh_16 rfl ?_
  refine r_iload_n dX2_ticksOf_12 rfl rfl ?_
  refine r_iald dX2_ticksOf_13 sh_20 (by decide) (by omega) ?_
  refine r_isub dX2_ticksOf_14 ?_
  refine r_mabs (by omega) dX2_ticksOf_15 ml_X2_60 (by simp [wtA]) ?_
  refine r_aload_n dX2_ticksOf_18 rfl rfl ?_
  refine r_getR dX2_ticksOf_19 fl_X2_29 sh_16 rfl ?_
  refine r_iload_n dX2_ticksOf_22 rfl rfl ?_
  refine r_iconst dX2_ticksOf_23 ?_
  refine r_iadd dX2_ticksOf_24 ?_
  refine r_iald dX2_ticksOf_25 sh_21 (by decide) (by omega) ?_
  refine r_aload_n dX2_ticksOf_26 rfl rfl ?_
  refine r_getR dX2_ticksOf_27 fl_X2_29 sh_16 rfl ?_
  refine r_iload_n dX2_ticksOf_30 rfl rfl ?_
  refine r_iald dX2_ticksOf_31 sh_21 (by decide) (by omega) ?_
  refine r_isub dX2_ticksOf_32 ?_
  refine r_mabs (by omega) dX2_ticksOf_33 ml_X2_60 (by simp [wtA]) ?_
  refine r_mmax (by omega) (by omega) dX2_ticksOf_36 ml_X2_66 (by simp [wtA]) ?_
  refine r_iret dX2_ticksOf_39 rfl ?_
  refine ⟨_, rfl, eqP k ?_⟩
  unfold tkF
  rw [e1]
set_option maxRecDepth 20000 in
set_option maxHeartbeats 400000 in
theorem sp_X2_measureOne_16 {d : Nat} (hd : 4 ≤ d) {p : Int} {h : Hp}  (hw : WOK h) (hp : 0 ≤ p ∧ p ≤ 150) (hx : 0 ≤ h 17 p.toNat ∧ h 17 p.toNat ≤ (h 1 0)) (hy : 0 ≤ h 18 p.toNat ∧ h 18 p.toNat ≤ (h 1 1)) {P : Hp → Prop} (k : P (upH (upH h 20 p.toNat (stF (h 1 2) (h 1 3) (100 * h 17 p.toNat) (100 * h 18 p.toNat))) 21 p.toNat (stF (h 1 2) (h 1 3) (100 * (h 1 0) - 100 * h 17 p.toNat) (100 * h 18 p.toNat)))) : Cl d mX2_measureOne [.inr (.inr 16), .inl p] h (pV P) := by
  refine Cl.of (L := [some (.inr (.inr 16)), some (.inl p)]) (by decide +kernel) (Nat.le_of_ble_eq_true rfl) rfl ?_
  obtain ⟨d, rfl⟩ : ∃ q, d = q + 1 := ⟨d - 1, by omega⟩
  refine r_aload_n dX2_measureOne_0 rfl rfl ?_
  refine r_getR dX2_measureOne_1 fl_X2_26 sh_16 rfl ?_
  refine r_iload_n dX2_measureOne_4 rfl rfl ?_
  refine r_aload_n dX2_measureOne_5 rfl rfl ?_
  refine r_getR dX2_measureOne_6 fl_X2_35 sh_16 rfl ?_
  refine r_ldc2 (z := 100) dX2_measureOne_9 kl_X2_51 (by decide +kernel) ?_
  refine r_aload_n dX2_measureOne_12 rfl rfl ?_
  refine r_getR dX2_measureOne_13 fl_X2_15 sh_16 rfl ?_
  refine r_iload_n dX2_measureOne_16 rfl rfl ?_
  refine r_iald dX2_measureOne_17 sh_17 (by decide) (by omega) ?_
  refine r_i2l dX2_measureOne_18 (by omega) ?_
  refine r_lmul dX2_measureOne_19 ?_
  refine r_ldc2 (z := 100) dX2_measureOne_20 kl_X2_51 (by decide +kernel) ?_
  refine r_aload_n dX2_measureOne_23 rfl rfl ?_
  refine r_getR dX2_measureOne_24 fl_X2_19 sh_16 rfl ?_
  refine r_iload_n dX2_measureOne_27 rfl rfl ?_
  refine r_iald dX2_measureOne_28 sh_18 (by decide) (by omega) ?_
  refine r_i2l dX2_measureOne_29 (by omega) ?_
  refine r_lmul dX2_measureOne_30 ?_
  refine r_callVI (av := [_, _]) (M' := mX10_leftSteps) dX2_measureOne_31 vX10_leftSteps ml_X2_53 sh_1 (by decide) rfl rfl rfl rfl (by simp [wtA]) (sp_X10_leftSteps (by omega) (by omega) (by omega) (by omega) ?_)
  refine r_iast dX2_measureOne_34 sh_20 (by decide) (by omega) ?_
  refine r_gh (fun g eg => ?_)
  have w : WOK g := by rw [eg]; exact hw
  have e0 : g 1 0 = h 1 0 := by rw [eg]; rfl
  have ex : g 17 p.toNat = h 17 p.toNat := by rw [eg]; exact up_nc (by decide)
  have ey : g 18 p.toNat = h 18 p.toNat := by rw [eg]; exact up_nc (by decide)
  refine r_aload_n dX2_measureOne_35 rfl rfl ?_
  refine r_getR dX2_measureOne_36 fl_X2_29 sh_16 rfl ?_
  refine r_iload_n dX2_measureOne_39 rfl rfl ?_
  refine r_aload_n dX2_measureOne_40 rfl rfl ?_
  refine r_getR dX2_measureOne_41 fl_X2_35 sh_16 rfl ?_
  refine r_ldc2 (z := 100) dX2_measureOne_44 kl_X2_51 (by decide +kernel) ?_
  refine r_aload_n dX2_measureOne_47 rfl rfl ?_
  refine r_getR dX2_measureOne_48 fl_X2_15 sh_16 rfl ?_
  refine r_iload_n dX2_measureOne_51 rfl rfl ?_
  refine r_iald dX2_measureOne_52 sh_17 (by decide) (by omega) ?_
  refine r_i2l dX2_measureOne_53 (by omega) ?_
  refine r_lmul dX2_measureOne_54 ?_
  refine r_ldc2 (z := 100) dX2_measureOne_55 kl_X2_51 (by decide +kernel) ?_
  refine r_aload_n dX2_measureOne_58 rfl rfl ?_
  refine r_getR dX2_measureOne_59 fl_X2_19 sh_16 rfl ?_
  refine r_iload_n dX2_measureOne_62 rfl rfl ?_
  refine r_iald dX2_measureOne_63 sh_18 (by decide) (by omega) ?_
  refine r_i2l dX2_measureOne_64 (by omega) ?_
  refine r_lmul dX2_measureOne_65 ?_
  refine r_callVI (av := [_, _]) (M' := mX10_rightSteps) dX2_measureOne_66 vX10_rightSteps ml_X2_57 sh_1 (by decide) rfl rfl rfl rfl (by simp [wtA]) (sp_X10_rightSteps (by omega) (by omega) (by omega) (by omega) ?_)
  refine r_iast dX2_measureOne_69 sh_21 (by decide) (by omega) ?_
  refine r_vret dX2_measureOne_70 rfl ?_
  subst eg
  rw [ex, ey]
  exact ⟨rfl, k⟩
set_option maxRecDepth 20000 in
set_option maxHeartbeats 400000 in
theorem lp_measure_16 {d : Nat} (hd : 4 ≤ d) {P : Hp → Prop} {h : Hp} {n : Int} (hw : WOK h) (hn : h 16 0 = n ∧ 0 ≤ n ∧ n ≤ 150) (hxy : ∀ p : Nat, (p : Int) ≤ n → 0 ≤ h 17 p ∧ h 17 p ≤ (h 1 0) ∧ 0 ≤ h 18 p ∧ h 18 p ≤ (h 1 1)) (k : ∀ g : Hp, (∀ a k, a ≠ 20 → a ≠ 21 → g a k = h a k) → (∀ p : Nat, (p : Int) ≤ n → g 20 p = stF (h 1 2) (h 1 3) (100 * h 17 p) (100 * h 18 p) ∧ g 21 p = stF (h 1 2) (h 1 3) (100 * (h 1 0) - 100 * h 17 p) (100 * h 18 p)) → P g) : ∀ (nn : Nat) (i : Nat) (g : Hp), ((i : Int) ≤ n + 1) → (∀ a k, a ≠ 20 → a ≠ 21 → g a k = h a k) → (∀ p : Nat, p < i → g 20 p = stF (h 1 2) (h 1 3) (100 * h 17 p) (100 * h 18 p) ∧ g 21 p = stF (h 1 2) (h 1 3) (100 * (h 1 0) - 100 * h 17 p) (100 * h 18 p)) → (n + 1).toNat - i < nn → WW mX2_measure (d + 1) (pV P) 2 [some (.inr (.inr 16)), some (.inl (i : Int))] [] g := by
  intro nn
  induction nn with
  | zero => intro i g hi hg hv; intros; omega
  | succ nn ih =>
    intro i g hi hg hv hmu
    have w0 := hg 1 0 (by decide) (by decide)
    have w1 := hg 1 1 (by decide) (by decide)
    have w2 := hg 1 2 (by decide) (by decide)
    have w3 := hg 1 3 (by decide) (by decide)
    have w4 := hg 1 4 (by decide) (by decide)
    have w5 := hg 1 5 (by decide) (by decide)
    have w7 := hg 1 7 (by decide) (by decide)
    have wn := hg 16 0 (by decide) (by decide)
    have hx := hg 17 i (by decide) (by decide)
    have hy := hg 18 i (by decide) (by decide)
    have e0 : ((i : Int)).toNat = i := Int.toNat_natCast i
    refine r_iload_n dX2_measure_2 rfl rfl ?_
    refine r_aload_n dX2_measure_3 rfl rfl ?_
    refine r_getI dX2_measure_4 fl_X2_9 sh_16 rfl ?_
    refine r_icmp_gt (tgt := 21) dX2_measure_7 rfl (by omega) (by omega) (fun c_7 => ?_) (fun c_7 => ?_)
    · refine r_vret dX2_measure_21 rfl ?_
      refine ⟨rfl, k _ hg (fun p hp => hv p (by omega))⟩
    · have hz := hxy i (by omega)
      refine r_aload_n dX2_measure_10 rfl rfl ?_
      refine r_iload_n dX2_measure_11 rfl rfl ?_
      refine r_callVU (av := [_]) (M' := mX2_measureOne) dX2_measure_12 vX2_measureOne ml_X2_47 sh_16 (by decide) rfl rfl rfl rfl (by simp [wtA]) (sp_X2_measureOne_16 (by omega) (by omega) (by omega) (by rw [e0, hx]; omega) (by rw [e0, hy]; omega) ?_)
      refine r_iinc (L' := [_, _]) dX2_measure_15 rfl rfl (by decide) rfl ?_
      refine r_goto (tgt := 2) dX2_measure_18 rfl ?_
      refine ih (i + 1) _ (by omega) ?_ ?_ (by omega)
      · intro a k h1 h2
        rw [up_nc h2, up_nc h1]
        exact hg a k h1 h2
      · intro p hp
        rw [e0, hx, hy, w0, w2, w3]
        by_cases q : p = i
        · subst q
          rw [up_nc (by decide), up_s, up_s]
          exact ⟨rfl, rfl⟩
        · rw [up_nc (by decide), up_nk q, up_nk q, up_nc (by decide)]
          exact hv p (by omega)
set_option maxRecDepth 20000 in
set_option maxHeartbeats 400000 in
theorem sp_X2_measure_16 {d : Nat} (hd : 5 ≤ d) {h : Hp} {n : Int} (hw : WOK h) (hn : h 16 0 = n ∧ 0 ≤ n ∧ n ≤ 150) (hxy : ∀ p : Nat, (p : Int) ≤ n → 0 ≤ h 17 p ∧ h 17 p ≤ (h 1 0) ∧ 0 ≤ h 18 p ∧ h 18 p ≤ (h 1 1)) {P : Hp → Prop} (k : ∀ h' : Hp, (∀ a k, a ≠ 20 → a ≠ 21 → h' a k = h a k) → (∀ p : Nat, (p : Int) ≤ n → h' 20 p = stF (h 1 2) (h 1 3) (100 * h 17 p) (100 * h 18 p) ∧ h' 21 p = stF (h 1 2) (h 1 3) (100 * (h 1 0) - 100 * h 17 p) (100 * h 18 p)) → P h') : Cl d mX2_measure [.inr (.inr 16)] h (pV P) := by
  refine Cl.of (L := [some (.inr (.inr 16)), none]) (by decide +kernel) (Nat.le_of_ble_eq_true rfl) rfl ?_
  obtain ⟨d, rfl⟩ : ∃ q, d = q + 1 := ⟨d - 1, by omega⟩
  refine r_iconst dX2_measure_0 ?_
  refine r_istore_n (L' := [_, _]) dX2_measure_1 rfl rfl (by decide) rfl ?_
  exact lp_measure_16 (by omega) hw hn hxy k 152 0 h (by omega) (fun _ _ _ _ => rfl) (fun p hp => absurd hp (by omega)) (by omega)
set_option maxRecDepth 20000 in
set_option maxHeartbeats 400000 in
theorem sp_X2_goHome_16 {d : Nat} (hd : 5 ≤ d) {h : Hp}  (hw : WOK h) {P : Hp → Prop} (k : P (upH (upH (upH (upH (upH (upH h 16 0 0) 17 0 ((h 1 0).tdiv 2)) 18 0 (h 1 1)) 19 0 0) 20 0 (stF (h 1 2) (h 1 3) (100 * (h 1 0).tdiv 2) (100 * (h 1 1)))) 21 0 (stF (h 1 2) (h 1 3) (100 * (h 1 0) - 100 * (h 1 0).tdiv 2) (100 * (h 1 1))))) : Cl d mX2_goHome [.inr (.inr 16)] h (pV P) := by
  refine Cl.of (L := [some (.inr (.inr 16))]) (by decide +kernel) (Nat.le_of_ble_eq_true rfl) rfl ?_
  obtain ⟨d, rfl⟩ : ∃ q, d = q + 1 := ⟨d - 1, by omega⟩
  have t1 := tdivNN (a := (h 1 0)) (b := 2) (by omega) (by omega)
  refine r_aload_n dX2_goHome_0 rfl rfl ?_
  refine r_iconst dX2_goHome_1 ?_
  refine r_putI dX2_goHome_2 fl_X2_9 sh_16 rfl ?_
  refine r_aload_n dX2_goHome_5 rfl rfl ?_
  refine r_getR dX2_goHome_6 fl_X2_15 sh_16 rfl ?_
  refine r_iconst dX2_goHome_9 ?_
  refine r_aload_n dX2_goHome_10 rfl rfl ?_
  refine r_getR dX2_goHome_11 fl_X2_35 sh_16 rfl ?_
  refine r_getI dX2_goHome_14 fl_X2_39 sh_1 rfl ?_
  refine r_eqI (up_nc (by decide)) ?_
  refine r_iconst dX2_goHome_17 ?_
  refine r_idiv dX2_goHome_18 (by omega) ⟨by decide, by decide⟩ (by decide) ?_
  refine r_iast dX2_goHome_19 sh_17 (by decide) ⟨by decide, by decide⟩ ?_
  refine r_aload_n dX2_goHome_20 rfl rfl ?_
  refine r_getR dX2_goHome_21 fl_X2_19 sh_16 rfl ?_
  refine r_iconst dX2_goHome_24 ?_
  refine r_aload_n dX2_goHome_25 rfl rfl ?_
  refine r_getR dX2_goHome_26 fl_X2_35 sh_16 rfl ?_
  refine r_getI dX2_goHome_29 fl_X2_44 sh_1 rfl ?_
  refine r_eqI (((up_nc (by decide)).trans (up_nc (by decide)))) ?_
  refine r_iast dX2_goHome_32 sh_18 (by decide) ⟨by decide, by decide⟩ ?_
  refine r_aload_n dX2_goHome_33 rfl rfl ?_
  refine r_getR dX2_goHome_34 fl_X2_22 sh_16 rfl ?_
  refine r_iconst dX2_goHome_37 ?_
  refine r_iconst dX2_goHome_38 ?_
  refine r_zast dX2_goHome_39 sh_19 (by decide) ⟨by decide, by decide⟩ (.inl rfl) ?_
  refine r_gh (fun g eg => ?_)
  have w : WOK g := by rw [eg]; exact hw
  have e0 : g 1 0 = h 1 0 := by rw [eg]; rfl
  have e1 : g 1 1 = h 1 1 := by rw [eg]; rfl
  have ex : g 17 0 = (h 1 0).tdiv 2 := by rw [eg]; rfl
  have ey : g 18 0 = (h 1 1) := by rw [eg]; rfl
  refine r_aload_n dX2_goHome_40 rfl rfl ?_
  refine r_iconst dX2_goHome_41 ?_
  refine r_callVU (av := [_]) (M' := mX2_measureOne) dX2_goHome_42 vX2_measureOne ml_X2_47 sh_16 (by decide) rfl rfl rfl rfl (by simp [wtA]) (sp_X2_measureOne_16 (by omega) (by omega) (by omega) (show 0 ≤ g 17 0 ∧ g 17 0 ≤ g 1 0 by omega) (show 0 ≤ g 18 0 ∧ g 18 0 ≤ g 1 1 by omega) ?_)
  refine r_vret dX2_goHome_45 rfl ?_
  subst eg
  exact ⟨rfl, k⟩
set_option maxRecDepth 20000 in
set_option maxHeartbeats 400000 in
theorem sp_X2_ticksOf_23 {d : Nat} (hd : 2 ≤ d) {m : Int} {h : Hp} {n : Int} (hm : 0 ≤ m ∧ m < n) (hn : n ≤ 150) (hq : LR (h 27) (h 28) n) {P : Int → Hp → Prop} (k : P (tkF (h 27) (h 28) m.toNat) (h)) : Cl d mX2_ticksOf [.inr (.inr 23), .inl m] h (pI P) := by
  refine Cl.of (L := [some (.inr (.inr 23)), some (.inl m)]) (by decide +kernel) (Nat.le_of_ble_eq_true rfl) rfl ?_
  obtain ⟨d, rfl⟩ : ∃ q, d = q + 1 := ⟨d - 1, by omega⟩
  have e1 : (m + 1).toNat = m.toNat + 1 := by omega
  have q1 := hq m.toNat (by omega)
  have q2 := hq (m.toNat + 1) (by omega)
  rw [← e1] at q2
  refine r_aload_n dX2_ticksOf_0 rfl rfl ?_
  refine r_getR dX2_ticksOf_1 fl_X2_26 sh_23 rfl ?_
  refine r_iload_n dX2_ticksOf_4 rfl rfl ?_
  refine r_iconst dX2_ticksOf_5 ?_
  refine r_iadd dX2_ticksOf_6 ?_
  refine r_iald dX2_ticksOf_7 sh_27 (by decide) (by omega) ?_
  refine r_aload_n dX2_ticksOf_8 rfl rfl ?_
  refine r_getR dX2_ticksOf_9 fl_X2_26 sh_23 rfl ?_
  refine r_iload_n dX2_ticksOf_12 rfl rfl ?_
  refine r_iald dX2_ticksOf_13 sh_27 (by decide) (by omega) ?_
  refine r_isub dX2_ticksOf_14 ?_
  refine r_mabs (by omega) dX2_ticksOf_15 ml_X2_60 (by simp [wtA]) ?_
  refine r_aload_n dX2_ticksOf_18 rfl rfl ?_
  refine r_getR dX2_ticksOf_19 fl_X2_29 sh_23 rfl ?_
  refine r_iload_n dX2_ticksOf_22 rfl rfl ?_
  refine r_iconst dX2_ticksOf_23 ?_
  refine r_iadd dX2_ticksOf_24 ?_
  refine r_iald dX2_ticksOf_25 sh_28 (by decide) (by omega) ?_
  refine r_aload_n dX2_ticksOf_26 rfl rfl ?_
  refine r_getR dX2_ticksOf_27 fl_X2_29 sh_23 rfl ?_
  refine r_iload_n dX2_ticksOf_30 rfl rfl ?_
  refine r_iald dX2_ticksOf_31 sh_28 (by decide) (by omega) ?_
  refine r_isub dX2_ticksOf_32 ?_
  refine r_mabs (by omega) dX2_ticksOf_33 ml_X2_60 (by simp [wtA]) ?_
  refine r_mmax (by omega) (by omega) dX2_ticksOf_36 ml_X2_66 (by simp [wtA]) ?_
  refine r_iret dX2_ticksOf_39 rfl ?_
  refine ⟨_, rfl, eqP k ?_⟩
  unfold tkF
  rw [e1]
set_option maxRecDepth 20000 in
set_option maxHeartbeats 400000 in
theorem sp_X2_measureOne_23 {d : Nat} (hd : 4 ≤ d) {p : Int} {h : Hp}  (hw : WOK h) (hp : 0 ≤ p ∧ p ≤ 150) (hx : 0 ≤ h 24 p.toNat ∧ h 24 p.toNat ≤ (h 1 0)) (hy : 0 ≤ h 25 p.toNat ∧ h 25 p.toNat ≤ (h 1 1)) {P : Hp → Prop} (k : P (upH (upH h 27 p.toNat (stF (h 1 2) (h 1 3) (100 * h 24 p.toNat) (100 * h 25 p.toNat))) 28 p.toNat (stF (h 1 2) (h 1 3) (100 * (h 1 0) - 100 * h 24 p.toNat) (100 * h 25 p.toNat)))) : Cl d mX2_measureOne [.inr (.inr 23), .inl p] h (pV P) := by
  refine Cl.of (L := [some (.inr (.inr 23)), some (.inl p)]) (by decide +kernel) (Nat.le_of_ble_eq_true rfl) rfl ?_
  obtain ⟨d, rfl⟩ : ∃ q, d = q + 1 := ⟨d - 1, by omega⟩
  refine r_aload_n dX2_measureOne_0 rfl rfl ?_
  refine r_getR dX2_measureOne_1 fl_X2_26 sh_23 rfl ?_
  refine r_iload_n dX2_measureOne_4 rfl rfl ?_
  refine r_aload_n dX2_measureOne_5 rfl rfl ?_
  refine r_getR dX2_measureOne_6 fl_X2_35 sh_23 rfl ?_
  refine r_ldc2 (z := 100) dX2_measureOne_9 kl_X2_51 (by decide +kernel) ?_
  refine r_aload_n dX2_measureOne_12 rfl rfl ?_
  refine r_getR dX2_measureOne_13 fl_X2_15 sh_23 rfl ?_
  refine r_iload_n dX2_measureOne_16 rfl rfl ?_
  refine r_iald dX2_measureOne_17 sh_24 (by decide) (by omega) ?_
  refine r_i2l dX2_measureOne_18 (by omega) ?_
  refine r_lmul dX2_measureOne_19 ?_
  refine r_ldc2 (z := 100) dX2_measureOne_20 kl_X2_51 (by decide +kernel) ?_
  refine r_aload_n dX2_measureOne_23 rfl rfl ?_
  refine r_getR dX2_measureOne_24 fl_X2_19 sh_23 rfl ?_
  refine r_iload_n dX2_measureOne_27 rfl rfl ?_
  refine r_iald dX2_measureOne_28 sh_25 (by decide) (by omega) ?_
  refine r_i2l dX2_measureOne_29 (by omega) ?_
  refine r_lmul dX2_measureOne_30 ?_
  refine r_callVI (av := [_, _]) (M' := mX10_leftSteps) dX2_measureOne_31 vX10_leftSteps ml_X2_53 sh_1 (by decide) rfl rfl rfl rfl (by simp [wtA]) (sp_X10_leftSteps (by omega) (by omega) (by omega) (by omega) ?_)
  refine r_iast dX2_measureOne_34 sh_27 (by decide) (by omega) ?_
  refine r_gh (fun g eg => ?_)
  have w : WOK g := by rw [eg]; exact hw
  have e0 : g 1 0 = h 1 0 := by rw [eg]; rfl
  have ex : g 24 p.toNat = h 24 p.toNat := by rw [eg]; exact up_nc (by decide)
  have ey : g 25 p.toNat = h 25 p.toNat := by rw [eg]; exact up_nc (by decide)
  refine r_aload_n dX2_measureOne_35 rfl rfl ?_
  refine r_getR dX2_measureOne_36 fl_X2_29 sh_23 rfl ?_
  refine r_iload_n dX2_measureOne_39 rfl rfl ?_
  refine r_aload_n dX2_measureOne_40 rfl rfl ?_
  refine r_getR dX2_measureOne_41 fl_X2_35 sh_23 rfl ?_
  refine r_ldc2 (z := 100) dX2_measureOne_44 kl_X2_51 (by decide +kernel) ?_
  refine r_aload_n dX2_measureOne_47 rfl rfl ?_
  refine r_getR dX2_measureOne_48 fl_X2_15 sh_23 rfl ?_
  refine r_iload_n dX2_measureOne_51 rfl rfl ?_
  refine r_iald dX2_measureOne_52 sh_24 (by decide) (by omega) ?_
  refine r_i2l dX2_measureOne_53 (by omega) ?_
  refine r_lmul dX2_measureOne_54 ?_
  refine r_ldc2 (z := 100) dX2_measureOne_55 kl_X2_51 (by decide +kernel) ?_
  refine r_aload_n dX2_measureOne_58 rfl rfl ?_
  refine r_getR dX2_measureOne_59 fl_X2_19 sh_23 rfl ?_
  refine r_iload_n dX2_measureOne_62 rfl rfl ?_
  refine r_iald dX2_measureOne_63 sh_25 (by decide) (by omega) ?_
  refine r_i2l dX2_measureOne_64 (by omega) ?_
  refine r_lmul dX2_measureOne_65 ?_
  refine r_callVI (av := [_, _]) (M' := mX10_rightSteps) dX2_measureOne_66 vX10_rightSteps ml_X2_57 sh_1 (by decide) rfl rfl rfl rfl (by simp [wtA]) (sp_X10_rightSteps (by omega) (by omega) (by omega) (by omega) ?_)
  refine r_iast dX2_measureOne_69 sh_28 (by decide) (by omega) ?_
  refine r_vret dX2_measureOne_70 rfl ?_
  subst eg
  rw [ex, ey]
  exact ⟨rfl, k⟩
set_option maxRecDepth 20000 in
set_option maxHeartbeats 400000 in
theorem lp_measure_23 {d : Nat} (hd : 4 ≤ d) {P : Hp → Prop} {h : Hp} {n : Int} (hw : WOK h) (hn : h 23 0 = n ∧ 0 ≤ n ∧ n ≤ 150) (hxy : ∀ p : Nat, (p : Int) ≤ n → 0 ≤ h 24 p ∧ h 24 p ≤ (h 1 0) ∧ 0 ≤ h 25 p ∧ h 25 p ≤ (h 1 1)) (k : ∀ g : Hp, (∀ a k, a ≠ 27 → a ≠ 28 → g a k = h a k) → (∀ p : Nat, (p : Int) ≤ n → g 27 p = stF (h 1 2) (h 1 3) (100 * h 24 p) (100 * h 25 p) ∧ g 28 p = stF (h 1 2) (h 1 3) (100 * (h 1 0) - 100 * h 24 p) (100 * h 25 p)) → P g) : ∀ (nn : Nat) (i : Nat) (g : Hp), ((i : Int) ≤ n + 1) → (∀ a k, a ≠ 27 → a ≠ 28 → g a k = h a k) → (∀ p : Nat, p < i → g 27 p = stF (h 1 2) (h 1 3) (100 * h 24 p) (100 * h 25 p) ∧ g 28 p = stF (h 1 2) (h 1 3) (100 * (h 1 0) - 100 * h 24 p) (100 * h 25 p)) → (n + 1).toNat - i < nn → WW mX2_measure (d + 1) (pV P) 2 [some (.inr (.inr 23)), some (.inl (i : Int))] [] g := by
  intro nn
  induction nn with
  | zero => intro i g hi hg hv; intros; omega
  | succ nn ih =>
    intro i g hi hg hv hmu
    have w0 := hg 1 0 (by decide) (by decide)
    have w1 := hg 1 1 (by decide) (by decide)
    have w2 := hg 1 2 (by decide) (by decide)
    have w3 := hg 1 3 (by decide) (by decide)
    have w4 := hg 1 4 (by decide) (by decide)
    have w5 := hg 1 5 (by decide) (by decide)
    have w7 := hg 1 7 (by decide) (by decide)
    have wn := hg 23 0 (by decide) (by decide)
    have hx := hg 24 i (by decide) (by decide)
    have hy := hg 25 i (by decide) (by decide)
    have e0 : ((i : Int)).toNat = i := Int.toNat_natCast i
    refine r_iload_n dX2_measure_2 rfl rfl ?_
    refine r_aload_n dX2_measure_3 rfl rfl ?_
    refine r_getI dX2_measure_4 fl_X2_9 sh_23 rfl ?_
    refine r_icmp_gt (tgt := 21) dX2_measure_7 rfl (by omega) (by omega) (fun c_7 => ?_) (fun c_7 => ?_)
    · refine r_vret dX2_measure_21 rfl ?_
      refine ⟨rfl, k _ hg (fun p hp => hv p (by omega))⟩
    · have hz := hxy i (by omega)
      refine r_aload_n dX2_measure_10 rfl rfl ?_
      refine r_iload_n dX2_measure_11 rfl rfl ?_
      refine r_callVU (av := [_]) (M' := mX2_measureOne) dX2_measure_12 vX2_measureOne ml_X2_47 sh_23 (by decide) rfl rfl rfl rfl (by simp [wtA]) (sp_X2_measureOne_23 (by omega) (by omega) (by omega) (by rw [e0, hx]; omega) (by rw [e0, hy]; omega) ?_)
      refine r_iinc (L' := [_, _]) dX2_measure_15 rfl rfl (by decide) rfl ?_
      refine r_goto (tgt := 2) dX2_measure_18 rfl ?_
      refine ih (i + 1) _ (by omega) ?_ ?_ (by omega)
      · intro a k h1 h2
        rw [up_nc h2, up_nc h1]
        exact hg a k h1 h2
      · intro p hp
        rw [e0, hx, hy, w0, w2, w3]
        by_cases q : p = i
        · subst q
          rw [up_nc (by decide), up_s, up_s]
          exact ⟨rfl, rfl⟩
        · rw [up_nc (by decide), up_nk q, up_nk q, up_nc (by decide)]
          exact hv p (by omega)
set_option maxRecDepth 20000 in
set_option maxHeartbeats 400000 in
theorem sp_X2_measure_23 {d : Nat} (hd : 5 ≤ d) {h : Hp} {n : Int} (hw : WOK h) (hn : h 23 0 = n ∧ 0 ≤ n ∧ n ≤ 150) (hxy : ∀ p : Nat, (p : Int) ≤ n → 0 ≤ h 24 p ∧ h 24 p ≤ (h 1 0) ∧ 0 ≤ h 25 p ∧ h 25 p ≤ (h 1 1)) {P : Hp → Prop} (k : ∀ h' : Hp, (∀ a k, a ≠ 27 → a ≠ 28 → h' a k = h a k) → (∀ p : Nat, (p : Int) ≤ n → h' 27 p = stF (h 1 2) (h 1 3) (100 * h 24 p) (100 * h 25 p) ∧ h' 28 p = stF (h 1 2) (h 1 3) (100 * (h 1 0) - 100 * h 24 p) (100 * h 25 p)) → P h') : Cl d mX2_measure [.inr (.inr 23)] h (pV P) := by
  refine Cl.of (L := [some (.inr (.inr 23)), none]) (by decide +kernel) (Nat.le_of_ble_eq_true rfl) rfl ?_
  obtain ⟨d, rfl⟩ : ∃ q, d = q + 1 := ⟨d - 1, by omega⟩
  refine r_iconst dX2_measure_0 ?_
  refine r_istore_n (L' := [_, _]) dX2_measure_1 rfl rfl (by decide) rfl ?_
  exact lp_measure_23 (by omega) hw hn hxy k 152 0 h (by omega) (fun _ _ _ _ => rfl) (fun p hp => absurd hp (by omega)) (by omega)
set_option maxRecDepth 20000 in
set_option maxHeartbeats 400000 in
theorem sp_X2_goHome_23 {d : Nat} (hd : 5 ≤ d) {h : Hp}  (hw : WOK h) {P : Hp → Prop} (k : P (upH (upH (upH (upH (upH (upH h 23 0 0) 24 0 ((h 1 0).tdiv 2)) 25 0 (h 1 1)) 26 0 0) 27 0 (stF (h 1 2) (h 1 3) (100 * (h 1 0).tdiv 2) (100 * (h 1 1)))) 28 0 (stF (h 1 2) (h 1 3) (100 * (h 1 0) - 100 * (h 1 0).tdiv 2) (100 * (h 1 1))))) : Cl d mX2_goHome [.inr (.inr 23)] h (pV P) := by
  refine Cl.of (L := [some (.inr (.inr 23))]) (by decide +kernel) (Nat.le_of_ble_eq_true rfl) rfl ?_
  obtain ⟨d, rfl⟩ : ∃ q, d = q + 1 := ⟨d - 1, by omega⟩
  have t1 := tdivNN (a := (h 1 0)) (b := 2) (by omega) (by omega)
  refine r_aload_n dX2_goHome_0 rfl rfl ?_
  refine r_iconst dX2_goHome_1 ?_
  refine r_putI dX2_goHome_2 fl_X2_9 sh_23 rfl ?_
  refine r_aload_n dX2_goHome_5 rfl rfl ?_
  refine r_getR dX2_goHome_6 fl_X2_15 sh_23 rfl ?_
  refine r_iconst dX2_goHome_9 ?_
  refine r_aload_n dX2_goHome_10 rfl rfl ?_
  refine r_getR dX2_goHome_11 fl_X2_35 sh_23 rfl ?_
  refine r_getI dX2_goHome_14 fl_X2_39 sh_1 rfl ?_
  refine r_eqI (up_nc (by decide)) ?_
  refine r_iconst dX2_goHome_17 ?_
  refine r_idiv dX2_goHome_18 (by omega) ⟨by decide, by decide⟩ (by decide) ?_
  refine r_iast dX2_goHome_19 sh_24 (by decide) ⟨by decide, by decide⟩ ?_
  refine r_aload_n dX2_goHome_20 rfl rfl ?_
  refine r_getR dX2_goHome_21 fl_X2_19 sh_23 rfl ?_
  refine r_iconst dX2_goHome_24 ?_
  refine r_aload_n dX2_goHome_25 rfl rfl ?_
  refine r_getR dX2_goHome_26 fl_X2_35 sh_23 rfl ?_
  refine r_getI dX2_goHome_29 fl_X2_44 sh_1 rfl ?_
  refine r_eqI (((up_nc (by decide)).trans (up_nc (by decide)))) ?_
  refine r_iast dX2_goHome_32 sh_25 (by decide) ⟨by decide, by decide⟩ ?_
  refine r_aload_n dX2_goHome_33 rfl rfl ?_
  refine r_getR dX2_goHome_34 fl_X2_22 sh_23 rfl ?_
  refine r_iconst dX2_goHome_37 ?_
  refine r_iconst dX2_goHome_38 ?_
  refine r_zast dX2_goHome_39 sh_26 (by decide) ⟨by decide, by decide⟩ (.inl rfl) ?_
  refine r_gh (fun g eg => ?_)
  have w : WOK g := by rw [eg]; exact hw
  have e0 : g 1 0 = h 1 0 := by rw [eg]; rfl
  have e1 : g 1 1 = h 1 1 := by rw [eg]; rfl
  have ex : g 24 0 = (h 1 0).tdiv 2 := by rw [eg]; rfl
  have ey : g 25 0 = (h 1 1) := by rw [eg]; rfl
  refine r_aload_n dX2_goHome_40 rfl rfl ?_
  refine r_iconst dX2_goHome_41 ?_
  refine r_callVU (av := [_]) (M' := mX2_measureOne) dX2_goHome_42 vX2_measureOne ml_X2_47 sh_23 (by decide) rfl rfl rfl rfl (by simp [wtA]) (sp_X2_measureOne_23 (by omega) (by omega) (by omega) (show 0 ≤ g 24 0 ∧ g 24 0 ≤ g 1 0 by omega) (show 0 ≤ g 25 0 ∧ g 25 0 ≤ g 1 1 by omega) ?_)
  refine r_vret dX2_goHome_45 rfl ?_
  subst eg
  exact ⟨rfl, k⟩
set_option maxRecDepth 20000 in
set_option maxHeartbeats 400000 in
theorem sp_X2_has_16 {d : Nat} (hd : 1 ≤ d) {m : Int} {h : Hp}  (hm : R32 m) (hn : 0 ≤ (h 16 0) ∧ (h 16 0) ≤ 150) {P : Int → Hp → Prop} (kt : (0 ≤ m ∧ m < (h 16 0)) → P 1 h) (kf : ¬ (0 ≤ m ∧ m < (h 16 0)) → P 0 h) : Cl d mX2_has [.inr (.inr 16), .inl m] h (pI P) := by
  refine Cl.of (L := [some (.inr (.inr 16)), some (.inl m)]) (by decide +kernel) (Nat.le_of_ble_eq_true rfl) rfl ?_
  refine r_iload_n dX2_has_0 rfl rfl ?_
  refine r_if_lt (tgt := 16) dX2_has_1 rfl (by omega) (fun c_1 => ?_) (fun c_1 => ?_)
  · refine r_iconst dX2_has_16 ?_
    refine r_zret dX2_has_17 rfl (.inl rfl) ?_
    exact ⟨_, rfl, kf (by omega)⟩
  · refine r_iload_n dX2_has_4 rfl rfl ?_
    refine r_aload_n dX2_has_5 rfl rfl ?_
    refine r_getI dX2_has_6 fl_X2_9 sh_16 rfl ?_
    refine r_icmp_ge (tgt := 16) dX2_has_9 rfl (by omega) (by omega) (fun c_9 => ?_) (fun c_9 => ?_)
    · refine r_iconst dX2_has_16 ?_
      refine r_zret dX2_has_17 rfl (.inl rfl) ?_
      exact ⟨_, rfl, kf (by omega)⟩
    · refine r_iconst dX2_has_12 ?_
      refine r_goto (tgt := 17) dX2_has_13 rfl ?_
      refine r_zret dX2_has_17 rfl (.inr rfl) ?_
      exact ⟨_, rfl, kt (by omega)⟩
set_option maxRecDepth 20000 in
set_option maxHeartbeats 400000 in
theorem lp_missedBy {d : Nat} {P : Int → Hp → Prop} {h : Hp} {m c : Int} (hm : 0 ≤ m ∧ m ≤ 150) (hc : c = 0 ∨ c = 1) (hn : 0 ≤ (h 16 0) ∧ (h 16 0) ≤ 150) (hr : ∀ j : Nat, j < 300 → -9 ≤ h 22 j ∧ h 22 j ≤ 9) (k : P (msN (h 22) c.toNat (min (m + 1) (h 16 0)).toNat) h) : ∀ (nn : Nat) (i : Nat) (s : Int), ((i : Int) ≤ min (m + 1) (h 16 0)) → (s = msN (h 22) c.toNat i) → 151 - i < nn → WW mX2_missedBy d (pI P) 5 [some (.inr (.inr 16)), some (.inl m), some (.inl c), some (.inl s), some (.inl (i : Int))] [] h := by
  intro nn
  induction nn with
  | zero => intro i s hi hs; intros; omega
  | succ nn ih =>
    intro i s hi hs hmu
    refine r_iload dX2_missedBy_5 rfl ?_
    refine r_iload_n dX2_missedBy_7 rfl rfl ?_
    refine r_icmp_gt (tgt := 40) dX2_missedBy_8 rfl (by omega) (by omega) (fun c_8 => ?_) (fun c_8 => ?_)
    · refine r_iload_n dX2_missedBy_40 rfl rfl ?_
      refine r_iret dX2_missedBy_41 rfl ?_
      refine ⟨_, rfl, eqP k ?_⟩
      rw [hs]
      congr 1
      omega
    · refine r_iload dX2_missedBy_11 rfl ?_
      refine r_aload_n dX2_missedBy_13 rfl rfl ?_
      refine r_getI dX2_missedBy_14 fl_X2_9 sh_16 rfl ?_
      refine r_icmp_ge (tgt := 40) dX2_missedBy_17 rfl (by omega) (by omega) (fun c_17 => ?_) (fun c_17 => ?_)
      · refine r_iload_n dX2_missedBy_40 rfl rfl ?_
        refine r_iret dX2_missedBy_41 rfl ?_
        refine ⟨_, rfl, eqP k ?_⟩
        rw [hs]
        congr 1
        omega
      · refine r_iload_n dX2_missedBy_20 rfl rfl ?_
        refine r_aload_n dX2_missedBy_21 rfl rfl ?_
        refine r_getR dX2_missedBy_22 fl_X2_32 sh_16 rfl ?_
        refine r_iconst dX2_missedBy_25 ?_
        refine r_iload dX2_missedBy_26 rfl ?_
        refine r_imul dX2_missedBy_28 ?_
        refine r_iload_n dX2_missedBy_29 rfl rfl ?_
        refine r_iadd dX2_missedBy_30 ?_
        refine r_iald dX2_missedBy_31 sh_22 (by decide) (by omega) ?_
        refine r_iadd dX2_missedBy_32 ?_
        refine r_nmI (fun x3_33 e_x3_33 => ?_)
        refine r_istore_n (L' := [_, _, _, _, _]) dX2_missedBy_33 rfl rfl (by decide) rfl ?_
        refine r_iinc (L' := [_, _, _, _, _]) dX2_missedBy_34 rfl rfl (by decide) rfl ?_
        refine r_goto (tgt := 5) dX2_missedBy_37 rfl ?_
        refine ih (i + 1) _ (by omega) ?_ (by omega)
        unfold msN at hs ⊢
        simp only [sumN]
        rw [← hs, show 2 * i + c.toNat = (2 * (i : Int) + c).toNat by omega]
        first | exact e_x3_33 | assumption
set_option maxRecDepth 20000 in
set_option maxHeartbeats 400000 in
theorem sp_X2_missedBy_16 {d : Nat} (hd : 1 ≤ d) {m c : Int} {h : Hp}  (hm : 0 ≤ m ∧ m ≤ 150) (hc : c = 0 ∨ c = 1) (hn : 0 ≤ (h 16 0) ∧ (h 16 0) ≤ 150) (hr : ∀ j : Nat, j < 300 → -9 ≤ h 22 j ∧ h 22 j ≤ 9) {P : Int → Hp → Prop} (k : P (msN (h 22) c.toNat (min (m + 1) (h 16 0)).toNat) (h)) : Cl d mX2_missedBy [.inr (.inr 16), .inl m, .inl c] h (pI P) := by
  refine Cl.of (L := [some (.inr (.inr 16)), some (.inl m), some (.inl c), none, none]) (by decide +kernel) (Nat.le_of_ble_eq_true rfl) rfl ?_
  refine r_iconst dX2_missedBy_0 ?_
  refine r_istore_n (L' := [_, _, _, _, _]) dX2_missedBy_1 rfl rfl (by decide) rfl ?_
  refine r_iconst dX2_missedBy_2 ?_
  refine r_istore (L' := [_, _, _, _, _]) dX2_missedBy_3 rfl (by decide) rfl ?_
  exact lp_missedBy hm hc hn hr k 152 0 0 (by omega) rfl (by omega)
set_option maxRecDepth 20000 in
set_option maxHeartbeats 400000 in
theorem sp_X2_between {d : Nat} (hd : 1 ≤ d) {f l i n : Int} {h : Hp}  (hf : 0 ≤ f ∧ f ≤ 5660) (hl : 0 ≤ l ∧ l ≤ 5660) (hn : 0 ≤ n ∧ n ≤ 5660) (hi : 0 ≤ i ∧ i ≤ n) {P : Int → Hp → Prop} (k : P (btF f l i n) (h)) : Cl d mX2_between [.inl f, .inl l, .inl i, .inl n] h (pI P) := by
  refine Cl.of (L := [some (.inl f), some (.inl l), some (.inl i), some (.inl n)]) (by decide +kernel) (Nat.le_of_ble_eq_true rfl) rfl ?_
  have m1 : -32035600 ≤ i * (l - f) ∧ i * (l - f) ≤ 32035600 := by
    rcases Int.le_total f l with q | q
    · have := mulR (a := i) (b := l - f) (A := 5660) (B := 5660) (by omega) (by omega)
      omega
    · have := mulR (a := i) (b := f - l) (A := 5660) (B := 5660) (by omega) (by omega)
      have e : i * (l - f) = -(i * (f - l)) := by grind
      omega
  refine r_iload_n dX2_between_0 rfl rfl ?_
  refine r_if_le (tgt := 16) dX2_between_1 rfl (by omega) (fun c_1 => ?_) (fun c_1 => ?_)
  · refine r_iload_n dX2_between_16 rfl rfl ?_
    refine r_iret dX2_between_17 rfl ?_
    refine ⟨_, rfl, eqP k ?_⟩
    unfold btF
    first | rw [if_pos (by omega)] | rw [if_neg (by omega)]
  · refine r_iload_n dX2_between_4 rfl rfl ?_
    refine r_iload_n dX2_between_5 rfl rfl ?_
    refine r_iload_n dX2_between_6 rfl rfl ?_
    refine r_iload_n dX2_between_7 rfl rfl ?_
    refine r_isub dX2_between_8 ?_
    refine r_imul dX2_between_9 ?_
    refine r_iload_n dX2_between_10 rfl rfl ?_
    refine r_idiv dX2_between_11 (by omega) (by omega) (by omega) ?_
    refine r_iadd dX2_between_12 ?_
    refine r_goto (tgt := 17) dX2_between_13 rfl ?_
    refine r_iret dX2_between_17 rfl ?_
    refine ⟨_, rfl, eqP k ?_⟩
    unfold btF
    first | rw [if_pos (by omega)] | rw [if_neg (by omega)]
set_option maxRecDepth 20000 in
set_option maxHeartbeats 400000 in
theorem lp_dropMissed {d : Nat} {P : Hp → Prop} {h : Hp} (k : ∀ g : Hp, (∀ a k, a ≠ 22 → g a k = h a k) → (∀ p : Nat, p < 300 → g 22 p = 0) → P g) : ∀ (nn : Nat) (i : Nat) (g : Hp), (i ≤ 300) → (∀ a k, a ≠ 22 → g a k = h a k) → (∀ p : Nat, p < i → g 22 p = 0) → 300 - i < nn → WW mX2_dropMissed d (pV P) 2 [some (.inr (.inr 16)), some (.inl (i : Int))] [] g := by
  intro nn
  induction nn with
  | zero => intro i g hi hg hv; intros; omega
  | succ nn ih =>
    intro i g hi hg hv hmu
    refine r_iload_n dX2_dropMissed_2 rfl rfl ?_
    refine r_sipush dX2_dropMissed_3 (by decide +kernel) ?_
    refine r_icmp_ge (tgt := 22) dX2_dropMissed_6 rfl (by omega) ⟨by decide, by decide⟩ (fun c_6 => ?_) (fun c_6 => ?_)
    · refine r_vret dX2_dropMissed_22 rfl ?_
      exact ⟨rfl, k _ hg (fun p hp => hv p (by omega))⟩
    · refine r_aload_n dX2_dropMissed_9 rfl rfl ?_
      refine r_getR dX2_dropMissed_10 fl_X2_32 sh_16 rfl ?_
      refine r_iload_n dX2_dropMissed_13 rfl rfl ?_
      refine r_iconst dX2_dropMissed_14 ?_
      refine r_iast dX2_dropMissed_15 sh_22 (by decide) (by omega) ?_
      refine r_iinc (L' := [_, _]) dX2_dropMissed_16 rfl rfl (by decide) rfl ?_
      refine r_goto (tgt := 2) dX2_dropMissed_19 rfl ?_
      refine ih (i + 1) _ (by omega) ?_ ?_ (by omega)
      · intro a k h1
        rw [up_nc h1]
        exact hg a k h1
      · intro p hp
        rw [Int.toNat_natCast]
        by_cases q : p = i
        · subst q
          rw [up_s]
        · rw [up_nk q]
          exact hv p (by omega)
set_option maxRecDepth 20000 in
set_option maxHeartbeats 400000 in
theorem sp_X2_dropMissed_16 {d : Nat} (hd : 1 ≤ d) {h : Hp}   {P : Hp → Prop} (k : ∀ h' : Hp, (∀ a k, a ≠ 22 → h' a k = h a k) → (∀ p : Nat, p < 300 → h' 22 p = 0) → P h') : Cl d mX2_dropMissed [.inr (.inr 16)] h (pV P) := by
  refine Cl.of (L := [some (.inr (.inr 16)), none]) (by decide +kernel) (Nat.le_of_ble_eq_true rfl) rfl ?_
  refine r_iconst dX2_dropMissed_0 ?_
  refine r_istore_n (L' := [_, _]) dX2_dropMissed_1 rfl rfl (by decide) rfl ?_
  exact lp_dropMissed k 301 0 h (by omega) (fun _ _ _ => rfl) (fun p hp => absurd hp (by omega)) (by omega)
