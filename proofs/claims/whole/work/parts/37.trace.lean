/-! HOW TRULY: sag, parts, skips; the class -/
def mxN (f : Nat → Int) : Nat → Int
  | 0 => 0
  | n + 1 => max (mxN f n) (f n)
theorem mxN_nn (f : Nat → Int) : ∀ n : Nat, 0 ≤ mxN f n
  | 0 => Int.le_refl _
  | n + 1 => by
    have := mxN_nn f n
    rw [mxN]
    omega
theorem mxN_le {f : Nat → Int} {B : Int} (hB : 0 ≤ B) : ∀ n : Nat, (∀ i, i < n → f i ≤ B) → mxN f n ≤ B
  | 0, _ => hB
  | n + 1, h => by
    have a := mxN_le hB n (fun i hi => h i (by omega))
    have b := h n (by omega)
    rw [mxN]
    omega
theorem mxN_mono {f : Nat → Int} {i j : Nat} (h : i ≤ j) : mxN f i ≤ mxN f j := by
  induction j with
  | zero => rw [show i = 0 by omega]; exact Int.le_refl _
  | succ j ih =>
    by_cases q : i = j + 1
    · rw [q]; exact Int.le_refl _
    · have := ih (by omega)
      rw [mxN]
      omega
theorem mxN_cg {f g : Nat → Int} : ∀ n : Nat, (∀ i, i < n → f i = g i) → mxN f n = mxN g n
  | 0, _ => rfl
  | n + 1, h => by rw [mxN, mxN, mxN_cg n (fun i hi => h i (by omega)), h n (by omega)]
noncomputable def lnF (dx dy : Int) : Int := max (rt0 (dx * dx + dy * dy)) 1
noncomputable def dsF (K W E x0 y0 dx dy l r : Int) : Int := ((dx * (pY K W E l r - y0) - dy * (pX K W E l r - x0)).natAbs : Int).tdiv (lnF dx dy)
def tkN (l r l2 r2 : Int) : Int := max ((l2 - l).natAbs : Int) ((r2 - r).natAbs : Int)
noncomputable def trF (K W E x0 y0 dx dy l r l2 r2 n : Int) (i : Nat) : Int := dsF K W E x0 y0 dx dy (btF l l2 i n) (btF r r2 i n)
noncomputable def strF (K W E x0 y0 dx dy l r l2 r2 : Int) : Int := mxN (trF K W E x0 y0 dx dy l r l2 r2 (tkN l r l2 r2)) ((tkN l r l2 r2).toNat + 1)
theorem sq_ge {a n : Int} (h : a * a ≤ n) : (a.natAbs : Int) ≤ rt0 n := by
  have e : (a.natAbs : Int) * (a.natAbs : Int) = a * a := by
    have := Int.natAbs_mul_self (a := a)
    rw [← this]
    exact (Int.natCast_mul _ _).symm
  have n0 : 0 ≤ n := by
    have := Int.mul_nonneg (show (0 : Int) ≤ (a.natAbs : Int) by omega) (show (0 : Int) ≤ (a.natAbs : Int) by omega)
    omega
  rw [rt0_eq n0]
  exact rt_ge n0 (by omega) (by omega)
theorem sq_nn (a : Int) : 0 ≤ a * a := by
  rcases Int.le_total 0 a with q | q
  · exact Int.mul_nonneg q q
  · have := Int.mul_nonneg (show 0 ≤ -a by omega) (show 0 ≤ -a by omega)
    rw [Int.neg_mul_neg] at this
    exact this
theorem lnF_ge (dx dy : Int) : 1 ≤ lnF dx dy ∧ -lnF dx dy ≤ dx ∧ dx ≤ lnF dx dy ∧ -lnF dx dy ≤ dy ∧ dy ≤ lnF dx dy := by
  have a := sq_ge (a := dx) (n := dx * dx + dy * dy) (by have := sq_nn dy; omega)
  have b := sq_ge (a := dy) (n := dx * dx + dy * dy) (by have := sq_nn dx; omega)
  unfold lnF
  omega
theorem lnF_le {dx dy : Int} (h1 : -600000000 ≤ dx ∧ dx ≤ 600000000) (h2 : -2019800 ≤ dy ∧ dy ≤ 2019800) : lnF dx dy ≤ 1000000000 := by
  have q1 := mulS (a := dx) (b := dx) (A := 600000000) (B := 600000000) (by omega) (by omega)
  have q2 := mulS (a := dy) (b := dy) (A := 2019800) (B := 2019800) (by omega) (by omega)
  have g4 := rt0_le (n := dx * dx + dy * dy) (b := 1000000000) (by omega) (by omega)
  unfold lnF
  omega
theorem dsF_r {K W E x0 y0 dx dy l r : Int} (hK : 2 ≤ K ∧ K ≤ 20) (hW : 20 ≤ W ∧ W ≤ 200) (hE : 0 ≤ E ∧ E ≤ 99) (hl : -20000 ≤ l ∧ l ≤ 20000) (hr : -20000 ≤ r ∧ r ≤ 20000) (hx : -300000000 ≤ x0 ∧ x0 ≤ 300000000) (hy : 0 ≤ y0 ∧ y0 ≤ 2019800) (hdx : -600000000 ≤ dx ∧ dx ≤ 600000000) (hdy : -2019800 ≤ dy ∧ dy ≤ 2019800) :
    0 ≤ dsF K W E x0 y0 dx dy l r ∧ dsF K W E x0 y0 dx dy l r ≤ 602019800 ∧ (-4000000000000000 ≤ dx * (pY K W E l r - y0) ∧ dx * (pY K W E l r - y0) ≤ 4000000000000000) ∧ (-4000000000000000 ≤ dy * (pX K W E l r - x0) ∧ dy * (pX K W E l r - x0) ≤ 4000000000000000) := by
  have a1 := pX_r hK hW hE hl hr
  have b1 := pY_r (W := W) (r := r) hK hE hl
  have g := lnF_ge dx dy
  have m1 := mulS (a := dx) (b := pY K W E l r - y0) (A := lnF dx dy) (B := 2019800) (by omega) (by omega)
  have m2 := mulS (a := dy) (b := pX K W E l r - x0) (A := lnF dx dy) (B := 600000000) (by omega) (by omega)
  have m3 := mulS (a := dx) (b := pY K W E l r - y0) (A := 600000000) (B := 2019800) (by omega) (by omega)
  have m4 := mulS (a := dy) (b := pX K W E l r - x0) (A := 2019800) (B := 600000000) (by omega) (by omega)
  have d1 := tdiv_le (a := ((dx * (pY K W E l r - y0) - dy * (pX K W E l r - x0)).natAbs : Int)) (b := lnF dx dy) (q := 602019800) (by omega) (by omega) (by omega)
  have d2 := tdivNN (a := ((dx * (pY K W E l r - y0) - dy * (pX K W E l r - x0)).natAbs : Int)) (b := lnF dx dy) (by omega) (by omega)
  unfold dsF
  omega
theorem btF_rB {f l i n B : Int} (hf : 0 ≤ f ∧ f ≤ B) (hl : 0 ≤ l ∧ l ≤ B) (hi : 0 ≤ i ∧ i ≤ n) : 0 ≤ btF f l i n ∧ btF f l i n ≤ B := by
  unfold btF
  split
  · rename_i hn
    rcases Int.le_total f l with q | q
    · have m1 := mulR (a := i) (b := l - f) (A := n) (B := l - f) (by omega) (by omega)
      have := tdiv_le (a := i * (l - f)) (b := n) (q := l - f) (by omega) hn (by rw [Int.mul_comm (l - f) n]; omega)
      have := tdivNN (a := i * (l - f)) (b := n) (by omega) hn
      omega
    · have m1 := mulR (a := i) (b := f - l) (A := n) (B := f - l) (by omega) (by omega)
      have e : i * (l - f) = -(i * (f - l)) := by grind
      have := tdiv_le (a := i * (f - l)) (b := n) (q := f - l) (by omega) hn (by rw [Int.mul_comm (f - l) n]; omega)
      have := tdivNN (a := i * (f - l)) (b := n) (by omega) hn
      rw [e, Int.neg_tdiv]
      omega
  · omega
theorem btF_n {f l n : Int} (h : ((l - f).natAbs : Int) ≤ n) : btF f l n n = l := by
  unfold btF
  split
  · rw [Int.mul_comm, Int.mul_tdiv_cancel _ (by omega)]
    omega
  · omega
theorem btF_0 {f l n : Int} : btF f l 0 n = f := by
  unfold btF
  split
  · rw [Int.zero_mul, Int.zero_tdiv, Int.add_zero]
  · rfl
theorem strF_r {K W E x0 y0 dx dy l r l2 r2 : Int} (hK : 2 ≤ K ∧ K ≤ 20) (hW : 20 ≤ W ∧ W ≤ 200) (hE : 0 ≤ E ∧ E ≤ 99) (hl : 0 ≤ l ∧ l ≤ 5660) (hr : 0 ≤ r ∧ r ≤ 5660) (hl2 : 0 ≤ l2 ∧ l2 ≤ 5660) (hr2 : 0 ≤ r2 ∧ r2 ≤ 5660) (hx : -300000000 ≤ x0 ∧ x0 ≤ 300000000) (hy : 0 ≤ y0 ∧ y0 ≤ 2019800) (hdx : -600000000 ≤ dx ∧ dx ≤ 600000000) (hdy : -2019800 ≤ dy ∧ dy ≤ 2019800) :
    0 ≤ strF K W E x0 y0 dx dy l r l2 r2 ∧ strF K W E x0 y0 dx dy l r l2 r2 ≤ 602019800 := by
  refine ⟨mxN_nn _ _, mxN_le (by decide) _ (fun i hi => ?_)⟩
  have t0 : 0 ≤ tkN l r l2 r2 ∧ tkN l r l2 r2 ≤ 5660 := by unfold tkN; omega
  have b1 := btF_rB (f := l) (l := l2) (i := i) (n := tkN l r l2 r2) hl hl2 (by omega)
  have b2 := btF_rB (f := r) (l := r2) (i := i) (n := tkN l r l2 r2) hr hr2 (by omega)
  exact (dsF_r hK hW hE (by omega) (by omega) hx hy hdx hdy).2.1
abbrev Fr67 (h g : Hp) : Prop := (∀ a k, ¬ (a = 1 ∧ (k = 6 ∨ k = 7)) → g a k = h a k) ∧ 0 ≤ g 1 7 ∧ g 1 7 ≤ 1099511627776
theorem Fr67.rf {h : Hp} (hw : WOK h) : Fr67 h h := ⟨fun _ _ _ => rfl, by omega⟩
theorem Fr67.tr {h g k : Hp} (f : Fr67 h g) (f2 : Fr67 g k) : Fr67 h k := ⟨fun a q z => (f2.1 a q z).trans (f.1 a q z), f2.2⟩
theorem Fr67.up {h g : Hp} {X Y : Int} (f : Fr67 h g) (hY : 0 ≤ Y ∧ Y ≤ 1099511627776) : Fr67 h (upH (upH g 1 6 X) 1 7 Y) := by
  refine ⟨fun a k z => ?_, ?_⟩
  · rw [← f.1 a k z]
    unfold upH
    rw [if_neg (by omega), if_neg (by omega)]
  · rw [up_s]; exact hY
theorem Fr67.fc {h g : Hp} (f : Fr67 h g) : FrC h g := ⟨fun a k z => f.1 a k (by rintro ⟨rfl, rfl | rfl⟩ <;> cases z), f.2⟩
set_option maxRecDepth 20000 in
set_option maxHeartbeats 400000 in
theorem lp_furthest {d : Nat} (hd : 2 ≤ d) {P : Int → Hp → Prop} {h : Hp} {l r l2 r2 q n : Int} (hw : WOK h) (hl : 0 ≤ l ∧ l ≤ 5660) (hr : 0 ≤ r ∧ r ≤ 5660) (hl2 : 0 ≤ l2 ∧ l2 ≤ 5660) (hr2 : 0 ≤ r2 ∧ r2 ≤ 5660) (hx0 : -300000000 ≤ h 32 2 ∧ h 32 2 ≤ 300000000) (hy0 : 0 ≤ h 32 3 ∧ h 32 3 ≤ 2019800) (hdx : -600000000 ≤ h 32 4 ∧ h 32 4 ≤ 600000000) (hdy : -2019800 ≤ h 32 5 ∧ h 32 5 ≤ 2019800) (hln : h 32 6 = lnF (h 32 4) (h 32 5)) (hn : 0 ≤ n ∧ n ≤ 5660) (hq : 0 ≤ q ∧ q ≤ 2147483647) (k : ∀ (v : Int) (g : Hp), Fr67 h g → (0 ≤ v ∧ v ≤ 602019800) → (mxN (trF (h 1 2) (h 1 0) (h 1 3) (h 32 2) (h 32 3) (h 32 4) (h 32 5) l r l2 r2 n) (n.toNat + 1) ≤ q → v = mxN (trF (h 1 2) (h 1 0) (h 1 3) (h 32 2) (h 32 3) (h 32 4) (h 32 5) l r l2 r2 n) (n.toNat + 1)) → (q < mxN (trF (h 1 2) (h 1 0) (h 1 3) (h 32 2) (h 32 3) (h 32 4) (h 32 5) l r l2 r2 n) (n.toNat + 1) → q < v) → P v g) : ∀ (nn : Nat) (i : Nat) (mo : Int) (g : Hp), ((i : Int) ≤ n + 1) → (mo = mxN (trF (h 1 2) (h 1 0) (h 1 3) (h 32 2) (h 32 3) (h 32 4) (h 32 5) l r l2 r2 n) i) → (Fr67 h g) → n.toNat + 1 - i < nn → WW mX9_furthest (d + 1) (pJ P) 24 [some (.inr (.inr 32)), some (.inl l), some (.inl r), some (.inl l2), some (.inl r2), some (.inr (.inl q)), none, some (.inl n), some (.inr (.inl mo)), none, some (.inl (i : Int))] [] g := by
  intro nn
  induction nn with
  | zero => intro i mo g hi hmo hg; intros; omega
  | succ nn ih =>
    intro i mo g hi hmo hg hmu
    have w0 := hg.1 1 0 (by omega)
    have w1 := hg.1 1 1 (by omega)
    have w2 := hg.1 1 2 (by omega)
    have w3 := hg.1 1 3 (by omega)
    have w4 := hg.1 1 4 (by omega)
    have w5 := hg.1 1 5 (by omega)
    have v2 := hg.1 32 2 (by omega)
    have v3 := hg.1 32 3 (by omega)
    have v4 := hg.1 32 4 (by omega)
    have v5 := hg.1 32 5 (by omega)
    have v6 := hg.1 32 6 (by omega)
    have gw : WOK g := by have := hg.2; omega
    have fr : ∀ j : Nat, j ≤ n.toNat → (trF (h 1 2) (h 1 0) (h 1 3) (h 32 2) (h 32 3) (h 32 4) (h 32 5) l r l2 r2 n) j ≤ 602019800 := fun j hj => by
      have b1 := btF_rB (f := l) (l := l2) (i := j) (n := n) hl hl2 (by omega)
      have b2 := btF_rB (f := r) (l := r2) (i := j) (n := n) hr hr2 (by omega)
      exact (dsF_r (by omega) (by omega) (by omega) (by omega) (by omega) hx0 hy0 hdx hdy).2.1
    have m0 := mxN_nn (trF (h 1 2) (h 1 0) (h 1 3) (h 32 2) (h 32 3) (h 32 4) (h 32 5) l r l2 r2 n) i
    have m1 := mxN_le (f := (trF (h 1 2) (h 1 0) (h 1 3) (h 32 2) (h 32 3) (h 32 4) (h 32 5) l r l2 r2 n)) (B := 602019800) (by decide) i (fun j hj => fr j (by omega))
    refine r_iload dX9_furthest_24 rfl ?_
    refine r_iload dX9_furthest_26 rfl ?_
    refine r_icmp_gt (tgt := 123) dX9_furthest_28 rfl (by omega) (by omega) (fun c_28 => ?_) (fun c_28 => ?_)
    · refine r_lload dX9_furthest_123 rfl ?_
      refine r_lret dX9_furthest_125 rfl ?_
      refine ⟨_, rfl, k _ g hg (by omega) (fun z => ?_) (fun z => ?_)⟩
      · first
          | (have e : i = n.toNat + 1 := by omega
             rw [← e]; exact hmo)
          | (have := mxN_mono (f := (trF (h 1 2) (h 1 0) (h 1 3) (h 32 2) (h 32 3) (h 32 4) (h 32 5) l r l2 r2 n)) (i := i) (j := n.toNat + 1) (by omega)
             omega)
      · first
          | (have e : i = n.toNat + 1 := by omega
             rw [← e] at z; omega)
          | omega
    · refine r_lload dX9_furthest_31 rfl ?_
      refine r_lload dX9_furthest_33 rfl ?_
      refine r_lcmp_gt (tgt := 123) dX9_furthest_35 dX9_furthest_36 rfl (by omega) (by omega) (fun c_35 => ?_) (fun c_35 => ?_)
      · refine r_lload dX9_furthest_123 rfl ?_
        refine r_lret dX9_furthest_125 rfl ?_
        refine ⟨_, rfl, k _ g hg (by omega) (fun z => ?_) (fun z => ?_)⟩
        · first
            | (have e : i = n.toNat + 1 := by omega
               rw [← e]; exact hmo)
            | (have := mxN_mono (f := (trF (h 1 2) (h 1 0) (h 1 3) (h 32 2) (h 32 3) (h 32 4) (h 32 5) l r l2 r2 n)) (i := i) (j := n.toNat + 1) (by omega)
               omega)
        · first
            | (have e : i = n.toNat + 1 := by omega
               rw [← e] at z; omega)
            | omega
      · have b1 := btF_rB (f := l) (l := l2) (i := i) (n := n) hl hl2 (by omega)
        have b2 := btF_rB (f := r) (l := r2) (i := i) (n := n) hr hr2 (by omega)
        have ds := dsF_r (K := g 1 2) (W := g 1 0) (E := g 1 3) (x0 := g 32 2) (y0 := g 32 3) (dx := g 32 4) (dy := g 32 5) (l := btF l l2 i n) (r := btF r r2 i n) (by omega) (by omega) (by omega) (by omega) (by omega) (by omega) (by omega) (by omega) (by omega)
        have dp := pY_r (K := g 1 2) (W := g 1 0) (E := g 1 3) (l := btF l l2 i n) (r := btF r r2 i n) (by omega) (by omega) (by omega)
        have lg := lnF_ge (h 32 4) (h 32 5)
        have lg2 := lnF_le hdx hdy
        have tn := tdivNN (a := ((g 32 4 * (pY (g 1 2) (g 1 0) (g 1 3) (btF l l2 i n) (btF r r2 i n) - g 32 3) - g 32 5 * (pX (g 1 2) (g 1 0) (g 1 3) (btF l l2 i n) (btF r r2 i n) - g 32 2)).natAbs : Int)) (b := g 32 6) (by omega) (by omega)
        refine r_aload_n dX9_furthest_39 rfl rfl ?_
        refine r_getR dX9_furthest_40 fl_X9_27 sh_32 rfl ?_
        refine r_iload_n dX9_furthest_43 rfl rfl ?_
        refine r_iload_n dX9_furthest_44 rfl rfl ?_
        refine r_iload dX9_furthest_45 rfl ?_
        refine r_iload dX9_furthest_47 rfl ?_
        refine r_callSI (av := [_, _, _, _]) (M' := mX2_between) dX9_furthest_49 sX2_between ml_X9_105 rfl rfl (by simp [wtA]) (sp_X2_between (by omega) (by omega) (by omega) (by omega) (by omega) ?_)
        refine r_i2l dX9_furthest_52 (by omega) ?_
        refine r_iload_n dX9_furthest_53 rfl rfl ?_
        refine r_iload dX9_furthest_54 rfl ?_
        refine r_iload dX9_furthest_56 rfl ?_
        refine r_iload dX9_furthest_58 rfl ?_
        refine r_callSI (av := [_, _, _, _]) (M' := mX2_between) dX9_furthest_60 sX2_between ml_X9_105 rfl rfl (by simp [wtA]) (sp_X2_between (by omega) (by omega) (by omega) (by omega) (by omega) ?_)
        refine r_i2l dX9_furthest_63 (by omega) ?_
        refine r_callVU (av := [_, _]) (M' := mX10_locate) dX9_furthest_64 vX10_locate ml_X9_44 sh_1 (by decide) rfl rfl rfl rfl (by simp [wtA]) (sp_X10_locate (by omega) (by omega) (by omega) (by omega) ?_)
        refine r_lload dX9_furthest_67 rfl ?_
        refine r_aload_n dX9_furthest_69 rfl rfl ?_
        refine r_getJ dX9_furthest_70 fl_X9_18 sh_32 rfl ?_
        refine r_eqJ (((up_nc (by decide)).trans (up_nc (by decide)))) ?_
        refine r_aload_n dX9_furthest_73 rfl rfl ?_
        refine r_getR dX9_furthest_74 fl_X9_27 sh_32 rfl ?_
        refine r_getJ dX9_furthest_77 fl_X9_53 sh_1 rfl ?_
        refine r_eqJ (up_s _ _ _ _) ?_
        refine r_aload_n dX9_furthest_80 rfl rfl ?_
        refine r_getJ dX9_furthest_81 fl_X9_15 sh_32 rfl ?_
        refine r_eqJ (((up_nc (by decide)).trans (up_nc (by decide)))) ?_
        refine r_lsub dX9_furthest_84 ?_
        refine r_lmul dX9_furthest_85 ?_
        refine r_aload_n dX9_furthest_86 rfl rfl ?_
        refine r_getJ dX9_furthest_87 fl_X9_21 sh_32 rfl ?_
        refine r_eqJ (((up_nc (by decide)).trans (up_nc (by decide)))) ?_
        refine r_aload_n dX9_furthest_90 rfl rfl ?_
        refine r_getR dX9_furthest_91 fl_X9_27 sh_32 rfl ?_
        refine r_getJ dX9_furthest_94 fl_X9_50 sh_1 rfl ?_
        refine r_eqJ (((up_nk (by decide)).trans (up_s _ _ _ _))) ?_
        refine r_aload_n dX9_furthest_97 rfl rfl ?_
        refine r_getJ dX9_furthest_98 fl_X9_9 sh_32 rfl ?_
        refine r_eqJ (((up_nc (by decide)).trans (up_nc (by decide)))) ?_
        refine r_lsub dX9_furthest_101 ?_
        refine r_lmul dX9_furthest_102 ?_
        refine r_lsub dX9_furthest_103 ?_
        refine r_callNJ (av := [_]) (M' := mX11_sizeOf) dX9_furthest_104 sX11_sizeOf mn_X9_85 rfl rfl (by simp [wtA]) (sp_X11_sizeOf (by omega) (by omega) ?_)
        refine r_aload_n dX9_furthest_107 rfl rfl ?_
        refine r_getJ dX9_furthest_108 fl_X9_24 sh_32 rfl ?_
        refine r_eqJ (((up_nc (by decide)).trans (up_nc (by decide)))) ?_
        refine r_ldiv dX9_furthest_111 (by omega) (by omega) (by omega) ?_
        refine r_mmax_long (by omega) (by omega) dX9_furthest_112 ml_X9_93 (by simp [wtA]) ?_
        refine r_eqJ (y := mxN (trF (h 1 2) (h 1 0) (h 1 3) (h 32 2) (h 32 3) (h 32 4) (h 32 5) l r l2 r2 n) (i + 1)) (by rw [hmo, w0, w2, w3, v2, v3, v4, v5, v6, hln]; rfl) ?_
        refine r_lstore (L' := [_, _, _, _, _, _, _, _, _, _, _]) dX9_furthest_115 rfl (by decide) rfl ?_
        refine r_iinc (L' := [_, _, _, _, _, _, _, _, _, _, _]) dX9_furthest_117 rfl rfl (by decide) rfl ?_
        refine r_goto (tgt := 24) dX9_furthest_120 rfl ?_
        exact ih (i + 1) _ _ (by omega) rfl (hg.up (by omega)) (by omega)
set_option maxRecDepth 20000 in
set_option maxHeartbeats 400000 in
theorem sp_X9_furthest {d : Nat} (hd : 3 ≤ d) {l r l2 r2 q : Int} {h : Hp}  (hw : WOK h) (hl : 0 ≤ l ∧ l ≤ 5660) (hr : 0 ≤ r ∧ r ≤ 5660) (hl2 : 0 ≤ l2 ∧ l2 ≤ 5660) (hr2 : 0 ≤ r2 ∧ r2 ≤ 5660) (hx0 : -300000000 ≤ h 32 2 ∧ h 32 2 ≤ 300000000) (hy0 : 0 ≤ h 32 3 ∧ h 32 3 ≤ 2019800) (hdx : -600000000 ≤ h 32 4 ∧ h 32 4 ≤ 600000000) (hdy : -2019800 ≤ h 32 5 ∧ h 32 5 ≤ 2019800) (hln : h 32 6 = lnF (h 32 4) (h 32 5)) (hq : 0 ≤ q ∧ q ≤ 2147483647) {P : Int → Hp → Prop} (k : ∀ (v : Int), ∀ h' : Hp, (Fr67 h h') → (0 ≤ v ∧ v ≤ 602019800) → (strF (h 1 2) (h 1 0) (h 1 3) (h 32 2) (h 32 3) (h 32 4) (h 32 5) l r l2 r2 ≤ q → v = strF (h 1 2) (h 1 0) (h 1 3) (h 32 2) (h 32 3) (h 32 4) (h 32 5) l r l2 r2) → (q < strF (h 1 2) (h 1 0) (h 1 3) (h 32 2) (h 32 3) (h 32 4) (h 32 5) l r l2 r2 → q < v) → P (v) h') : Cl d mX9_furthest [.inr (.inr 32), .inl l, .inl r, .inl l2, .inl r2, .inr (.inl q)] h (pJ P) := by
  refine Cl.of (L := [some (.inr (.inr 32)), some (.inl l), some (.inl r), some (.inl l2), some (.inl r2), some (.inr (.inl q)), none, none, none, none, none]) (by decide +kernel) (Nat.le_of_ble_eq_true rfl) rfl ?_
  obtain ⟨d, rfl⟩ : ∃ q, d = q + 1 := ⟨d - 1, by omega⟩
  refine r_iload_n dX9_furthest_0 rfl rfl ?_
  refine r_iload_n dX9_furthest_1 rfl rfl ?_
  refine r_isub dX9_furthest_2 ?_
  refine r_mabs (by omega) dX9_furthest_3 ml_X9_98 (by simp [wtA]) ?_
  refine r_iload dX9_furthest_6 rfl ?_
  refine r_iload_n dX9_furthest_8 rfl rfl ?_
  refine r_isub dX9_furthest_9 ?_
  refine r_mabs (by omega) dX9_furthest_10 ml_X9_98 (by simp [wtA]) ?_
  refine r_mmax (by omega) (by omega) dX9_furthest_13 ml_X9_102 (by simp [wtA]) ?_
  refine r_istore (L' := [_, _, _, _, _, _, _, _, _, _, _]) dX9_furthest_16 rfl (by decide) rfl ?_
  refine r_lconst (z := 0) dX9_furthest_18 (by decide +kernel) ?_
  refine r_lstore (L' := [_, _, _, _, _, _, _, _, _, _, _]) dX9_furthest_19 rfl (by decide) rfl ?_
  refine r_iconst dX9_furthest_21 ?_
  refine r_istore (L' := [_, _, _, _, _, _, _, _, _, _, _]) dX9_furthest_22 rfl (by decide) rfl ?_
  exact lp_furthest (n := tkN l r l2 r2) (by omega) hw hl hr hl2 hr2 hx0 hy0 hdx hdy hln (by unfold tkN; omega) hq (fun v g z1 z2 z3 z4 => k v g z1 z2 z3 z4) 5662 0 _ h (by unfold tkN; omega) rfl (Fr67.rf hw) (by unfold tkN; omega)
set_option maxRecDepth 20000 in
set_option maxHeartbeats 400000 in
theorem sp_X9_aim {d : Nat} (hd : 2 ≤ d) {a1 b1 a2 b2 : Int} {h : Hp}  (h1 : -300000000 ≤ a1 ∧ a1 ≤ 300000000) (h2 : 0 ≤ b1 ∧ b1 ≤ 2019800) (h3 : -300000000 ≤ a2 ∧ a2 ≤ 300000000) (h4 : 0 ≤ b2 ∧ b2 ≤ 2019800) {P : Hp → Prop} (k : P (upH (upH (upH (upH (upH h 32 2 a1) 32 3 b1) 32 4 (a2 - a1)) 32 5 (b2 - b1)) 32 6 (lnF (a2 - a1) (b2 - b1)))) : Cl d mX9_aim [.inr (.inr 32), .inr (.inl a1), .inr (.inl b1), .inr (.inl a2), .inr (.inl b2)] h (pV P) := by
  refine Cl.of (L := [some (.inr (.inr 32)), some (.inr (.inl a1)), none, some (.inr (.inl b1)), none, some (.inr (.inl a2)), none, some (.inr (.inl b2)), none]) (by decide +kernel) (Nat.le_of_ble_eq_true rfl) rfl ?_
  obtain ⟨d, rfl⟩ : ∃ q, d = q + 1 := ⟨d - 1, by omega⟩
  have q1 := mulS (a := a2 - a1) (b := a2 - a1) (A := 600000000) (B := 600000000) (by omega) (by omega)
  have q2 := mulS (a := b2 - b1) (b := b2 - b1) (A := 2019800) (B := 2019800) (by omega) (by omega)
  have n1 := sq_nn (a2 - a1)
  have n2 := sq_nn (b2 - b1)
  have g3 := rt0_nn ((a2 - a1) * (a2 - a1) + (b2 - b1) * (b2 - b1))
  have g4 := rt0_le (n := (a2 - a1) * (a2 - a1) + (b2 - b1) * (b2 - b1)) (b := 1000000000) (by omega) (by omega)
  refine r_aload_n dX9_aim_0 rfl rfl ?_
  refine r_lload_n dX9_aim_1 rfl rfl ?_
  refine r_putJ dX9_aim_2 fl_X9_9 sh_32 rfl ?_
  refine r_aload_n dX9_aim_5 rfl rfl ?_
  refine r_lload_n dX9_aim_6 rfl rfl ?_
  refine r_putJ dX9_aim_7 fl_X9_15 sh_32 rfl ?_
  refine r_aload_n dX9_aim_10 rfl rfl ?_
  refine r_lload dX9_aim_11 rfl ?_
  refine r_lload_n dX9_aim_13 rfl rfl ?_
  refine r_lsub dX9_aim_14 ?_
  refine r_putJ dX9_aim_15 fl_X9_18 sh_32 rfl ?_
  refine r_aload_n dX9_aim_18 rfl rfl ?_
  refine r_lload dX9_aim_19 rfl ?_
  refine r_lload_n dX9_aim_21 rfl rfl ?_
  refine r_lsub dX9_aim_22 ?_
  refine r_putJ dX9_aim_23 fl_X9_21 sh_32 rfl ?_
  refine r_aload_n dX9_aim_26 rfl rfl ?_
  refine r_aload_n dX9_aim_27 rfl rfl ?_
  refine r_getJ dX9_aim_28 fl_X9_18 sh_32 rfl ?_
  refine r_eqJ (((up_nk (by decide)).trans (up_s _ _ _ _))) ?_
  refine r_aload_n dX9_aim_31 rfl rfl ?_
  refine r_getJ dX9_aim_32 fl_X9_18 sh_32 rfl ?_
  refine r_eqJ (((up_nk (by decide)).trans (up_s _ _ _ _))) ?_
  refine r_lmul dX9_aim_35 ?_
  refine r_aload_n dX9_aim_36 rfl rfl ?_
  refine r_getJ dX9_aim_37 fl_X9_21 sh_32 rfl ?_
  refine r_eqJ (up_s _ _ _ _) ?_
  refine r_aload_n dX9_aim_40 rfl rfl ?_
  refine r_getJ dX9_aim_41 fl_X9_21 sh_32 rfl ?_
  refine r_eqJ (up_s _ _ _ _) ?_
  refine r_lmul dX9_aim_44 ?_
  refine r_ladd dX9_aim_45 ?_
  refine r_aload_n dX9_aim_46 rfl rfl ?_
  refine r_getJ dX9_aim_47 fl_X9_18 sh_32 rfl ?_
  refine r_eqJ (((up_nk (by decide)).trans (up_s _ _ _ _))) ?_
  refine r_callNJ (av := [_]) (M' := mX11_sizeOf) dX9_aim_50 sX11_sizeOf mn_X9_85 rfl rfl (by simp [wtA]) (sp_X11_sizeOf (by omega) (by omega) ?_)
  refine r_aload_n dX9_aim_53 rfl rfl ?_
  refine r_getJ dX9_aim_54 fl_X9_21 sh_32 rfl ?_
  refine r_eqJ (up_s _ _ _ _) ?_
  refine r_callNJ (av := [_]) (M' := mX11_sizeOf) dX9_aim_57 sX11_sizeOf mn_X9_85 rfl rfl (by simp [wtA]) (sp_X11_sizeOf (by omega) (by omega) ?_)
  refine r_ladd dX9_aim_60 ?_
  refine r_callNJ (av := [_, _]) (M' := mX11_root) dX9_aim_61 sX11_root mn_X9_89 rfl rfl (by simp [wtA]) (sp_X11_root (by omega) (by omega) (by omega) (show WW _ _ _ _ _ (.inr (.inl (rt0 _)) :: _) _ from ?_))
  refine r_lconst (z := 1) dX9_aim_64 (by decide +kernel) ?_
  refine r_mmax_long (by omega) ⟨by decide, by decide⟩ dX9_aim_65 ml_X9_93 (by simp [wtA]) ?_
  refine r_putJ dX9_aim_68 fl_X9_24 sh_32 rfl ?_
  refine r_vret dX9_aim_71 rfl ?_
  exact ⟨rfl, k⟩
noncomputable def sgF (K W E : Int) (lf rg : Nat → Int) (m : Nat) : Int := strF K W E (pX K W E (lf m) (rg m)) (pY K W E (lf m) (rg m)) ((pX K W E (lf (m + 1)) (rg (m + 1))) - (pX K W E (lf m) (rg m))) ((pY K W E (lf (m + 1)) (rg (m + 1))) - (pY K W E (lf m) (rg m))) (lf m) (rg m) (lf (m + 1)) (rg (m + 1))
set_option maxRecDepth 20000 in
set_option maxHeartbeats 400000 in
theorem sp_X9_sagOf {d : Nat} (hd : 4 ≤ d) {m : Int} {h : Hp} {n : Int} (hw : WOK h) (hm : 0 ≤ m ∧ m < n) (hn : n ≤ 150) (hq : LR (h 20) (h 21) n) {P : Int → Hp → Prop} (k : ∀ h' : Hp, (FrC h h') → P (sgF (h 1 2) (h 1 0) (h 1 3) (h 20) (h 21) m.toNat) h') : Cl d mX9_sagOf [.inr (.inr 32), .inl m] h (pI P) := by
  refine Cl.of (L := [some (.inr (.inr 32)), some (.inl m), none, none, none, none, none, none]) (by decide +kernel) (Nat.le_of_ble_eq_true rfl) rfl ?_
  obtain ⟨d, rfl⟩ : ∃ q, d = q + 1 := ⟨d - 1, by omega⟩
  have e1 : (m + 1).toNat = m.toNat + 1 := by omega
  have q0 := hq m.toNat (by omega)
  have q1 := hq (m.toNat + 1) (by omega)
  rw [← e1] at q1
  have g1 := pX_r (K := h 1 2) (W := h 1 0) (E := h 1 3) (l := h 20 m.toNat) (r := h 21 m.toNat) (by omega) (by omega) (by omega) (by omega) (by omega)
  have g2 := pY_r (K := h 1 2) (W := h 1 0) (E := h 1 3) (l := h 20 m.toNat) (r := h 21 m.toNat) (by omega) (by omega) (by omega)
  have g3 := pX_r (K := h 1 2) (W := h 1 0) (E := h 1 3) (l := h 20 (m + 1).toNat) (r := h 21 (m + 1).toNat) (by omega) (by omega) (by omega) (by omega) (by omega)
  have g4 := pY_r (K := h 1 2) (W := h 1 0) (E := h 1 3) (l := h 20 (m + 1).toNat) (r := h 21 (m + 1).toNat) (by omega) (by omega) (by omega)
  refine r_aload_n dX9_sagOf_0 rfl rfl ?_
  refine r_getR dX9_sagOf_1 fl_X9_27 sh_32 rfl ?_
  refine r_aload_n dX9_sagOf_4 rfl rfl ?_
  refine r_getR dX9_sagOf_5 fl_X9_31 sh_32 rfl ?_
  refine r_getR dX9_sagOf_8 fl_X9_35 sh_16 rfl ?_
  refine r_iload_n dX9_sagOf_11 rfl rfl ?_
  refine r_iconst dX9_sagOf_12 ?_
  refine r_iadd dX9_sagOf_13 ?_
  refine r_iald dX9_sagOf_14 sh_20 (by decide) (by omega) ?_
  refine r_i2l dX9_sagOf_15 (by omega) ?_
  refine r_aload_n dX9_sagOf_16 rfl rfl ?_
  refine r_getR dX9_sagOf_17 fl_X9_31 sh_32 rfl ?_
  refine r_getR dX9_sagOf_20 fl_X9_41 sh_16 rfl ?_
  refine r_iload_n dX9_sagOf_23 rfl rfl ?_
  refine r_iconst dX9_sagOf_24 ?_
  refine r_iadd dX9_sagOf_25 ?_
  refine r_iald dX9_sagOf_26 sh_21 (by decide) (by omega) ?_
  refine r_i2l dX9_sagOf_27 (by omega) ?_
  refine r_callVU (av := [_, _]) (M' := mX10_locate) dX9_sagOf_28 vX10_locate ml_X9_44 sh_1 (by decide) rfl rfl rfl rfl (by simp [wtA]) (sp_X10_locate (by omega) (by omega) (by omega) (by omega) ?_)
  refine r_aload_n dX9_sagOf_31 rfl rfl ?_
  refine r_getR dX9_sagOf_32 fl_X9_27 sh_32 rfl ?_
  refine r_getJ dX9_sagOf_35 fl_X9_50 sh_1 rfl ?_
  refine r_eqJ (((up_nk (by decide)).trans (up_s _ _ _ _))) ?_
  refine r_lstore_n (L' := [_, _, _, _, _, _, _, _]) dX9_sagOf_38 rfl rfl (by decide) rfl ?_
  refine r_aload_n dX9_sagOf_39 rfl rfl ?_
  refine r_getR dX9_sagOf_40 fl_X9_27 sh_32 rfl ?_
  refine r_getJ dX9_sagOf_43 fl_X9_53 sh_1 rfl ?_
  refine r_eqJ (up_s _ _ _ _) ?_
  refine r_lstore (L' := [_, _, _, _, _, _, _, _]) dX9_sagOf_46 rfl (by decide) rfl ?_
  refine r_gh (fun g eg => ?_)
  have fg : Fr67 h g := by rw [eg]; exact (Fr67.rf hw).up (by omega)
  have u0 := fg.1 1 0 (by omega)
  have u1 := fg.1 1 1 (by omega)
  have u2 := fg.1 1 2 (by omega)
  have u3 := fg.1 1 3 (by omega)
  have u4 := fg.1 1 4 (by omega)
  have u5 := fg.1 1 5 (by omega)
  have ug : WOK g := by have := fg.2; omega
  have u20 : g 20 = h 20 := funext fun j => fg.1 20 j (by omega)
  have u21 : g 21 = h 21 := funext fun j => fg.1 21 j (by omega)
  rw [← u20, ← u21] at q0 q1
  refine r_aload_n dX9_sagOf_48 rfl rfl ?_
  refine r_getR dX9_sagOf_49 fl_X9_27 sh_32 rfl ?_
  refine r_aload_n dX9_sagOf_52 rfl rfl ?_
  refine r_getR dX9_sagOf_53 fl_X9_31 sh_32 rfl ?_
  refine r_getR dX9_sagOf_56 fl_X9_35 sh_16 rfl ?_
  refine r_iload_n dX9_sagOf_59 rfl rfl ?_
  refine r_iald dX9_sagOf_60 sh_20 (by decide) (by omega) ?_
  refine r_i2l dX9_sagOf_61 (by omega) ?_
  refine r_aload_n dX9_sagOf_62 rfl rfl ?_
  refine r_getR dX9_sagOf_63 fl_X9_31 sh_32 rfl ?_
  refine r_getR dX9_sagOf_66 fl_X9_41 sh_16 rfl ?_
  refine r_iload_n dX9_sagOf_69 rfl rfl ?_
  refine r_iald dX9_sagOf_70 sh_21 (by decide) (by omega) ?_
  refine r_i2l dX9_sagOf_71 (by omega) ?_
  refine r_callVU (av := [_, _]) (M' := mX10_locate) dX9_sagOf_72 vX10_locate ml_X9_44 sh_1 (by decide) rfl rfl rfl rfl (by simp [wtA]) (sp_X10_locate (by omega) (by omega) (by omega) (by omega) ?_)
  refine r_aload_n dX9_sagOf_75 rfl rfl ?_
  refine r_aload_n dX9_sagOf_76 rfl rfl ?_
  refine r_getR dX9_sagOf_77 fl_X9_27 sh_32 rfl ?_
  refine r_getJ dX9_sagOf_80 fl_X9_50 sh_1 rfl ?_
  refine r_eqJ (((up_nk (by decide)).trans (up_s _ _ _ _))) ?_
  refine r_aload_n dX9_sagOf_83 rfl rfl ?_
  refine r_getR dX9_sagOf_84 fl_X9_27 sh_32 rfl ?_
  refine r_getJ dX9_sagOf_87 fl_X9_53 sh_1 rfl ?_
  refine r_eqJ (up_s _ _ _ _) ?_
  refine r_lload_n dX9_sagOf_90 rfl rfl ?_
  refine r_lload dX9_sagOf_91 rfl ?_
  refine r_callVU (av := [_, _, _, _]) (M' := mX9_aim) dX9_sagOf_93 vX9_aim ml_X9_56 sh_32 (by decide) rfl rfl rfl rfl (by simp [wtA]) (sp_X9_aim (by omega) (by rw [u0, u2, u3, u20, u21]; omega) (by rw [u0, u2, u3, u20, u21]; omega) (by omega) (by omega) ?_)
  refine r_gh (fun w ew => ?_)
  have fw : FrC h w := by
    rw [ew]
    refine ((((FrC.up ?_ rfl (by decide)).up rfl (by decide)).up rfl (by decide)).up rfl (by decide)).up rfl (by decide)
    exact (fg.up (by rw [u0, u2, u3, u20, u21]; omega)).fc
  have y0 := fw.1 1 0 rfl
  have y1 := fw.1 1 1 rfl
  have y2 := fw.1 1 2 rfl
  have y3 := fw.1 1 3 rfl
  have y4 := fw.1 1 4 rfl
  have y5 := fw.1 1 5 rfl
  have y20 : w 20 = h 20 := funext fun j => fw.1 20 j rfl
  have y21 : w 21 = h 21 := funext fun j => fw.1 21 j rfl
  have z2 : w 32 2 = (pX (h 1 2) (h 1 0) (h 1 3) (h 20 m.toNat) (h 21 m.toNat)) := by rw [ew]; show pX _ _ _ _ _ = _; rw [u0, u2, u3, u20, u21]
  have z3 : w 32 3 = (pY (h 1 2) (h 1 0) (h 1 3) (h 20 m.toNat) (h 21 m.toNat)) := by rw [ew]; show pY _ _ _ _ _ = _; rw [u0, u2, u3, u20, u21]
  have z4 : w 32 4 = (pX (h 1 2) (h 1 0) (h 1 3) (h 20 (m + 1).toNat) (h 21 (m + 1).toNat)) - (pX (h 1 2) (h 1 0) (h 1 3) (h 20 m.toNat) (h 21 m.toNat)) := by rw [ew]; show _ - pX _ _ _ _ _ = _; rw [u0, u2, u3, u20, u21]
  have z5 : w 32 5 = (pY (h 1 2) (h 1 0) (h 1 3) (h 20 (m + 1).toNat) (h 21 (m + 1).toNat)) - (pY (h 1 2) (h 1 0) (h 1 3) (h 20 m.toNat) (h 21 m.toNat)) := by rw [ew]; show _ - pY _ _ _ _ _ = _; rw [u0, u2, u3, u20, u21]
  have z6 : w 32 6 = lnF (w 32 4) (w 32 5) := by rw [ew]; rfl
  have yw : WOK w := by have := fw.2; omega
  rw [u20, u21] at q0 q1
  rw [← y20, ← y21] at q0 q1
  clear ew
  refine r_aload_n dX9_sagOf_96 rfl rfl ?_
  refine r_aload_n dX9_sagOf_97 rfl rfl ?_
  refine r_getR dX9_sagOf_98 fl_X9_31 sh_32 rfl ?_
  refine r_getR dX9_sagOf_101 fl_X9_35 sh_16 rfl ?_
  refine r_iload_n dX9_sagOf_104 rfl rfl ?_
  refine r_iald dX9_sagOf_105 sh_20 (by decide) (by omega) ?_
  refine r_aload_n dX9_sagOf_106 rfl rfl ?_
  refine r_getR dX9_sagOf_107 fl_X9_31 sh_32 rfl ?_
  refine r_getR dX9_sagOf_110 fl_X9_41 sh_16 rfl ?_
  refine r_iload_n dX9_sagOf_113 rfl rfl ?_
  refine r_iald dX9_sagOf_114 sh_21 (by decide) (by omega) ?_
  refine r_aload_n dX9_sagOf_115 rfl rfl ?_
  refine r_getR dX9_sagOf_116 fl_X9_31 sh_32 rfl ?_
  refine r_getR dX9_sagOf_119 fl_X9_35 sh_16 rfl ?_
  refine r_iload_n dX9_sagOf_122 rfl rfl ?_
  refine r_iconst dX9_sagOf_123 ?_
  refine r_iadd dX9_sagOf_124 ?_
  refine r_iald dX9_sagOf_125 sh_20 (by decide) (by omega) ?_
  refine r_aload_n dX9_sagOf_126 rfl rfl ?_
  refine r_getR dX9_sagOf_127 fl_X9_31 sh_32 rfl ?_
  refine r_getR dX9_sagOf_130 fl_X9_41 sh_16 rfl ?_
  refine r_iload_n dX9_sagOf_133 rfl rfl ?_
  refine r_iconst dX9_sagOf_134 ?_
  refine r_iadd dX9_sagOf_135 ?_
  refine r_iald dX9_sagOf_136 sh_21 (by decide) (by omega) ?_
  refine r_ldc2 (z := 2147483647) dX9_sagOf_137 kl_X9_60 (by decide +kernel) ?_
  refine r_callVJ (av := [_, _, _, _, _]) (M' := mX9_furthest) dX9_sagOf_140 vX9_furthest ml_X9_62 sh_32 (by decide) rfl rfl rfl rfl (by simp [wtA]) (sp_X9_furthest (by omega) (by omega) (by omega) (by omega) (by omega) (by omega) (by omega) (by omega) (by omega) (by omega) (by omega) (by omega) (fun v_140 h_140 f0_140 f1_140 f2_140 f3_140 => ?_))
  refine r_lstore (L' := [_, _, _, _, _, _, _, _]) dX9_sagOf_143 rfl (by decide) rfl ?_
  refine r_lload dX9_sagOf_145 rfl ?_
  refine r_l2i dX9_sagOf_147 ?_
  refine r_iret dX9_sagOf_148 rfl ?_
  have sr := strF_r (K := w 1 2) (W := w 1 0) (E := w 1 3) (x0 := w 32 2) (y0 := w 32 3) (dx := w 32 4) (dy := w 32 5) (l := w 20 m.toNat) (r := w 21 m.toNat) (l2 := w 20 (m + 1).toNat) (r2 := w 21 (m + 1).toNat) (by omega) (by omega) (by omega) (by omega) (by omega) (by omega) (by omega) (by omega) (by omega) (by omega) (by omega)
  refine ⟨_, rfl, eqP (k _ (fw.tr f0_140.fc)) ?_⟩
  rw [f2_140 (by omega), z2, z3, z4, z5, y0, y2, y3, y20, y21, e1]
  rfl
set_option maxRecDepth 20000 in
set_option maxHeartbeats 400000 in
theorem sp_X11_sag {d : Nat} (hd : 5 ≤ d) {m : Int} {h : Hp}  (hw : WOK h) (hm : R32 m) (hn : 0 ≤ (h 16 0) ∧ (h 16 0) ≤ 150) (hq : LR (h 20) (h 21) (h 16 0)) {P : Int → Hp → Prop} (k : ∀ h' : Hp, (FrC h h') → P (if 0 ≤ m ∧ m < (h 16 0) then sgF (h 1 2) (h 1 0) (h 1 3) (h 20) (h 21) m.toNat else -1) h') : Cl d mX11_sag [.inr (.inr 0), .inl m] h (pI P) := by
  refine Cl.of (L := [some (.inr (.inr 0)), some (.inl m)]) (by decide +kernel) (Nat.le_of_ble_eq_true rfl) rfl ?_
  obtain ⟨d, rfl⟩ : ∃ q, d = q + 1 := ⟨d - 1, by omega⟩
  refine r_aload_n dX11_sag_0 rfl rfl ?_
  refine r_getR dX11_sag_1 fl_X11_44 sh_0 rfl ?_
  refine r_iload_n dX11_sag_4 rfl rfl ?_
  refine r_callVI (av := [_]) (M' := mX2_has) dX11_sag_5 vX2_has ml_X11_164 sh_16 (by decide) rfl rfl rfl rfl (by simp [wtA]) (sp_X2_has_16 (by omega) (by omega) (by omega) (fun b_5 => ?_) (fun b_5 => ?_))
  · refine r_if_eq (tgt := 22) dX11_sag_8 rfl ⟨by decide, by decide⟩ (fun c_8 => absurd c_8 (by decide)) (fun c_8 => ?_)
    refine r_aload_n dX11_sag_11 rfl rfl ?_
    refine r_getR dX11_sag_12 fl_X11_65 sh_0 rfl ?_
    refine r_iload_n dX11_sag_15 rfl rfl ?_
    refine r_callVI (av := [_]) (M' := mX9_sagOf) dX11_sag_16 vX9_sagOf ml_X11_239 sh_32 (by decide) rfl rfl rfl rfl (by simp [wtA]) (sp_X9_sagOf (by omega) (by omega) (n := (h 16 0)) (by omega) (by omega) hq (fun h_16 f0_16 => ?_))
    refine r_goto (tgt := 23) dX11_sag_19 rfl ?_
    refine r_iret dX11_sag_23 rfl ?_
    refine ⟨_, rfl, eqP (k _ f0_16) ?_⟩
    rw [if_pos (by omega)]
  · refine r_if_eq (tgt := 22) dX11_sag_8 rfl ⟨by decide, by decide⟩ (fun c_8 => ?_) (fun c_8 => absurd c_8 (by decide))
    refine r_iconst dX11_sag_22 ?_
    refine r_iret dX11_sag_23 rfl ?_
    refine ⟨_, rfl, eqP (k h (FrC.rf hw)) ?_⟩
    rw [if_neg (by omega)]
