/-! PLOTALL, THE CLASS -/
theorem PV.cg {x y : Hp} {F i : Nat} (e : ∀ a : Nat, a = 5 ∨ a = 7 ∨ a = 8 ∨ a = 11 ∨ a = 12 ∨ a = 13 → y a = x a) (v : PV x F i) : PV y F i := by
  unfold PV at v ⊢
  rw [e 5 (by decide), e 7 (by decide), e 8 (by decide), e 11 (by decide), e 12 (by decide), e 13 (by decide)]
  exact v
theorem WN.cg {x y : Hp} : ∀ {r a b : Nat}, (∀ t : Nat, a ≤ t → t < b → y 5 t = x 5 t ∧ y 6 t = x 6 t) → WN x r a b → WN y r a b
  | 0, a, b, e, n => fun t h1 h2 h6 => n t h1 h2 ((e t h1 h2).1.symm.trans h6)
  | r + 1, a, b, e, n => fun t h1 h2 h6 => by
    obtain ⟨z, z1, z2, z3, z4⟩ := n t h1 h2 ((e t h1 h2).1.symm.trans h6)
    exact ⟨z, (e t h1 h2).2.trans z1, z2, z3, WN.cg (fun q q1 q2 => e q (by omega) (by omega)) z4⟩
/-- the heap x at the begin of plotting -/
def Pb (h x : Hp) : Prop := (∀ a k, ¬ (a = 16 ∧ k = 0) → ¬ (17 ≤ a ∧ a ≤ 21 ∧ k = 0) → ¬ (a = 30 ∧ 3 ≤ k ∧ k ≤ 10) → x a k = h a k) ∧ x 17 0 = (h 1 0).tdiv 2 ∧ x 18 0 = h 1 1 ∧ x 19 0 = 0 ∧ psC x = (0, 0, 0, (0, 1, h 1 0, h 1 1), (0, x 17, x 18, x 19, 0))
theorem Pb.c {h x : Hp} (p : Pb h x) {a : Nat} (ha : a < 16 ∨ 22 ≤ a) (h30 : a ≠ 30) : x a = h a := funext fun k => p.1 a k (by omega) (by omega) (by omega)
theorem pq_0 {W H : Int} {X Y D : Nat → Int} (c : (20 ≤ W ∧ W ≤ 200) ∧ (20 ≤ H ∧ H ≤ 200)) (hx : X 0 = W.tdiv 2) (hy : Y 0 = H) (hd : D 0 = 0) : PQ W H 0 (0, 0, 0, (0, 1, W, H), (0, X, Y, D, 0)) (0, 0, 0, (0, 1, W, H), (0, X, Y, D, 0)) := by
  have z3 : (0 : Int) ≤ 3000 := by decide
  have m0 : -(0 : Int) ≤ 0 := by decide
  have z0 : (0 : Int) ≤ 0 := by decide
  have z9 : (0 : Int) ≤ 999 := by decide
  have o1 : (1 : Int) ≤ 1 := by decide
  have o9 : (1 : Int) ≤ 999 := by decide
  have z5 : (0 : Int) ≤ 150 := by decide
  refine ⟨⟨z0, z3⟩, ⟨⟨m0, z0⟩, m0, z0⟩, ⟨⟨z0, z9⟩, ⟨o1, o9⟩, ⟨?_, Int.le_refl _⟩, ?_, Int.le_refl _⟩, ⟨⟨z0, z5⟩, fun k hk => ?_, Or.inl rfl⟩, rfl, rfl, rfl, rfl, rfl, rfl, fun k hk => ⟨rfl, rfl, rfl⟩⟩
  · show 0 ≤ W
    omega
  · show 0 ≤ H
    omega
  · have hk : (k : Int) ≤ 0 := hk
    have k0 : k = 0 := by omega
    subst k0
    show (0 ≤ X 0 ∧ X 0 ≤ W) ∧ (1 ≤ Y 0 ∧ Y 0 ≤ H) ∧ (D 0 = 0 ∨ D 0 = 1)
    rw [hx, hy, hd]
    have e : W.tdiv 2 = W / 2 := Int.tdiv_eq_ediv_of_nonneg (by omega)
    rw [e]
    omega
set_option maxRecDepth 20000 in
set_option maxHeartbeats 400000 in
theorem sp_X5_plotAll {d : Nat} (hd : 18 ≤ d) {h : Hp} {F i : Nat} (hw : WOK h) (v : PV h F i) (wn : WN h 5 0 i) (hi : h 4 0 = i) {P : Int → Hp → Prop} (k : ∀ x h' : Hp, Pb h x → FrV x h' → psC h' = pfL x (rpD x 5) i 61 0 (psC x) → (h' 30 10 = 0 ∨ h' 30 10 = 1) → P (h' 30 10) h') : Cl d mX5_plotAll [.inr (.inr 30)] h (pI P) := by
  refine Cl.of (L := [some (.inr (.inr 30))]) (by decide +kernel) (Nat.le_of_ble_eq_true rfl) rfl ?_
  obtain ⟨d, rfl⟩ : ∃ q, d = q + 1 := ⟨d - 1, by omega⟩
  obtain ⟨d, rfl⟩ : ∃ q, d = q + 1 := ⟨d - 1, by omega⟩
  refine r_aload_n dX5_plotAll_0 rfl rfl ?_
  refine r_getR dX5_plotAll_1 fl_X5_47 sh_30 rfl ?_
  refine r_callVU (av := []) (M' := mX2_goHome) dX5_plotAll_4 vX2_goHome ml_X5_51 sh_16 (by decide) rfl rfl rfl rfl (by simp [wtA]) (sp_X2_goHome_16 (by omega) hw ?_)
  refine r_aload_n dX5_plotAll_7 rfl rfl ?_
  refine r_iconst dX5_plotAll_8 ?_
  refine r_putI dX5_plotAll_9 fl_X5_7 sh_30 rfl ?_
  refine r_aload_n dX5_plotAll_12 rfl rfl ?_
  refine r_iconst dX5_plotAll_13 ?_
  refine r_putI dX5_plotAll_14 fl_X5_13 sh_30 rfl ?_
  refine r_aload_n dX5_plotAll_17 rfl rfl ?_
  refine r_iconst dX5_plotAll_18 ?_
  refine r_putI dX5_plotAll_19 fl_X5_16 sh_30 rfl ?_
  refine r_aload_n dX5_plotAll_22 rfl rfl ?_
  refine r_iconst dX5_plotAll_23 ?_
  refine r_putI dX5_plotAll_24 fl_X5_19 sh_30 rfl ?_
  refine r_aload_n dX5_plotAll_27 rfl rfl ?_
  refine r_aload_n dX5_plotAll_28 rfl rfl ?_
  refine r_getR dX5_plotAll_29 fl_X5_39 sh_30 rfl ?_
  refine r_getI dX5_plotAll_32 fl_X5_56 sh_1 rfl ?_
  refine r_eqI (((up_nc (by decide)).trans (((up_nc (by decide)).trans (((up_nc (by decide)).trans (((up_nc (by decide)).trans (((up_nc (by decide)).trans (((up_nc (by decide)).trans (((up_nc (by decide)).trans (((up_nc (by decide)).trans (((up_nc (by decide)).trans (up_nc (by decide)))))))))))))))))))) ?_
  refine r_putI dX5_plotAll_35 fl_X5_22 sh_30 rfl ?_
  refine r_aload_n dX5_plotAll_38 rfl rfl ?_
  refine r_aload_n dX5_plotAll_39 rfl rfl ?_
  refine r_getR dX5_plotAll_40 fl_X5_39 sh_30 rfl ?_
  refine r_getI dX5_plotAll_43 fl_X5_61 sh_1 rfl ?_
  refine r_eqI (((up_nc (by decide)).trans (((up_nc (by decide)).trans (((up_nc (by decide)).trans (((up_nc (by decide)).trans (((up_nc (by decide)).trans (((up_nc (by decide)).trans (((up_nc (by decide)).trans (((up_nc (by decide)).trans (((up_nc (by decide)).trans (((up_nc (by decide)).trans (up_nc (by decide)))))))))))))))))))))) ?_
  refine r_putI dX5_plotAll_46 fl_X5_25 sh_30 rfl ?_
  refine r_aload_n dX5_plotAll_49 rfl rfl ?_
  refine r_iconst dX5_plotAll_50 ?_
  refine r_putI dX5_plotAll_51 fl_X5_28 sh_30 rfl ?_
  refine r_aload_n dX5_plotAll_54 rfl rfl ?_
  refine r_iconst dX5_plotAll_55 ?_
  refine r_putZ dX5_plotAll_56 fl_X5_31 sh_30 rfl (.inl rfl) ?_
  refine r_gh (fun x ex => ?_)
  have pb : Pb h x := by
    rw [ex]
    refine ⟨fun a k z1 z2 z3 => ?_, rfl, rfl, rfl, rfl⟩
    unfold upH
    rw [if_neg (by omega), if_neg (by omega), if_neg (by omega), if_neg (by omega), if_neg (by omega), if_neg (by omega), if_neg (by omega), if_neg (by omega), if_neg (by omega), if_neg (by omega), if_neg (by omega), if_neg (by omega), if_neg (by omega), if_neg (by omega)]
  clear ex
  have x4 : x 4 0 = (i : Int) := by rw [pb.c (by decide) (by decide)]; exact hi
  have x1 : x 1 = h 1 := pb.c (by decide) (by decide)
  have v' : PV x F i := v.cg (fun a z => pb.c (by omega) (by omega))
  have wn' : WN x 5 0 i := wn.cg (fun t _ _ => by rw [pb.c (a := 5) (by decide) (by decide), pb.c (a := 6) (by decide) (by decide)]; exact ⟨rfl, rfl⟩)
  have cw : WH (x 1 0) (x 1 1) := by
    rw [x1]
    unfold WH
    clear v wn v' wn' pb
    omega
  have ok0 : PQ (x 1 0) (x 1 1) 0 (psC x) (psC x) := by
    have q := pq_0 (W := h 1 0) (H := h 1 1) (by clear v wn v' wn' pb cw; omega) pb.2.1 pb.2.2.1 pb.2.2.2.1
    rw [pb.2.2.2.2, x1]
    exact q
  refine r_aload_n dX5_plotAll_59 rfl rfl ?_
  refine r_iconst dX5_plotAll_60 ?_
  refine r_aload_n dX5_plotAll_61 rfl rfl ?_
  refine r_getR dX5_plotAll_62 fl_X5_43 sh_30 rfl ?_
  refine r_getI dX5_plotAll_65 fl_X5_64 sh_4 rfl ?_
  rw [x4]
  refine r_iconst dX5_plotAll_68 ?_
  refine r_callVU (av := [_, _, _]) (M' := mX5_perform) dX5_plotAll_69 vX5_perform ml_X5_69 sh_30 (by decide) rfl rfl rfl rfl (by simp [wtA]) (sp_perf (d := d) (a := 0) (b := i) (B := 0) (R := rpD x 5) (by omega) v' (Nat.le_refl _) cw (by omega) wn'.l (fun t t1 t2 t6 => (PQ.rd v' cw 5 0 i wn' (Nat.le_refl _) t t1 t2 t6).2) (fun g2 s2 P2 y1 y2 y6 gx2 ok2 k2 => cl_rep v' cw 5 0 i d (by omega) (by omega) wn' (Nat.le_refl _) g2 s2 P2 y1 y2 y6 gx2 (ok2.wd (by omega)) k2) (by omega) (fun _ _ _ _ _ _ _ _ => rfl) ok0 (fun h2 f2 e2 => ?_))
  have oz : h2 30 10 = 0 ∨ h2 30 10 = 1 := by
    have q := PQ.pf v' (Nat.le_refl _) cw (PQ.rd v' cw 5 0 i wn' (Nat.le_refl _)) 61 0 0 _ _ (Nat.le_refl _) ok0
    rw [← e2] at q
    exact q.2.2.2.1.2.2
  refine r_aload_n dX5_plotAll_72 rfl rfl ?_
  refine r_getI dX5_plotAll_73 fl_X5_31 sh_30 rfl ?_
  refine r_zret dX5_plotAll_76 rfl oz ?_
  exact ⟨_, rfl, k x h2 pb f2 e2 oz⟩
