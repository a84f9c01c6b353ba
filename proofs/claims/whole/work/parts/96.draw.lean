/-! DRAW, BOTH -/
theorem REL.fault {h w : Hp} (r : REL h) (q : ∀ a k, ¬ (a = 0 ∧ k = 12) → ¬ (a = 2 ∨ (4 ≤ a ∧ a ≤ 15)) → ¬ (a = 49 ∧ (k = 1 ∨ k = 2 ∨ (10 ≤ k ∧ k ≤ 18) ∨ k = 22 ∨ k = 24) ∨ (52 ≤ a ∧ a ≤ 59)) → w a k = h a k) (t : w 2 0 = 0 ∧ w 49 1 = 0) (f : w 49 10 = w 14 2 ∧ w 49 11 = w 14 3 ∧ w 49 12 = 0 ∧ w 0 12 = 0 ∧ R32 (w 14 2) ∧ R32 (w 14 3)) : REL w := by
  obtain ⟨r1, r2, r3, r4, r5, r6, r7, r8, r9, r10⟩ := r
  unfold REL
  simp only [RW, RT, RF, RM, RO, RS, RX, RP, RR, RK, WOK, MOK, (q 1 0 (by decide) (by decide) (by decide)), (q 1 1 (by decide) (by decide) (by decide)), (q 1 2 (by decide) (by decide) (by decide)), (q 1 3 (by decide) (by decide) (by decide)), (q 1 4 (by decide) (by decide) (by decide)), (q 1 5 (by decide) (by decide) (by decide)), (q 1 8 (by decide) (by decide) (by decide)), (q 16 0 (by decide) (by decide) (by decide)), (q 23 0 (by decide) (by decide) (by decide)), (q 33 0 (by decide) (by decide) (by decide)), (q 45 0 (by decide) (by decide) (by decide)), (q 48 0 (by decide) (by decide) (by decide)), (q 48 1 (by decide) (by decide) (by decide)), (q 48 2 (by decide) (by decide) (by decide)), (q 48 3 (by decide) (by decide) (by decide)), (q 49 3 (by decide) (by decide) (by decide)), (q 49 4 (by decide) (by decide) (by decide)), (q 49 5 (by decide) (by decide) (by decide)), (q 49 6 (by decide) (by decide) (by decide)), (q 49 7 (by decide) (by decide) (by decide)), (q 49 8 (by decide) (by decide) (by decide)), (q 49 29 (by decide) (by decide) (by decide)), (q 49 30 (by decide) (by decide) (by decide)), (q 49 48 (by decide) (by decide) (by decide)), (q 49 60 (by decide) (by decide) (by decide)), (q 49 62 (by decide) (by decide) (by decide)), (q 49 63 (by decide) (by decide) (by decide)), (q 49 64 (by decide) (by decide) (by decide)), (q 49 65 (by decide) (by decide) (by decide)), (q 1 7 (by decide) (by decide) (by decide)), (show w 3 = h 3 from funext fun j => q 3 j (by omega) (by omega) (by omega)), (show w 17 = h 17 from funext fun j => q 17 j (by omega) (by omega) (by omega)), (show w 18 = h 18 from funext fun j => q 18 j (by omega) (by omega) (by omega)), (show w 19 = h 19 from funext fun j => q 19 j (by omega) (by omega) (by omega)), (show w 20 = h 20 from funext fun j => q 20 j (by omega) (by omega) (by omega)), (show w 21 = h 21 from funext fun j => q 21 j (by omega) (by omega) (by omega)), (show w 22 = h 22 from funext fun j => q 22 j (by omega) (by omega) (by omega)), (show w 24 = h 24 from funext fun j => q 24 j (by omega) (by omega) (by omega)), (show w 25 = h 25 from funext fun j => q 25 j (by omega) (by omega) (by omega)), (show w 26 = h 26 from funext fun j => q 26 j (by omega) (by omega) (by omega)), (show w 27 = h 27 from funext fun j => q 27 j (by omega) (by omega) (by omega)), (show w 28 = h 28 from funext fun j => q 28 j (by omega) (by omega) (by omega)), (show w 36 = h 36 from funext fun j => q 36 j (by omega) (by omega) (by omega)), (show w 37 = h 37 from funext fun j => q 37 j (by omega) (by omega) (by omega)), (show w 38 = h 38 from funext fun j => q 38 j (by omega) (by omega) (by omega)), (show w 46 = h 46 from funext fun j => q 46 j (by omega) (by omega) (by omega)), (show w 47 = h 47 from funext fun j => q 47 j (by omega) (by omega) (by omega)), (show w 50 = h 50 from funext fun j => q 50 j (by omega) (by omega) (by omega)), (show w 51 = h 51 from funext fun j => q 51 j (by omega) (by omega) (by omega)), (show w 60 = h 60 from funext fun j => q 60 j (by omega) (by omega) (by omega)), (show w 61 = h 61 from funext fun j => q 61 j (by omega) (by omega) (by omega)), (show w 62 = h 62 from funext fun j => q 62 j (by omega) (by omega) (by omega)), (show w 69 = h 69 from funext fun j => q 69 j (by omega) (by omega) (by omega)), (show w 70 = h 70 from funext fun j => q 70 j (by omega) (by omega) (by omega)), (show w 71 = h 71 from funext fun j => q 71 j (by omega) (by omega) (by omega)), (show w 72 = h 72 from funext fun j => q 72 j (by omega) (by omega) (by omega)), (show w 80 = h 80 from funext fun j => q 80 j (by omega) (by omega) (by omega))] at r1 r2 r3 r4 r5 r6 r7 r8 r9 r10 ⊢
  refine ⟨r1, ⟨?_, ?_, ?_, r2.2.2.2⟩, ⟨f.1, f.2.1, ?_, f.2.2.2.2.1, f.2.2.2.2.2, Or.inl f.2.2.2.1⟩, r4, r5, r6, r7, r8, r9, r10⟩
  · rw [t.1]; decide
  · rw [t.1]; decide
  · rw [t.1, t.2]
  · rw [f.2.2.1, f.2.2.2.1]
theorem REL.drawn {h w : Hp} {T T2 : Ps} (r : REL h) (q : ∀ a k, ¬ (a = 0 ∧ k = 12) → ¬ (a = 2 ∨ (4 ≤ a ∧ a ≤ 15) ∨ (17 ≤ a ∧ a ≤ 22) ∨ a = 30 ∨ a = 31) → ¬ ((a = 16 ∨ a = 33 ∨ a = 48) ∧ k = 0) → ¬ (a = 49 ∧ (k = 1 ∨ k = 2 ∨ (10 ≤ k ∧ k ≤ 18) ∨ k = 22 ∨ k = 24 ∨ k = 29 ∨ k = 34 ∨ k = 35 ∨ k = 48 ∨ k = 62) ∨ (52 ≤ a ∧ a ≤ 69)) → w a k = h a k) (t : w 2 0 = 0 ∧ w 49 1 = 0) (f : w 49 10 = w 14 2 ∧ w 49 11 = w 14 3 ∧ w 49 12 = w 0 12 ∧ R32 (w 14 2) ∧ R32 (w 14 3) ∧ (w 0 12 = 0 ∨ w 0 12 = 1))
    (hT : w 16 0 = T.2.2.2.2.1 ∧ w 17 = T.2.2.2.2.2.1 ∧ w 18 = T.2.2.2.2.2.2.1 ∧ w 19 = T.2.2.2.2.2.2.2.1) (hT2 : w 49 29 = T2.2.2.2.2.1 ∧ w 60 = T2.2.2.2.2.2.1 ∧ w 61 = T2.2.2.2.2.2.2.1 ∧ w 62 = T2.2.2.2.2.2.2.2.1) (pq : PQ (h 1 0) (h 1 1) 0 T T2)
    (ms : ∀ p : Nat, (p : Int) ≤ w 16 0 → w 20 p = stF (h 1 2) (h 1 3) (100 * w 17 p) (100 * w 18 p) ∧ w 21 p = stF (h 1 2) (h 1 3) (100 * h 1 0 - 100 * w 17 p) (100 * w 18 p)) (z : (∀ p : Nat, p < 300 → w 22 p = 0) ∧ w 33 0 = 0 ∧ w 48 0 = 0) (z2 : (∀ p : Nat, p < 300 → w 69 p = 0) ∧ w 49 48 = 0 ∧ w 49 62 = 0)
    (ho : ∀ k : Nat, 151 ≤ k → w 60 k = h 60 k ∧ w 61 k = h 61 k ∧ w 62 k = h 62 k) : REL w := by
  obtain ⟨r1, r2, r3, r4, r5, r6, r7, r8, r9, r10⟩ := r
  obtain ⟨-, -, -, gi, -, -, -, -, ge⟩ := pq
  have g1 := gi.1
  have g2 := gi.2.1
  have e1 := ge.1
  have e2 := ge.2.2
  rw [← hT.1] at g1 e1
  rw [← hT.1, ← hT.2.1, ← hT.2.2.1, ← hT.2.2.2] at g2 e2
  rw [← hT2.1] at e1
  rw [← hT2.2.1, ← hT2.2.2.1, ← hT2.2.2.2] at e2
  unfold REL
  have o5 : RO w := by
    have ro := r5
    simp only [RO, RMv, (q 1 0 (by decide) (by decide) (by decide) (by decide)), (q 1 1 (by decide) (by decide) (by decide) (by decide)), (q 1 2 (by decide) (by decide) (by decide) (by decide)), (q 1 3 (by decide) (by decide) (by decide) (by decide)), (q 1 4 (by decide) (by decide) (by decide) (by decide)), (q 1 5 (by decide) (by decide) (by decide) (by decide)), (q 1 8 (by decide) (by decide) (by decide) (by decide)), (q 23 0 (by decide) (by decide) (by decide) (by decide)), (q 49 3 (by decide) (by decide) (by decide) (by decide)), (q 49 4 (by decide) (by decide) (by decide) (by decide)), (q 49 5 (by decide) (by decide) (by decide) (by decide)), (q 49 6 (by decide) (by decide) (by decide) (by decide)), (q 49 7 (by decide) (by decide) (by decide) (by decide)), (q 49 8 (by decide) (by decide) (by decide) (by decide)), (q 49 30 (by decide) (by decide) (by decide) (by decide)), (q 49 60 (by decide) (by decide) (by decide) (by decide)), (q 49 63 (by decide) (by decide) (by decide) (by decide)), (q 49 64 (by decide) (by decide) (by decide) (by decide)), (q 49 65 (by decide) (by decide) (by decide) (by decide)), (q 1 7 (by decide) (by decide) (by decide) (by decide)), (show w 24 = h 24 from funext fun j => q 24 j (by omega) (by omega) (by omega) (by omega)), (show w 25 = h 25 from funext fun j => q 25 j (by omega) (by omega) (by omega) (by omega)), (show w 26 = h 26 from funext fun j => q 26 j (by omega) (by omega) (by omega) (by omega)), (show w 27 = h 27 from funext fun j => q 27 j (by omega) (by omega) (by omega) (by omega)), (show w 28 = h 28 from funext fun j => q 28 j (by omega) (by omega) (by omega) (by omega))] at ro ⊢
    refine ⟨ro.1, ro.2.1, ro.2.2.1, fun p hp => ?_⟩
    have a := ro.2.2.2 p hp
    have b := ho (151 + p) (by omega)
    rw [b.1, b.2.1, b.2.2]
    exact a
  clear r5
  simp only [RW, RT, RF, RM, RS, RX, RP, RR, RK, WOK, MOK, (q 1 0 (by decide) (by decide) (by decide) (by decide)), (q 1 1 (by decide) (by decide) (by decide) (by decide)), (q 1 2 (by decide) (by decide) (by decide) (by decide)), (q 1 3 (by decide) (by decide) (by decide) (by decide)), (q 1 4 (by decide) (by decide) (by decide) (by decide)), (q 1 5 (by decide) (by decide) (by decide) (by decide)), (q 1 8 (by decide) (by decide) (by decide) (by decide)), (q 23 0 (by decide) (by decide) (by decide) (by decide)), (q 45 0 (by decide) (by decide) (by decide) (by decide)), (q 48 1 (by decide) (by decide) (by decide) (by decide)), (q 48 2 (by decide) (by decide) (by decide) (by decide)), (q 48 3 (by decide) (by decide) (by decide) (by decide)), (q 49 3 (by decide) (by decide) (by decide) (by decide)), (q 49 4 (by decide) (by decide) (by decide) (by decide)), (q 49 5 (by decide) (by decide) (by decide) (by decide)), (q 49 6 (by decide) (by decide) (by decide) (by decide)), (q 49 7 (by decide) (by decide) (by decide) (by decide)), (q 49 8 (by decide) (by decide) (by decide) (by decide)), (q 49 30 (by decide) (by decide) (by decide) (by decide)), (q 49 60 (by decide) (by decide) (by decide) (by decide)), (q 49 63 (by decide) (by decide) (by decide) (by decide)), (q 49 64 (by decide) (by decide) (by decide) (by decide)), (q 49 65 (by decide) (by decide) (by decide) (by decide)), (q 1 7 (by decide) (by decide) (by decide) (by decide)), (show w 3 = h 3 from funext fun j => q 3 j (by omega) (by omega) (by omega) (by omega)), (show w 24 = h 24 from funext fun j => q 24 j (by omega) (by omega) (by omega) (by omega)), (show w 25 = h 25 from funext fun j => q 25 j (by omega) (by omega) (by omega) (by omega)), (show w 26 = h 26 from funext fun j => q 26 j (by omega) (by omega) (by omega) (by omega)), (show w 27 = h 27 from funext fun j => q 27 j (by omega) (by omega) (by omega) (by omega)), (show w 28 = h 28 from funext fun j => q 28 j (by omega) (by omega) (by omega) (by omega)), (show w 36 = h 36 from funext fun j => q 36 j (by omega) (by omega) (by omega) (by omega)), (show w 37 = h 37 from funext fun j => q 37 j (by omega) (by omega) (by omega) (by omega)), (show w 38 = h 38 from funext fun j => q 38 j (by omega) (by omega) (by omega) (by omega)), (show w 46 = h 46 from funext fun j => q 46 j (by omega) (by omega) (by omega) (by omega)), (show w 47 = h 47 from funext fun j => q 47 j (by omega) (by omega) (by omega) (by omega)), (show w 50 = h 50 from funext fun j => q 50 j (by omega) (by omega) (by omega) (by omega)), (show w 51 = h 51 from funext fun j => q 51 j (by omega) (by omega) (by omega) (by omega)), (show w 70 = h 70 from funext fun j => q 70 j (by omega) (by omega) (by omega) (by omega)), (show w 71 = h 71 from funext fun j => q 71 j (by omega) (by omega) (by omega) (by omega)), (show w 72 = h 72 from funext fun j => q 72 j (by omega) (by omega) (by omega) (by omega)), (show w 80 = h 80 from funext fun j => q 80 j (by omega) (by omega) (by omega) (by omega))] at r1 r2 r3 r4 r6 r7 r8 r9 r10 ⊢
  refine ⟨r1, ⟨?_, ?_, ?_, r2.2.2.2⟩, f, ⟨e1.symm, g1.1, g1.2, fun p hp => ?_⟩, o5, fun j hj => ?_, ⟨?_, ?_, ?_, fun k hk => ?_, fun k hk => ?_⟩, r8, ⟨?_, Or.inl z.2.2, fun y => ?_⟩, r10⟩
  · rw [t.1]; decide
  · rw [t.1]; decide
  · rw [t.1, t.2]
  · have a := g2 p hp
    have b := e2 p hp
    have c := ms p hp
    rw [Nat.zero_add]
    exact ⟨a.1.1, a.1.2, a.2.1.1, a.2.1.2, a.2.2, c.1, c.2, b.1.symm, b.2.1.symm, b.2.2.symm⟩
  · rw [z.1 j hj, z2.1 j hj]
    decide
  · rw [z.2.1, z2.2.1]
  · rw [z.2.1]; decide
  · rw [z.2.1]; decide
  · rw [z.2.1] at hk
    exact absurd hk (by omega)
  · rw [z.2.1] at hk
    exact absurd hk (by omega)
  · rw [z.2.2, z2.2.2]
  · rw [z.2.2] at y
    exact absurd y (by decide)
set_option maxRecDepth 20000 in
set_option maxHeartbeats 400000 in
theorem sp_mdrawB {d : Nat} (hd : 2 ≤ d) {z : Int} {h : Hp}  (hz : R32 z) (hT : R32 (h 49 1)) (hb : z < 0 ∨ h 49 1 < z) {P : Int → Hp → Prop} (k : P (-2) (upH h 49 2 0)) : Cl d mX12_draw [.inr (.inr 49), .inl z] h (pI P) := by
  refine Cl.of (L := [some (.inr (.inr 49)), some (.inl z)]) (by decide +kernel) (Nat.le_of_ble_eq_true rfl) rfl ?_
  obtain ⟨d, rfl⟩ : ∃ q, d = q + 1 := ⟨d - 1, by omega⟩
  refine r_aload_n dX12_draw_0 rfl rfl ?_
  refine r_iconst dX12_draw_1 ?_
  refine r_putI dX12_draw_2 fl_X12_127 sh_49 rfl ?_
  refine r_iload_n dX12_draw_5 rfl rfl ?_
  refine r_if_lt (tgt := 17) dX12_draw_6 rfl hz (fun c_6 => ?_) (fun c_6 => ?_)
  · refine r_bipush dX12_draw_17 (by decide +kernel) ?_
    refine r_iret dX12_draw_19 rfl ?_
    exact ⟨_, rfl, k⟩
  · refine r_iload_n dX12_draw_9 rfl rfl ?_
    refine r_aload_n dX12_draw_10 rfl rfl ?_
    refine r_getI dX12_draw_11 fl_X12_130 sh_49 rfl ?_
    refine r_eqI (up_nk (by decide)) ?_
    refine r_icmp_le (tgt := 20) dX12_draw_14 rfl hz hT (fun c_14 => absurd c_14 (by omega)) (fun c_14 => ?_)
    refine r_bipush dX12_draw_17 (by decide +kernel) ?_
    refine r_iret dX12_draw_19 rfl ?_
    exact ⟨_, rfl, k⟩
theorem pq_1 {W H : Int} {X Y D X2 Y2 D2 : Nat → Int} (c : (20 ≤ W ∧ W ≤ 200) ∧ (20 ≤ H ∧ H ≤ 200)) (hx : X 0 = W.tdiv 2) (hy : Y 0 = H) (hd : D 0 = 0) (hx2 : X2 0 = W.tdiv 2) (hy2 : Y2 0 = H) (hd2 : D2 0 = 0) : PQ W H 0 (0, 0, 0, (0, 1, W, H), (0, X, Y, D, 0)) (0, 0, 0, (0, 1, W, H), (0, X2, Y2, D2, 0)) := by
  obtain ⟨a1, a2, a3, a4, -⟩ := pq_0 c hx hy hd
  refine ⟨a1, a2, a3, a4, rfl, rfl, rfl, rfl, rfl, rfl, fun k hk => ?_⟩
  have hk : (k : Int) ≤ 0 := hk
  have k0 : k = 0 := by omega
  subst k0
  exact ⟨hx.trans hx2.symm, hy.trans hy2.symm, hd.trans hd2.symm⟩
theorem pr_draw {d : Nat} (hd : 21 ≤ d) {z : Int} (hz : R32 z) : PR d mX11_draw mX12_draw [.inl z] := by
  intro h r
  have hw := r.1.1
  have hm := r.1.2.1
  have h3 := r.1.2.2.1
  have h4 := r.1.2.2.2.1
  have r2 := r.2.1
  have t1 : 0 ≤ h 2 0 ∧ h 2 0 ≤ 500 := ⟨r2.1, r2.2.1⟩
  have t2 : h 49 1 = h 2 0 := r2.2.2.1
  have rk := r.2.2.2.2.2.2.2.2.2
  have by3 : BY (h 3) := fun j hj => ⟨(r2.2.2.2 j hj).1, (r2.2.2.2 j hj).2.1⟩
  refine sp_X11_draw (by omega) hw hz t1 by3 (fun hb => ?_) (fun n h0 x g2 m s ez hn st rc cb fp e => ?_) (fun n h0 x m s F i xx g T ez hn st rc ci s0 tk ox v wn xc x1 sx eT okT cs => ?_)
  · refine sp_mdrawB (by omega) hz (by rw [t2]; clear r r2 rk by3; omega) (by rw [t2]; exact hb) ⟨rfl, ?_⟩
    exact FrM.rel (fun a k q => by
      unfold upH
      split
      · rename_i y
        rw [y.1, y.2] at q
        cases q
      · rfl) r
  · subst ez
    have fr := rd_fr st rc
    have gq : ∀ a k, ¬ (a = 0 ∧ k = 12) → ¬ (a = 2 ∨ (4 ≤ a ∧ a ≤ 15)) → upH (upH g2 2 0 0) 0 12 0 a k = h a k := fun a k z1 z2 => by
      have e1 : upH (upH g2 2 0 0) 0 12 0 a k = g2 a k := by
        unfold upH
        rw [if_neg z1, if_neg (by omega)]
      rw [e1, fp a k (by omega) (by omega)]
      exact fr a k (by omega)
    have c49 : upH (upH g2 2 0 0) 0 12 0 49 = h 49 := funext fun k => gq 49 k (by omega) (by omega)
    have c3 : upH (upH g2 2 0 0) 0 12 0 3 = h 3 := funext fun k => gq 3 k (by omega) (by omega)
    have c50 : upH (upH g2 2 0 0) 0 12 0 50 = h 50 := funext fun k => gq 50 k (by omega) (by omega)
    have c51 : upH (upH g2 2 0 0) 0 12 0 51 = h 51 := funext fun k => gq 51 k (by omega) (by omega)
    have c14 : ∀ k, upH (upH g2 2 0 0) 0 12 0 14 k = g2 14 k := fun k => rfl
    have c20 : upH (upH g2 2 0 0) 0 12 0 2 0 = 0 := rfl
    have c012 : upH (upH g2 2 0 0) 0 12 0 0 12 = 0 := rfl
    generalize upH (upH g2 2 0 0) 0 12 0 = w at *
    have x3 : x 3 = h0 3 := funext fun k => rch_fr rc 3 k (by omega)
    have h03 : h0 3 = h 3 := funext fun k => st.1 3 k (by omega) (by omega) (by omega)
    have xp := cb.2.1
    refine sp_mdraw (n := n) (m := m) (h0 := h0) (x := x) (xx := x) (by omega) (by unfold MOK; rw [c49]; exact hm) (by rw [c49, t2]; exact ⟨hn, t1.2⟩) (fun j hj => by rw [c3, c50]; exact r2.2.2.2 j hj) (fun j hj => by rw [c51]; exact rk.2 j hj) st.2.1 st.2.2 rc ?_ (by rw [c3, h03]) (fun s9 F i c9 y1 y2 => ?_) (fun u uz ue => ⟨rfl, ?_⟩) (fun F i g u T y1 y2 _ _ _ _ _ _ => ?_)
    · rcases e with e | e
      · exact Or.inl (by rw [xp.2.1]; exact e.1)
      · exact Or.inr (by rw [xp.1.1]; exact e.2.1)
    · exfalso
      rcases e with e | e
      · exact e.1 (xp.2.1.symm.trans y1)
      · have := e.2.2.2.1
        omega
    · have uq : ∀ a k, ¬ (a = 0 ∧ k = 12) → ¬ (a = 2 ∨ (4 ≤ a ∧ a ≤ 15)) → ¬ (a = 49 ∧ (k = 1 ∨ k = 2 ∨ (10 ≤ k ∧ k ≤ 18) ∨ k = 22 ∨ k = 24) ∨ (52 ≤ a ∧ a ≤ 59)) → u a k = h a k := fun a k z1 z2 z3 => (uz.1 a k (by omega) (by omega)).trans (gq a k z1 z2)
      have u14 : ∀ k, u 14 k = g2 14 k := fun k => (uz.1 14 k (by omega) (by omega)).trans (c14 k)
      have pr := cb.2.1.2.2.2
      refine r.fault uq ⟨(uz.1 2 0 (by decide) (by decide)).trans c20, uz.2.1⟩ ?_
      rw [u14, u14, uz.2.2, uz.1 0 12 (by decide) (by decide), c012]
      rcases e with ⟨n0, p2⟩ | ⟨z0, tk, ⟨F, i, ci⟩, o1, p2⟩
      · rcases ue with ⟨-, a1, a2⟩ | ⟨a0, -⟩
        · rw [a1, a2, p2.2.1, p2.2.2.1, xp.2.1, xp.2.2.1]
          exact ⟨rfl, rfl, rfl, rfl, by clear fr gq; omega, by clear fr gq; omega⟩
        · exact absurd (xp.2.1.symm.trans a0) n0
      · rcases ue with ⟨a0, -⟩ | ⟨-, -, -, a1, a2⟩
        · exact absurd (xp.2.1.trans z0) a0
        · have e1 : flS (x 3) n 1 s = (s.1, 1, (tS (x 3) n s.1 : Int)) := if_pos z0
          rw [e1] at p2
          have ts := tS_r (b := x 3) pr.1
          have tn := cb.1.2.1
          have p21 : g2 14 2 = 1 := p2.2.1
          have p22 : g2 14 3 = (tS (x 3) n s.1 : Int) := p2.2.2.1
          rw [a1, a2, p21, p22, xp.1.2.1]
          exact ⟨rfl, rfl, rfl, rfl, ⟨by decide, by decide⟩, by clear fr gq uq uz; omega⟩
    · exfalso
      rcases e with e | e
      · exact e.1 (xp.2.1.symm.trans y1)
      · have := e.2.2.2.1
        omega
  · subst ez
    have fr := rd_fr st rc
    have xp := ci.1.2.1
    have f0 : x 14 2 = 0 := xp.2.1.trans s0
    have c49 : g 49 = h 49 := funext fun k => cs.1 49 k (by omega) (by omega) (by omega) (by omega) (by omega) (by omega) (by omega) (by omega)
    have c3 : g 3 = h 3 := funext fun k => cs.1 3 k (by omega) (by omega) (by omega) (by omega) (by omega) (by omega) (by omega) (by omega)
    have c50 : g 50 = h 50 := funext fun k => cs.1 50 k (by omega) (by omega) (by omega) (by omega) (by omega) (by omega) (by omega) (by omega)
    have c51 : g 51 = h 51 := funext fun k => cs.1 51 k (by omega) (by omega) (by omega) (by omega) (by omega) (by omega) (by omega) (by omega)
    have h03 : h0 3 = h 3 := funext fun k => st.1 3 k (by omega) (by omega) (by omega)
    have w3 : g 49 3 = xx 1 0 := by rw [c49, x1]; exact h3
    have w4 : g 49 4 = xx 1 1 := by rw [c49, x1]; exact h4
    refine sp_mdraw (h := g) (n := n) (m := m) (h0 := h0) (x := x) (xx := xx) (by omega) (by unfold MOK; rw [c49]; exact hm) (by rw [c49, t2]; exact ⟨hn, t1.2⟩) (fun j hj => by rw [c3, c50]; exact r2.2.2.2 j hj) (fun j hj => by rw [c51]; exact rk.2 j hj) st.2.1 st.2.2 rc (Or.inr (by rw [xp.1.1]; exact tk)) (by rw [c3, h03]) (fun s9 F9 i9 c9 _ _ => ?_) (fun u uz ue => ?_) (fun F9 i9 g9 w T2 _ _ ei9 _ _ eT2 sb rs => ?_)
    · have eF : F9 = F := Int.ofNat.inj (c9.2.1.1.symm.trans ci.2.1.1)
      have ei : i9 = i := Int.ofNat.inj (c9.2.2.1.1.symm.trans ci.2.2.1.1)
      rw [eF, ei]
      exact ⟨v, wn, xc, w3, w4⟩
    · exfalso
      rcases ue with ⟨a, -⟩ | ⟨-, -, a, -⟩
      · exact a f0
      · omega
    · have ei : i9 = i := Int.ofNat.inj (ei9.symm.trans ci.2.2.1.1)
      rw [ei] at eT2
      have cw : WH (xx 1 0) (xx 1 1) := by
        rw [x1]
        unfold WH
        clear okT cs rs sb eT eT2 v wn
        omega
      obtain ⟨b1, b2, b3, b4, b5⟩ := sb
      rw [c49] at b1 b2 b4
      rw [h3] at b1 b4
      rw [h4] at b2 b4
      have ok0 : PQ (h 1 0) (h 1 1) 0 (psC xx) (psM 0 g9) := by
        rw [sx.2.2.2, b4]
        exact pq_1 (by clear okT cs rs eT eT2 v wn b4 b5 sx; omega) sx.1 sx.2.1 sx.2.2.1 b1 b2 b3
      have pq : PQ (h 1 0) (h 1 1) 0 T T2 := by
        have q := PQ.pf v (Nat.le_refl _) cw (PQ.rd v cw 5 0 i wn (Nat.le_refl _)) 61 0 0 _ _ (Nat.le_refl _) (by rw [x1]; exact ok0)
        rw [x1, ← eT, ← eT2] at q
        exact q
      have hi : Hi (psM 0 g9).2.2.2.2 T2.2.2.2.2 := by
        rw [eT2]
        refine Hi.pf (Hi.rd 5) _ _ _ ⟨?_, fun k _ => ⟨rfl, rfl, rfl⟩⟩
        rw [b4]
        exact ⟨Int.le_refl 0, show (0 : Int) ≤ 150 by decide⟩
      obtain ⟨q1, ⟨q20, q012, q142, q143⟩, q3, q4, q5, q6, q7⟩ := cs
      obtain ⟨p1, ⟨p1a, p1b, p1c, p1d⟩, p3, p4, p5, p6⟩ := rs
      have wg : ∀ a k, a < 49 → w a k = g a k := fun a k ha => p1 a k (by omega) (by omega)
      have w17 : w 17 = g 17 := funext fun j => wg 17 j (by decide)
      have w18 : w 18 = g 18 := funext fun j => wg 18 j (by decide)
      have w19 : w 19 = g 19 := funext fun j => wg 19 j (by decide)
      have pr := xp.2.2.2
      have en := pq.2.2.2.2.2.2.2.2.1
      have ef := pq.2.2.2.2.2.2.2.2.2.1
      refine ⟨by rw [q3.1, p3.1]; exact en, r.drawn (T := T) (T2 := T2) (fun a k z1 z2 z3 z4 => ?_) ⟨(wg 2 0 (by decide)).trans q20, p1a⟩ ⟨?_, ?_, ?_, ?_, ?_, ?_⟩ ⟨(wg 16 0 (by decide)).trans q3.1, w17.trans q3.2.1, w18.trans q3.2.2.1, w19.trans q3.2.2.2⟩ p3 pq (fun p hp => ?_) ⟨fun p hp => (wg 22 p (by decide)).trans (q5 p hp), (wg 33 0 (by decide)).trans q6, (wg 48 0 (by decide)).trans q7⟩ ⟨p4, p5, p6⟩ (fun k hk => ?_)⟩
      · rw [p1 a k (by omega) (by omega)]
        exact q1 a k z1 (by omega) (by omega) (by omega) (by omega) (by omega) (by omega) (by omega)
      · rw [p1b, wg 14 2 (by decide), q142]
      · rw [p1c, wg 14 3 (by decide), q143]
      · rw [p1d, wg 0 12 (by decide), q012]
        exact ef.symm
      · rw [wg 14 2 (by decide), q142, f0]
        exact ⟨by decide, by decide⟩
      · rw [wg 14 3 (by decide), q143, xp.2.2.1]
        clear fr
        omega
      · rw [wg 0 12 (by decide), q012]
        exact okT.2.2.2.1.2.2
      · rw [wg 16 0 (by decide)] at hp
        rw [wg 20 p (by decide), wg 21 p (by decide), w17, w18]
        exact q4 p hp
      · have a := hi.2 k hk
        have b := b5 k hk
        have c6 : ∀ a : Nat, 60 ≤ a ∧ a ≤ 62 → g a k = h a k := fun a ha => q1 a k (by omega) (by omega) (by omega) (by omega) (by omega) (by omega) (by omega) (by omega)
        rw [p3.2.1, p3.2.2.1, p3.2.2.2, a.1, a.2.1, a.2.2, ← c6 60 (by decide), ← c6 61 (by decide), ← c6 62 (by decide)]
        exact b
