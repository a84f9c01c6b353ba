/-! THE START: both stand alike -/
theorem gh16_o {h : Hp} {a k : Nat} (ha : ¬ (16 ≤ a ∧ a ≤ 21 ∧ k = 0)) : gh16 h a k = h a k := by
  unfold gh16 upH
  rw [if_neg (by omega), if_neg (by omega), if_neg (by omega), if_neg (by omega), if_neg (by omega), if_neg (by omega)]
theorem gh23_o {h : Hp} {a k : Nat} (ha : ¬ (23 ≤ a ∧ a ≤ 28 ∧ k = 0)) : gh23 h a k = h a k := by
  unfold gh23 upH
  rw [if_neg (by omega), if_neg (by omega), if_neg (by omega), if_neg (by omega), if_neg (by omega), if_neg (by omega)]
theorem cC_o {a k : Nat} (ha : ¬ (16 ≤ a ∧ a ≤ 21 ∧ k = 0) ∧ ¬ (23 ≤ a ∧ a ≤ 28 ∧ k = 0)) : gh23 (gh16 (fX11_0 hZ0)) a k = fX11_0 hZ0 a k := (gh23_o ha.2).trans (gh16_o ha.1)
set_option maxRecDepth 20000 in
theorem fM_o {h : Hp} {a k : Nat} (ha : a < 49) : fX12_49 h a k = h a k := by
  unfold fX12_49
  repeat rw [up_nc (by omega)]
set_option maxRecDepth 20000 in
theorem fM_50 {h : Hp} {k : Nat} : fX12_49 h 50 k = h 50 k := by
  unfold fX12_49
  repeat rw [up_nc (by decide)]
set_option maxRecDepth 20000 in
theorem fC_3 {k : Nat} : fX11_0 hZ0 3 k = 0 := rfl
set_option maxRecDepth 20000 in
theorem fC_22 {k : Nat} : fX11_0 hZ0 22 k = 0 := rfl
set_option maxRecDepth 20000 in
theorem fM_51 {h : Hp} (j : Nat) (hj : j < 34) : fX12_49 h 51 j = wordL.getD j 0 := by
  have : j = 0 ∨ j = 1 ∨ j = 2 ∨ j = 3 ∨ j = 4 ∨ j = 5 ∨ j = 6 ∨ j = 7 ∨ j = 8 ∨ j = 9 ∨ j = 10 ∨ j = 11 ∨ j = 12 ∨ j = 13 ∨ j = 14 ∨ j = 15 ∨ j = 16 ∨ j = 17 ∨ j = 18 ∨ j = 19 ∨ j = 20 ∨ j = 21 ∨ j = 22 ∨ j = 23 ∨ j = 24 ∨ j = 25 ∨ j = 26 ∨ j = 27 ∨ j = 28 ∨ j = 29 ∨ j = 30 ∨ j = 31 ∨ j = 32 ∨ j = 33 := by omega
  rcases this with rfl | rfl | rfl | rfl | rfl | rfl | rfl | rfl | rfl | rfl | rfl | rfl | rfl | rfl | rfl | rfl | rfl | rfl | rfl | rfl | rfl | rfl | rfl | rfl | rfl | rfl | rfl | rfl | rfl | rfl | rfl | rfl | rfl | rfl <;> simp [fX12_49, upH, wordL]
theorem g16_16 {h : Hp} : gh16 h 16 0 = 0 := by simp [gh16, upH]
theorem g23_23 {h : Hp} : gh23 h 23 0 = 0 := by simp [gh23, upH]
theorem g16_17 {h : Hp} : gh16 h 17 0 = (h 1 0).tdiv 2 := by simp [gh16, upH]
theorem g23_24 {h : Hp} : gh23 h 24 0 = (h 1 0).tdiv 2 := by simp [gh23, upH]
theorem g16_18 {h : Hp} : gh16 h 18 0 = h 1 1 := by simp [gh16, upH]
theorem g23_25 {h : Hp} : gh23 h 25 0 = h 1 1 := by simp [gh23, upH]
theorem g16_19 {h : Hp} : gh16 h 19 0 = 0 := by simp [gh16, upH]
theorem g23_26 {h : Hp} : gh23 h 26 0 = 0 := by simp [gh23, upH]
theorem g16_20 {h : Hp} : gh16 h 20 0 = stF (h 1 2) (h 1 3) (100 * (h 1 0).tdiv 2) (100 * (h 1 1)) := by simp [gh16, upH]
theorem g23_27 {h : Hp} : gh23 h 27 0 = stF (h 1 2) (h 1 3) (100 * (h 1 0).tdiv 2) (100 * (h 1 1)) := by simp [gh23, upH]
theorem g16_21 {h : Hp} : gh16 h 21 0 = stF (h 1 2) (h 1 3) (100 * (h 1 0) - 100 * (h 1 0).tdiv 2) (100 * (h 1 1)) := by simp [gh16, upH]
theorem g23_28 {h : Hp} : gh23 h 28 0 = stF (h 1 2) (h 1 3) (100 * (h 1 0) - 100 * (h 1 0).tdiv 2) (100 * (h 1 1)) := by simp [gh23, upH]
set_option maxRecDepth 20000 in
set_option maxHeartbeats 1000000 in
theorem rel_start {h : Hp} (I : INI (gh23 (gh16 (fX11_0 hZ0))) h) : REL h := by
  obtain ⟨q1, q2, q3, q4, q5, q6⟩ := I
  have c : ∀ a k, a < 49 → h a k = gh23 (gh16 (fX11_0 hZ0)) a k := fun a k ha => (q1 a k (by omega) (by omega) (by omega) (by omega) (by omega)).trans (fM_o ha)
  have zc : ∀ k, (gh23 (gh16 (fX11_0 hZ0))) 49 k = 0 := fun k => (cC_o ⟨by omega, by omega⟩).trans rfl
  have zc2 : ∀ k, (gh23 (gh16 (fX11_0 hZ0))) 50 k = 0 := fun k => (cC_o ⟨by omega, by omega⟩).trans rfl
  have w0 : h 1 0 = 100 := ((c 1 0 (by decide)).trans (cC_o ⟨by decide, by decide⟩)).trans (by decide +kernel)
  have w1 : h 1 1 = 100 := ((c 1 1 (by decide)).trans (cC_o ⟨by decide, by decide⟩)).trans (by decide +kernel)
  have w2 : h 1 2 = 4 := ((c 1 2 (by decide)).trans (cC_o ⟨by decide, by decide⟩)).trans (by decide +kernel)
  have w3 : h 1 3 = 0 := ((c 1 3 (by decide)).trans (cC_o ⟨by decide, by decide⟩)).trans (by decide +kernel)
  have w4 : h 1 4 = 1 := ((c 1 4 (by decide)).trans (cC_o ⟨by decide, by decide⟩)).trans (by decide +kernel)
  have w5 : h 1 5 = 9999 := ((c 1 5 (by decide)).trans (cC_o ⟨by decide, by decide⟩)).trans (by decide +kernel)
  have w7 : h 1 7 = 0 := ((c 1 7 (by decide)).trans (cC_o ⟨by decide, by decide⟩)).trans (by decide +kernel)
  have w8 : h 1 8 = -1 := ((c 1 8 (by decide)).trans (cC_o ⟨by decide, by decide⟩)).trans (by decide +kernel)
  have t0 : h 2 0 = 0 := ((c 2 0 (by decide)).trans (cC_o ⟨by decide, by decide⟩)).trans (by decide +kernel)
  have p2 : h 14 2 = 0 := ((c 14 2 (by decide)).trans (cC_o ⟨by decide, by decide⟩)).trans (by decide +kernel)
  have p3 : h 14 3 = -1 := ((c 14 3 (by decide)).trans (cC_o ⟨by decide, by decide⟩)).trans (by decide +kernel)
  have f12 : h 0 12 = 0 := ((c 0 12 (by decide)).trans (cC_o ⟨by decide, by decide⟩)).trans (by decide +kernel)
  have x33 : h 33 0 = 0 := ((c 33 0 (by decide)).trans (cC_o ⟨by decide, by decide⟩)).trans (by decide +kernel)
  have x45 : h 45 0 = 0 := ((c 45 0 (by decide)).trans (cC_o ⟨by decide, by decide⟩)).trans (by decide +kernel)
  have x48 : h 48 0 = 0 := ((c 48 0 (by decide)).trans (cC_o ⟨by decide, by decide⟩)).trans (by decide +kernel)
  have m1 : h 49 1 = 0 := (q1 49 1 (by decide) (by decide) (by decide) (by decide) (by decide)).trans (by simp [fX12_49, upH, zc])
  have m3 : h 49 3 = 100 := (q1 49 3 (by decide) (by decide) (by decide) (by decide) (by decide)).trans (by simp [fX12_49, upH, zc])
  have m4 : h 49 4 = 100 := (q1 49 4 (by decide) (by decide) (by decide) (by decide) (by decide)).trans (by simp [fX12_49, upH, zc])
  have m5 : h 49 5 = 4 := (q1 49 5 (by decide) (by decide) (by decide) (by decide) (by decide)).trans (by simp [fX12_49, upH, zc])
  have m6 : h 49 6 = 0 := (q1 49 6 (by decide) (by decide) (by decide) (by decide) (by decide)).trans (by simp [fX12_49, upH, zc])
  have m7 : h 49 7 = 1 := (q1 49 7 (by decide) (by decide) (by decide) (by decide) (by decide)).trans (by simp [fX12_49, upH, zc])
  have m8 : h 49 8 = 9999 := (q1 49 8 (by decide) (by decide) (by decide) (by decide) (by decide)).trans (by simp [fX12_49, upH, zc])
  have m10 : h 49 10 = 0 := (q1 49 10 (by decide) (by decide) (by decide) (by decide) (by decide)).trans (by simp [fX12_49, upH, zc])
  have m11 : h 49 11 = -1 := (q1 49 11 (by decide) (by decide) (by decide) (by decide) (by decide)).trans (by simp [fX12_49, upH, zc])
  have m12 : h 49 12 = 0 := (q1 49 12 (by decide) (by decide) (by decide) (by decide) (by decide)).trans (by simp [fX12_49, upH, zc])
  have m60 : h 49 60 = 0 := (q1 49 60 (by decide) (by decide) (by decide) (by decide) (by decide)).trans (by simp [fX12_49, upH, zc])
  have u0 : (fX11_0 hZ0) 1 0 = 100 := by decide +kernel
  have u1 : (fX11_0 hZ0) 1 1 = 100 := by decide +kernel
  have u2 : (fX11_0 hZ0) 1 2 = 4 := by decide +kernel
  have u3 : (fX11_0 hZ0) 1 3 = 0 := by decide +kernel
  have a16 : h 16 0 = 0 := by
    rw [c 16 0 (by decide), gh23_o (by decide), g16_16]
  have a17 : h 17 0 = 50 := by
    rw [c 17 0 (by decide), gh23_o (by decide), g16_17, u0]
    rfl
  have a18 : h 18 0 = 100 := by
    rw [c 18 0 (by decide), gh23_o (by decide), g16_18, u1]
  have a19 : h 19 0 = 0 := by
    rw [c 19 0 (by decide), gh23_o (by decide), g16_19]
  have a20 : h 20 0 = stF 4 0 5000 10000 := by
    rw [c 20 0 (by decide), gh23_o (by decide), g16_20, u0, u1, u2, u3]
    rfl
  have a21 : h 21 0 = stF 4 0 5000 10000 := by
    rw [c 21 0 (by decide), gh23_o (by decide), g16_21, u0, u1, u2, u3]
    rfl
  have a23 : h 23 0 = 0 := by
    rw [c 23 0 (by decide), g23_23]
  have a24 : h 24 0 = 50 := by
    rw [c 24 0 (by decide), g23_24, gh16_o (a := 1) (by decide), u0]
    rfl
  have a25 : h 25 0 = 100 := by
    rw [c 25 0 (by decide), g23_25, gh16_o (a := 1) (by decide), u1]
  have a26 : h 26 0 = 0 := by
    rw [c 26 0 (by decide), g23_26]
  have a27 : h 27 0 = stF 4 0 5000 10000 := by
    rw [c 27 0 (by decide), g23_27, gh16_o (a := 1) (k := 0) (by decide), gh16_o (a := 1) (k := 1) (by decide), gh16_o (a := 1) (k := 2) (by decide), gh16_o (a := 1) (k := 3) (by decide), u0, u1, u2, u3]
    rfl
  have a28 : h 28 0 = stF 4 0 5000 10000 := by
    rw [c 28 0 (by decide), g23_28, gh16_o (a := 1) (k := 0) (by decide), gh16_o (a := 1) (k := 1) (by decide), gh16_o (a := 1) (k := 2) (by decide), gh16_o (a := 1) (k := 3) (by decide), u0, u1, u2, u3]
    rfl
  have b3 : (fX12_49 (gh23 (gh16 (fX11_0 hZ0)))) 49 3 = 100 := by simp [fX12_49, upH]
  have b4 : (fX12_49 (gh23 (gh16 (fX11_0 hZ0)))) 49 4 = 100 := by simp [fX12_49, upH]
  obtain ⟨r1, r2, r3, r4, r5, r6, r7, r8⟩ := q2
  rw [b3] at r3 r6
  rw [b4] at r4 r7
  have e3 : ((100 : Int).tdiv 2) = 50 := by decide
  rw [e3] at r3 r6
  have j3 : ∀ j, h 3 j = 0 := fun j => ((c 3 j (by decide)).trans (cC_o ⟨by omega, by omega⟩)).trans fC_3
  have j22 : ∀ j, h 22 j = 0 := fun j => ((c 22 j (by decide)).trans (cC_o ⟨by omega, by omega⟩)).trans fC_22
  have j50 : ∀ j, h 50 j = 0 := fun j => ((q1 50 j (by decide) (by decide) (by decide) (by decide) (by omega)).trans fM_50).trans (zc2 j)
  have j51 : ∀ j, j < 34 → h 51 j = wordL.getD j 0 := fun j hj => (q1 51 j (by decide) (by decide) (by decide) (by decide) (by omega)).trans (fM_51 j hj)
  refine ⟨⟨by unfold WOK; omega, by unfold MOK; omega, by omega, by omega, by omega, by omega, by omega, by omega⟩, ⟨by omega, by omega, by omega, fun j _ => ?_⟩, ⟨by omega, by omega, by omega, by rw [p2]; decide, by rw [p3]; decide, by omega⟩, ⟨by omega, by omega, by omega, fun p hp => ?_⟩, ⟨by omega, by omega, by omega, fun p hp => ?_⟩, fun j hj => ?_, ⟨by omega, by omega, by omega, fun k hk => absurd hk (by omega), fun k hk => absurd hk (by omega)⟩, ⟨by omega, by omega, by omega, fun i hi => absurd hi (by omega)⟩, ⟨by omega, by omega, fun z => absurd z (by omega)⟩, ⟨by omega, j51⟩⟩
  · rw [j3, j50]
    decide
  · have e : p = 0 := by omega
    subst e
    refine ⟨by omega, by omega, by omega, by omega, by omega, ?_, ?_, ?_, ?_, ?_⟩
    · rw [a20, a17, a18, w2, w3]
      rfl
    · rw [a21, a17, a18, w2, w3, w0]
      rfl
    · show h 60 0 = h 17 0
      omega
    · show h 61 0 = h 18 0
      omega
    · show h 62 0 = h 19 0
      omega
  · have e : p = 0 := by omega
    subst e
    refine ⟨by omega, by omega, by omega, by omega, by omega, ?_, ?_, ?_, ?_, ?_⟩
    · rw [a27, a24, a25, w2, w3]
      rfl
    · rw [a28, a24, a25, w2, w3, w0]
      rfl
    · show h 60 151 = h 24 0
      omega
    · show h 61 151 = h 25 0
      omega
    · show h 62 151 = h 26 0
      omega
  · rw [q3 j hj, j22]
    decide
