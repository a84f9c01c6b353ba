/-! MOVES OF BOTH SIDES: equal up to their number; rows of lines -/
abbrev GE (g u : Gm) : Prop := g.1 = u.1 ∧ g.2.2.2.2 = u.2.2.2.2 ∧ ∀ k : Nat, (k : Int) ≤ g.1 → g.2.1 k = u.2.1 k ∧ g.2.2.1 k = u.2.2.1 k ∧ g.2.2.2.1 k = u.2.2.2.1 k
theorem GE.p {x y : Int} {g u : Gm} (e : GE g u) (h0 : 0 ≤ g.1) : gmP x y g ↔ gmP x y u := by
  have k := e.2.2 g.1.toNat (by omega)
  have e1 := e.1
  rw [gmP, gmP, ← e1, k.1, k.2.1]
theorem upG_s {f : Nat → Int} {k : Nat} {z : Int} : upG f k z k = z := if_pos rfl
theorem upG_n {f : Nat → Int} {k j : Nat} {z : Int} (h : j ≠ k) : upG f k z j = f j := if_neg h
theorem GE.a {x y d : Int} {g u : Gm} (e : GE g u) (h0 : 0 ≤ g.1) : GE (gmA x y d g) (gmA x y d u) := by
  by_cases c : g.1 < 150
  · rw [gmA_y c, gmA_y (show u.1 < 150 by rw [← e.1]; exact c)]
    refine ⟨by show g.1 + 1 = u.1 + 1; rw [e.1], e.2.1, fun k hk => ?_⟩
    have hk : (k : Int) ≤ g.1 + 1 := hk
    show upG g.2.1 (g.1 + 1).toNat x k = upG u.2.1 (u.1 + 1).toNat x k ∧ upG g.2.2.1 (g.1 + 1).toNat y k = upG u.2.2.1 (u.1 + 1).toNat y k ∧ upG g.2.2.2.1 (g.1 + 1).toNat d k = upG u.2.2.2.1 (u.1 + 1).toNat d k
    rw [← e.1]
    by_cases z : k = (g.1 + 1).toNat
    · rw [z, upG_s, upG_s, upG_s, upG_s, upG_s, upG_s]
      exact ⟨rfl, rfl, rfl⟩
    · rw [upG_n z, upG_n z, upG_n z, upG_n z, upG_n z, upG_n z]
      exact e.2.2 k (by omega)
  · rw [gmA_n c, gmA_n (show ¬ u.1 < 150 by rw [← e.1]; exact c)]
    exact ⟨e.1, rfl, e.2.2⟩
theorem gmA_0 {x y d : Int} {g : Gm} (h0 : 0 ≤ g.1) : 0 ≤ (gmA x y d g).1 := by
  by_cases c : g.1 < 150
  · rw [gmA_y c]
    show 0 ≤ g.1 + 1
    omega
  · rw [gmA_n c]
    exact h0
theorem GE.m1 {x y : Int} {g u : Gm} (e : GE g u) (h0 : 0 ≤ g.1) : GE (mv1 x y g) (mv1 x y u) ∧ 0 ≤ (mv1 x y g).1 := by
  by_cases c : gmP x y g
  · have e1 : mv1 x y g = g := if_pos c
    have e2 : mv1 x y u = u := if_pos ((e.p h0).mp c)
    rw [e1, e2]
    exact ⟨e, h0⟩
  · have e1 : mv1 x y g = gmA x y 0 g := if_neg c
    have e2 : mv1 x y u = gmA x y 0 u := if_neg (fun z => c ((e.p h0).mpr z))
    rw [e1, e2]
    exact ⟨e.a h0, gmA_0 h0⟩
theorem GE.li {w t : Q4} {g u : Gm} (e : GE g u) (h0 : 0 ≤ g.1) : GE (liF w t g) (liF w t u) := by
  by_cases c : lnN w t
  · rw [liF_n c, liF_n c]
    exact e
  · rw [liF_e c, liF_e c]
    generalize lnE w t = t
    have m := e.m1 (x := t.1) (y := t.2.1) h0
    unfold mv2
    rw [← m.1.2.1]
    split
    · exact m.1.a m.2
    · exact m.1
theorem GmR.a {x y d : Int} {g : Gm} (r : GmR g) (hx : 0 ≤ x ∧ x ≤ 2000) (hy : 0 ≤ y ∧ y ≤ 2000) : GmR (gmA x y d g) := by
  by_cases c : g.1 < 150
  · rw [gmA_y c]
    refine ⟨?_, fun k hk => ?_⟩
    · show 0 ≤ g.1 + 1 ∧ g.1 + 1 ≤ 150
      have := r.1
      omega
    · have hk : (k : Int) ≤ g.1 + 1 := hk
      show (0 ≤ upG g.2.1 (g.1 + 1).toNat x k ∧ upG g.2.1 (g.1 + 1).toNat x k ≤ 2000) ∧ (0 ≤ upG g.2.2.1 (g.1 + 1).toNat y k ∧ upG g.2.2.1 (g.1 + 1).toNat y k ≤ 2000)
      by_cases z : k = (g.1 + 1).toNat
      · rw [z, upG_s, upG_s]
        exact ⟨hx, hy⟩
      · rw [upG_n z, upG_n z]
        have := r.1
        exact r.2 k (by omega)
  · rw [gmA_n c]
    exact r
theorem GmR.m1 {x y : Int} {g : Gm} (r : GmR g) (hx : 0 ≤ x ∧ x ≤ 2000) (hy : 0 ≤ y ∧ y ≤ 2000) : GmR (mv1 x y g) := by
  unfold mv1
  split
  · exact r
  · exact r.a hx hy
theorem GmR.li {w t : Q4} {g : Gm} (r : GmR g) (hw : WnR w) : GmR (liF w t g) := by
  by_cases c : lnN w t
  · rw [liF_n c]
    exact r
  · rw [liF_e c]
    have i := lnE_in c
    generalize lnE w t = t at i
    have m := r.m1 (x := t.1) (y := t.2.1) (by omega) (by omega)
    unfold mv2
    split
    · exact m.a (by omega) (by omega)
    · exact m
/-- the lines E j .. E (j + n - 1), until full -/
def itF (w : Q4) (E : Nat → Q4) : Nat → Nat → Gm → Gm
  | 0, _, g => g
  | n + 1, j, g => if g.2.2.2.2 = 0 then itF w E n (j + 1) (liF w (E j) g) else g
theorem itF_f {w : Q4} {E : Nat → Q4} {g : Gm} (h : ¬ g.2.2.2.2 = 0) : ∀ n j : Nat, itF w E n j g = g
  | 0, _ => rfl
  | n + 1, j => if_neg h
theorem itF_add {w : Q4} {E : Nat → Q4} : ∀ (m n j : Nat) (g : Gm), itF w E (m + n) j g = itF w E n (j + m) (itF w E m j g)
  | 0, n, j, g => by rw [Nat.zero_add, Nat.add_zero]; rfl
  | m + 1, n, j, g => by
    rw [show m + 1 + n = (m + n) + 1 by omega, itF, itF]
    by_cases c : g.2.2.2.2 = 0
    · rw [if_pos c, if_pos c, itF_add m n (j + 1) (liF w (E j) g), show j + 1 + m = j + (m + 1) by omega]
    · rw [if_neg c, if_neg c, itF_f c]
theorem itF_n {w : Q4} {E : Nat → Q4} : ∀ (n j : Nat) (g : Gm), (∀ i : Nat, j ≤ i → i < j + n → lnN w (E i)) → itF w E n j g = g
  | 0, _, _, _ => rfl
  | n + 1, j, g, h => by
    rw [itF, liF_n (h j (by omega) (by omega)), itF_n n (j + 1) g (fun i a b => h i (by omega) (by omega))]
    split <;> rfl
theorem itF_cg {w : Q4} {E D : Nat → Q4} : ∀ (n j : Nat) (g : Gm), (∀ i : Nat, j ≤ i → i < j + n → E i = D i) → itF w E n j g = itF w D n j g
  | 0, _, _, _ => rfl
  | n + 1, j, g, h => by
    rw [itF, itF, h j (by omega) (by omega), itF_cg n (j + 1) _ (fun i a b => h i (by omega) (by omega))]
theorem GE.it {w : Q4} {E : Nat → Q4} : ∀ (n j : Nat) (g u : Gm), GE g u → GmR g → WnR w → GE (itF w E n j g) (itF w E n j u) ∧ GmR (itF w E n j g)
  | 0, _, _, _, e, r, _ => ⟨e, r⟩
  | n + 1, j, g, u, e, r, hw => by
    rw [itF, itF, ← e.2.1]
    by_cases c : g.2.2.2.2 = 0
    · rw [if_pos c, if_pos c]
      exact GE.it n (j + 1) _ _ (e.li r.1.1) (r.li hw) hw
    · rw [if_neg c, if_neg c]
      exact ⟨e, r⟩
/-- of a level line above or below the window nothing is left -/
theorem cuB_lv {s sd p q r : Int} : cuB s sd p q r r = r := by
  unfold cuB
  rw [Int.sub_self, Int.zero_mul, Int.zero_tdiv]
  split <;> omega
theorem lnN_lv {w : Q4} {a b y : Int} (h : y < w.2.1 ∨ w.2.2.2 < y) : lnN w (a, y, b, y) := by
  have e1 : cX 1 w.1 (a, y, b, y) = (cuA 1 w.1 a, y, cuA 1 w.1 b, y) := by
    unfold cX
    rw [show cuB 1 w.1 (a, y, b, y).1 (a, y, b, y).2.2.1 (a, y, b, y).2.1 (a, y, b, y).2.2.2 = y from cuB_lv, show cuB 1 w.1 (a, y, b, y).2.2.1 (a, y, b, y).1 (a, y, b, y).2.2.2 (a, y, b, y).2.1 = y from cuB_lv]
  have e2 : ∀ c d : Int, cX (-1) w.2.2.1 (c, y, d, y) = (cuA (-1) w.2.2.1 c, y, cuA (-1) w.2.2.1 d, y) := fun c d => by
    unfold cX
    rw [show cuB (-1) w.2.2.1 (c, y, d, y).1 (c, y, d, y).2.2.1 (c, y, d, y).2.1 (c, y, d, y).2.2.2 = y from cuB_lv, show cuB (-1) w.2.2.1 (c, y, d, y).2.2.1 (c, y, d, y).1 (c, y, d, y).2.2.2 (c, y, d, y).2.1 = y from cuB_lv]
  by_cases t : y < w.2.1
  · refine Or.inr (Or.inr (Or.inl ?_))
    rw [e1, e2]
    show (y - w.2.1) * 1 < 0 ∧ (y - w.2.1) * 1 < 0
    omega
  · have h := h.resolve_left t
    refine Or.inr (Or.inr (Or.inr ?_))
    rw [e1, e2]
    have e3 : ∀ c d : Int, (cY 1 w.2.1 (c, y, d, y)).2.1 = y ∧ (cY 1 w.2.1 (c, y, d, y)).2.2.2 = y := fun c d => by
      have z : cuA 1 w.2.1 y = y := if_neg (by omega)
      exact ⟨z, z⟩
    show ((cY 1 w.2.1 _).2.1 - w.2.2.2) * (-1) < 0 ∧ ((cY 1 w.2.1 _).2.2.2 - w.2.2.2) * (-1) < 0
    rw [(e3 _ _).1, (e3 _ _).2]
    omega
