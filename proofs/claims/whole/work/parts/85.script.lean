/-! WHAT A SCRIPT DOES, as a function of the class's heap x behind its reading: done, shift, window, moves -/
abbrev Ps := Int × Int × Int × Q4 × Gm
abbrev flP (p : Ps) : Int := p.2.2.2.2.2.2.2.2
def htN (y1 gp y2 : Int) : Nat := ((y2 - y1) / gp + 1).toNat
theorem htN_i {y1 gp y2 : Int} (h : 1 ≤ gp) : ∀ i : Nat, i < htN y1 gp y2 ↔ y1 + (i : Int) * gp ≤ y2 := fun i => by
  unfold htN
  have q := Int.le_ediv_iff_mul_le (a := (i : Int)) (b := y2 - y1) (c := gp) (by omega)
  constructor
  · intro z
    have := q.mp (by omega)
    omega
  · intro z
    have := q.mpr (by omega)
    omega
def acG (x : Hp) (s : Nat) (sx sy : Int) (w : Q4) (g : Gm) : Gm :=
  if x 5 s = 1 then itF w (foE (x 8 (5 * s)) (x 8 (5 * s + 1)) (x 8 (5 * s + 2)) sx sy (x 12) (x 13) (12 * (x 7 s).toNat)) ((x 11 (x 7 s).toNat).toNat - 1) 0 g
  else if x 5 s = 2 then liF w (x 8 (5 * s) + sx, x 8 (5 * s + 1) + sy, x 8 (5 * s + 2) + sx, x 8 (5 * s + 3) + sy) g
  else if x 5 s = 3 then toF w (x 8 (5 * s) + sx) (x 8 (5 * s + 1) + sy) g
  else if x 5 s = 4 then itF w (htE (x 8 (5 * s)) (x 8 (5 * s + 2)) (x 8 (5 * s + 1)) (x 8 (5 * s + 4)) sx sy) (htN (x 8 (5 * s + 1)) (x 8 (5 * s + 4)) (x 8 (5 * s + 3))) 0 g
  else g
def acW (x : Hp) (s : Nat) (w : Q4) : Q4 := if x 5 s = 5 then (max (x 8 (5 * s)) 0, max (x 8 (5 * s + 1)) 1, min (x 8 (5 * s + 2)) (x 1 0), min (x 8 (5 * s + 3)) (x 1 1)) else w
def acP (x : Hp) (s : Nat) (p : Ps) : Ps := (p.1 + 1, p.2.1, p.2.2.1, acW x s p.2.2.2.1, acG x s p.2.1 p.2.2.1 p.2.2.2.1 p.2.2.2.2)
def fuG (g : Gm) : Gm := (g.1, g.2.1, g.2.2.1, g.2.2.2.1, 1)
def fuP (p : Ps) : Ps := (p.1, p.2.1, p.2.2.1, p.2.2.2.1, fuG p.2.2.2.2)
def onP (p : Ps) : Ps := (p.1 + 1, p.2)
def shP (dx dy : Int) (p : Ps) : Ps := (p.1, p.2.1 + dx, p.2.2.1 + dy, p.2.2.2)
def bkP (p q : Ps) : Ps := (q.1, p.2.1, p.2.2.1, p.2.2.2.1, q.2.2.2.2)
def rpF (B : Ps → Ps) (dx dy : Int) : Nat → Ps → Ps
  | 0, p => p
  | t + 1, p => if flP p = 0 then rpF B dx dy t (shP dx dy (B p)) else p
def pfL (x : Hp) (R : Nat → Ps → Ps) (b : Nat) : Nat → Nat → Ps → Ps
  | 0, _, p => p
  | m + 1, s, p => if s < b ∧ flP p = 0 then (if 3000 ≤ p.1 then fuP p else if x 5 s = 6 then pfL x R b m ((x 6 s).toNat + 1) (R s (onP p)) else pfL x R b m (s + 1) (acP x s p)) else p
/-- the again at s, with r depths left -/
def rpD (x : Hp) : Nat → Nat → Ps → Ps
  | 0, _, p => p
  | r + 1, s, p => bkP p (rpF (pfL x (rpD x r) ((x 6 s).toNat + 1) 61 (s + 1)) (x 8 (5 * s + 1)) (x 8 (5 * s + 2)) (x 8 (5 * s)).toNat p)
theorem rpF_f {B : Ps → Ps} {dx dy : Int} {p : Ps} (h : ¬ flP p = 0) : ∀ t : Nat, rpF B dx dy t p = p
  | 0 => rfl
  | t + 1 => if_neg h
theorem pfL_f {x : Hp} {R : Nat → Ps → Ps} {b s : Nat} {p : Ps} (h : ¬ (s < b ∧ flP p = 0)) : ∀ m : Nat, pfL x R b m s p = p
  | 0 => rfl
  | m + 1 => if_neg h
theorem pfL_3 {x : Hp} {R : Nat → Ps → Ps} {b s m : Nat} {p : Ps} (h : s < b ∧ flP p = 0) (h3 : 3000 ≤ p.1) : pfL x R b (m + 1) s p = fuP p := by
  rw [pfL, if_pos h, if_pos h3]
theorem pfL_6 {x : Hp} {R : Nat → Ps → Ps} {b s m : Nat} {p : Ps} (h : s < b ∧ flP p = 0) (h3 : ¬ 3000 ≤ p.1) (h6 : x 5 s = 6) : pfL x R b (m + 1) s p = pfL x R b m ((x 6 s).toNat + 1) (R s (onP p)) := by
  rw [pfL, if_pos h, if_neg h3, if_pos h6]
theorem pfL_a {x : Hp} {R : Nat → Ps → Ps} {b s m : Nat} {p : Ps} (h : s < b ∧ flP p = 0) (h3 : ¬ 3000 ≤ p.1) (h6 : ¬ x 5 s = 6) : pfL x R b (m + 1) s p = pfL x R b m (s + 1) (acP x s p) := by
  rw [pfL, if_pos h, if_neg h3, if_neg h6]
/-- the windows and the moves lie on the wall -/
def WI (W H : Int) (w : Q4) : Prop := (0 ≤ w.1 ∧ w.1 ≤ 999) ∧ (1 ≤ w.2.1 ∧ w.2.1 ≤ 999) ∧ (0 ≤ w.2.2.1 ∧ w.2.2.1 ≤ W) ∧ (0 ≤ w.2.2.2 ∧ w.2.2.2 ≤ H)
def GI (W H : Int) (g : Gm) : Prop := (0 ≤ g.1 ∧ g.1 ≤ 150) ∧ (∀ k : Nat, (k : Int) ≤ g.1 → (0 ≤ g.2.1 k ∧ g.2.1 k ≤ W) ∧ (1 ≤ g.2.2.1 k ∧ g.2.2.1 k ≤ H) ∧ (g.2.2.2.1 k = 0 ∨ g.2.2.2.1 k = 1)) ∧ B01 g
def WH (W H : Int) : Prop := (0 ≤ W ∧ W ≤ 999) ∧ (0 ≤ H ∧ H ≤ 999)
theorem WI.r {W H : Int} {w : Q4} (a : WI W H w) (c : WH W H) : WnR w := by
  obtain ⟨a1, a2, a3, a4⟩ := a
  obtain ⟨c1, c2⟩ := c
  exact ⟨a1, by omega, by omega, by omega⟩
theorem GI.r {W H : Int} {g : Gm} (a : GI W H g) (c : WH W H) : GmR g := by
  refine ⟨a.1, fun k hk => ?_⟩
  have q := a.2.1 k hk
  have c1 := c.1
  have c2 := c.2
  exact ⟨⟨q.1.1, by omega⟩, by omega, by omega⟩
theorem GI.a {W H : Int} {x y d : Int} {g : Gm} (r : GI W H g) (hx : 0 ≤ x ∧ x ≤ W) (hy : 1 ≤ y ∧ y ≤ H) (hd : d = 0 ∨ d = 1) : GI W H (gmA x y d g) := by
  refine ⟨?_, ?_, gmA_01 r.2.2⟩
  · have r1 := r.1
    by_cases c : g.1 < 150
    · rw [gmA_y c]
      show 0 ≤ g.1 + 1 ∧ g.1 + 1 ≤ 150
      omega
    · rw [gmA_n c]
      exact r1
  · by_cases c : g.1 < 150
    · rw [gmA_y c]
      intro k hk
      have hk : (k : Int) ≤ g.1 + 1 := hk
      show (0 ≤ upG g.2.1 (g.1 + 1).toNat x k ∧ upG g.2.1 (g.1 + 1).toNat x k ≤ W) ∧ (1 ≤ upG g.2.2.1 (g.1 + 1).toNat y k ∧ upG g.2.2.1 (g.1 + 1).toNat y k ≤ H) ∧ (upG g.2.2.2.1 (g.1 + 1).toNat d k = 0 ∨ upG g.2.2.2.1 (g.1 + 1).toNat d k = 1)
      by_cases z : k = (g.1 + 1).toNat
      · rw [z, upG_s, upG_s, upG_s]
        exact ⟨hx, hy, hd⟩
      · rw [upG_n z, upG_n z, upG_n z]
        have := r.1
        exact r.2.1 k (by omega)
    · rw [gmA_n c]
      exact r.2.1
theorem GI.m1 {W H : Int} {x y : Int} {g : Gm} (r : GI W H g) (hx : 0 ≤ x ∧ x ≤ W) (hy : 1 ≤ y ∧ y ≤ H) : GI W H (mv1 x y g) := by
  unfold mv1
  split
  · exact r
  · exact r.a hx hy (Or.inl rfl)
theorem GI.li {W H : Int} {w t : Q4} {g : Gm} (r : GI W H g) (hw : WI W H w) : GI W H (liF w t g) := by
  by_cases c : lnN w t
  · rw [liF_n c]
    exact r
  · rw [liF_e c]
    have i := lnE_in c
    generalize lnE w t = t at i
    obtain ⟨w1, w2, w3, w4⟩ := hw
    have m := r.m1 (x := t.1) (y := t.2.1) (by omega) (by omega)
    unfold mv2
    split
    · exact m.a (by omega) (by omega) (Or.inr rfl)
    · exact m
theorem GI.to {W H : Int} {w : Q4} {x y : Int} {g : Gm} (r : GI W H g) (hw : WI W H w) : GI W H (toF w x y g) := by
  obtain ⟨w1, w2, w3, w4⟩ := hw
  unfold toF
  split
  · exact r.m1 (by omega) (by omega)
  · exact r
theorem GI.it {W H : Int} {w : Q4} {E : Nat → Q4} (hw : WI W H w) : ∀ (n j : Nat) (g : Gm), GI W H g → GI W H (itF w E n j g)
  | 0, _, _, r => r
  | n + 1, j, g, r => by
    rw [itF]
    split
    · exact GI.it hw n (j + 1) _ (r.li hw)
    · exact r
theorem ac_pq {W H : Int} {x : Hp} {s : Nat} {sx sy : Int} {w : Q4} {g u : Gm} (c : WH W H) (hw : WI W H w) (r : GI W H g) (e : GE g u) : GI W H (acG x s sx sy w g) ∧ GE (acG x s sx sy w g) (acG x s sx sy w u) := by
  unfold acG
  split
  · exact ⟨r.it hw _ _ _, (GE.it _ _ _ _ e (r.r c) (hw.r c)).1⟩
  · split
    · exact ⟨r.li hw, e.li r.1.1⟩
    · split
      · exact ⟨r.to hw, (e.to (r.r c) (hw.r c)).1⟩
      · split
        · exact ⟨r.it hw _ _ _, (GE.it _ _ _ _ e (r.r c) (hw.r c)).1⟩
        · exact ⟨r, e⟩
/-- the script is in order: F forms, i statements -/
def PV (x : Hp) (F i : Nat) : Prop := (F ≤ 8 ∧ i ≤ 60) ∧ (∀ f : Nat, f < F → ∃ c : Nat, x 11 f = c ∧ (1 ≤ c ∧ c ≤ 12) ∧ ∀ q : Nat, q < c → (0 ≤ x 12 (12 * f + q) ∧ x 12 (12 * f + q) ≤ 99) ∧ (0 ≤ x 13 (12 * f + q) ∧ x 13 (12 * f + q) ≤ 99)) ∧
  ∀ s : Nat, s < i → (0 ≤ x 5 s ∧ x 5 s ≤ 6) ∧ (x 5 s = 1 → ∃ f : Nat, x 7 s = f ∧ f < F ∧ (0 ≤ x 8 (5 * s) ∧ x 8 (5 * s) ≤ 999) ∧ (0 ≤ x 8 (5 * s + 1) ∧ x 8 (5 * s + 1) ≤ 999) ∧ (0 ≤ x 8 (5 * s + 2) ∧ x 8 (5 * s + 2) ≤ 99)) ∧
  (x 5 s = 2 ∨ x 5 s = 4 ∨ x 5 s = 5 → ∀ q : Nat, q < 4 → 0 ≤ x 8 (5 * s + q) ∧ x 8 (5 * s + q) ≤ 999) ∧ (x 5 s = 3 → ∀ q : Nat, q < 2 → 0 ≤ x 8 (5 * s + q) ∧ x 8 (5 * s + q) ≤ 999) ∧ (x 5 s = 4 → 1 ≤ x 8 (5 * s + 4) ∧ x 8 (5 * s + 4) ≤ 99) ∧
  (x 5 s = 6 → (0 ≤ x 8 (5 * s) ∧ x 8 (5 * s) ≤ 99) ∧ (-999 ≤ x 8 (5 * s + 1) ∧ x 8 (5 * s + 1) ≤ 999) ∧ (-999 ≤ x 8 (5 * s + 2) ∧ x 8 (5 * s + 2) ≤ 999))
/-- nested in order: r depths are left -/
def WN (x : Hp) : Nat → Nat → Nat → Prop
  | 0, a, b => ∀ t : Nat, a ≤ t → t < b → ¬ x 5 t = 6
  | r + 1, a, b => ∀ t : Nat, a ≤ t → t < b → x 5 t = 6 → ∃ e : Nat, x 6 t = e ∧ t ≤ e ∧ e < b ∧ WN x r (t + 1) (e + 1)
theorem acW_i {x : Hp} {F i s : Nat} {w : Q4} (v : PV x F i) (hs : s < i) (c : WH (x 1 0) (x 1 1)) (hw : WI (x 1 0) (x 1 1) w) : WI (x 1 0) (x 1 1) (acW x s w) := by
  by_cases h5 : x 5 s = 5
  · have q := (v.2.2 s hs).2.2.1 (Or.inr (Or.inr h5))
    have e : acW x s w = (max (x 8 (5 * s)) 0, max (x 8 (5 * s + 1)) 1, min (x 8 (5 * s + 2)) (x 1 0), min (x 8 (5 * s + 3)) (x 1 1)) := if_pos h5
    rw [e]
    have q0 : 0 ≤ x 8 (5 * s) ∧ x 8 (5 * s) ≤ 999 := q 0 (by decide)
    have q1 := q 1 (by decide)
    have q2 := q 2 (by decide)
    have q3 := q 3 (by decide)
    obtain ⟨c1, c2⟩ := c
    show (0 ≤ max (x 8 (5 * s)) 0 ∧ max (x 8 (5 * s)) 0 ≤ 999) ∧ (1 ≤ max (x 8 (5 * s + 1)) 1 ∧ max (x 8 (5 * s + 1)) 1 ≤ 999) ∧ (0 ≤ min (x 8 (5 * s + 2)) (x 1 0) ∧ min (x 8 (5 * s + 2)) (x 1 0) ≤ x 1 0) ∧ (0 ≤ min (x 8 (5 * s + 3)) (x 1 1) ∧ min (x 8 (5 * s + 3)) (x 1 1) ≤ x 1 1)
    clear q v hw e
    omega
  · have e : acW x s w = w := if_neg h5
    rw [e]
    exact hw
/-- two states of one script, the first in order -/
def PQ (W H B : Int) (p q : Ps) : Prop := (0 ≤ p.1 ∧ p.1 ≤ 3000) ∧ ((-B ≤ p.2.1 ∧ p.2.1 ≤ B) ∧ (-B ≤ p.2.2.1 ∧ p.2.2.1 ≤ B)) ∧ WI W H p.2.2.2.1 ∧ GI W H p.2.2.2.2 ∧ q.1 = p.1 ∧ q.2.1 = p.2.1 ∧ q.2.2.1 = p.2.2.1 ∧ q.2.2.2.1 = p.2.2.2.1 ∧ GE p.2.2.2.2 q.2.2.2.2
theorem PQ.fl {W H B : Int} {p q : Ps} (h : PQ W H B p q) : flP q = flP p := h.2.2.2.2.2.2.2.2.2.1.symm
theorem PQ.ac {x : Hp} {F i s : Nat} {B : Int} {p q : Ps} (v : PV x F i) (hs : s < i) (c : WH (x 1 0) (x 1 1)) (h : PQ (x 1 0) (x 1 1) B p q) (h3 : ¬ 3000 ≤ p.1) : PQ (x 1 0) (x 1 1) B (acP x s p) (acP x s q) := by
  obtain ⟨a1, a2, a3, a4, e1, e2, e3, e4, e5⟩ := h
  have g := ac_pq (x := x) (s := s) (sx := p.2.1) (sy := p.2.2.1) c a3 a4 e5
  refine ⟨?_, a2, acW_i v hs c a3, g.1, ?_, e2, e3, ?_, ?_⟩
  · show 0 ≤ p.1 + 1 ∧ p.1 + 1 ≤ 3000
    omega
  · show q.1 + 1 = p.1 + 1
    rw [e1]
  · show acW x s q.2.2.2.1 = acW x s p.2.2.2.1
    rw [e4]
  · show GE (acG x s p.2.1 p.2.2.1 p.2.2.2.1 p.2.2.2.2) (acG x s q.2.1 q.2.2.1 q.2.2.2.1 q.2.2.2.2)
    rw [e2, e3, e4]
    exact g.2
theorem PQ.fu {W H B : Int} {p q : Ps} (h : PQ W H B p q) : PQ W H B (fuP p) (fuP q) := by
  obtain ⟨a1, a2, a3, a4, e1, e2, e3, e4, e5⟩ := h
  exact ⟨a1, a2, a3, ⟨a4.1, a4.2.1, Or.inr rfl⟩, e1, e2, e3, e4, e5.1, rfl, e5.2.2⟩
theorem PQ.on {W H B : Int} {p q : Ps} (h : PQ W H B p q) (h3 : ¬ 3000 ≤ p.1) : PQ W H B (onP p) (onP q) := by
  obtain ⟨a1, a2, a3, a4, e1, e2, e3, e4, e5⟩ := h
  refine ⟨?_, a2, a3, a4, ?_, e2, e3, e4, e5⟩
  · show 0 ≤ p.1 + 1 ∧ p.1 + 1 ≤ 3000
    omega
  · show q.1 + 1 = p.1 + 1
    rw [e1]
theorem PQ.sh {W H B dx dy : Int} {p q : Ps} (h : PQ W H B p q) (hx : -999 ≤ dx ∧ dx ≤ 999) (hy : -999 ≤ dy ∧ dy ≤ 999) : PQ W H (B + 999) (shP dx dy p) (shP dx dy q) := by
  obtain ⟨a1, a2, a3, a4, e1, e2, e3, e4, e5⟩ := h
  refine ⟨a1, ?_, a3, a4, e1, ?_, ?_, e4, e5⟩
  · show (-(B + 999) ≤ p.2.1 + dx ∧ p.2.1 + dx ≤ B + 999) ∧ (-(B + 999) ≤ p.2.2.1 + dy ∧ p.2.2.1 + dy ≤ B + 999)
    omega
  · show q.2.1 + dx = p.2.1 + dx
    rw [e2]
  · show q.2.2.1 + dy = p.2.2.1 + dy
    rw [e3]
theorem PQ.bk {W H B C : Int} {p q p' q' : Ps} (h : PQ W H B p q) (k : PQ W H C p' q') : PQ W H B (bkP p p') (bkP q q') := by
  obtain ⟨a1, a2, a3, a4, e1, e2, e3, e4, e5⟩ := h
  obtain ⟨b1, b2, b3, b4, f1, f2, f3, f4, f5⟩ := k
  exact ⟨b1, a2, a3, b4, f1, e2, e3, e4, f5⟩
theorem PQ.wd {W H B C : Int} {p q : Ps} (h : PQ W H B p q) (c : B ≤ C) : PQ W H C p q := by
  obtain ⟨a1, a2, a3⟩ := h
  exact ⟨a1, by omega, a3⟩
/-- the loop of an again -/
theorem PQ.rp {W H : Int} {T : Ps → Ps} {dx dy : Int} (hx : -999 ≤ dx ∧ dx ≤ 999) (hy : -999 ≤ dy ∧ dy ≤ 999) (hT : ∀ (B : Int) (p q : Ps), PQ W H B p q → PQ W H B (T p) (T q)) : ∀ (t : Nat) (B : Int) (p q : Ps), PQ W H B p q → PQ W H (B + 999 * (t : Int)) (rpF T dx dy t p) (rpF T dx dy t q)
  | 0, B, p, q, h => h.wd (by omega)
  | t + 1, B, p, q, h => by
    rw [rpF, rpF, h.fl]
    split
    · exact (PQ.rp hx hy hT t (B + 999) _ _ ((hT B p q h).sh hx hy)).wd (by omega)
    · exact h.wd (by omega)
theorem PQ.pf {x : Hp} {F i a b : Nat} {R : Nat → Ps → Ps} (v : PV x F i) (hb : b ≤ i) (c : WH (x 1 0) (x 1 1)) (hR : ∀ s : Nat, a ≤ s → s < b → x 5 s = 6 → s ≤ (x 6 s).toNat ∧ ∀ (B : Int) (p q : Ps), PQ (x 1 0) (x 1 1) B p q → PQ (x 1 0) (x 1 1) B (R s p) (R s q)) : ∀ (m s : Nat) (B : Int) (p q : Ps), a ≤ s → PQ (x 1 0) (x 1 1) B p q → PQ (x 1 0) (x 1 1) B (pfL x R b m s p) (pfL x R b m s q)
  | 0, s, B, p, q, hs, h => h
  | m + 1, s, B, p, q, hs, h => by
    have e1 : q.1 = p.1 := h.2.2.2.2.1
    rw [pfL, pfL, h.fl, e1]
    split
    · rename_i c1
      split
      · exact h.fu
      · rename_i c3
        split
        · rename_i c6
          have q := hR s hs c1.1 c6
          exact PQ.pf v hb c hR m _ B _ _ (by omega) (q.2 B _ _ (h.on c3))
        · exact PQ.pf v hb c hR m _ B _ _ (by omega) (h.ac v (by omega) c c3)
    · exact h
theorem PQ.rd {x : Hp} {F i : Nat} (v : PV x F i) (c : WH (x 1 0) (x 1 1)) : ∀ (r a b : Nat), WN x r a b → b ≤ i → ∀ s : Nat, a ≤ s → s < b → x 5 s = 6 → s ≤ (x 6 s).toNat ∧ ∀ (B : Int) (p q : Ps), PQ (x 1 0) (x 1 1) B p q → PQ (x 1 0) (x 1 1) B (rpD x r s p) (rpD x r s q)
  | 0, a, b, n, hb, s, h1, h2, h6 => absurd h6 (n s h1 h2)
  | r + 1, a, b, n, hb, s, h1, h2, h6 => by
    obtain ⟨e, e1, e2, e3, n2⟩ := n s h1 h2 h6
    have z := (v.2.2 s (by omega)).2.2.2.2.2 h6
    have et : (x 6 s).toNat = e := by omega
    refine ⟨by omega, fun B p q h => ?_⟩
    rw [rpD, rpD, et]
    exact h.bk (PQ.rp z.2.1 z.2.2 (fun B p q k => PQ.pf v (by omega) c (fun t t1 t2 t6 => PQ.rd v c r _ _ n2 (by omega) t t1 t2 t6) 61 (s + 1) B p q (Nat.le_refl _) k) _ B p q h)
