/-! THE TWO PARSERS, SIDE BY SIDE: x the class's heap of its trace, g the reference's -/
def nmC (v : Int) : Int := if v = 2 then 4 else if v = 3 then 2 else if v = 4 then 5 else if v = 5 then 4 else if v = 6 then 3 else 0
def SRn (x g : Hp) (k : Nat) : Prop := (x 5 k = 1 → g 53 (5 * k) = x 7 k ∧ g 53 (5 * k + 1) = x 8 (5 * k) ∧ g 53 (5 * k + 2) = x 8 (5 * k + 1) ∧ g 53 (5 * k + 3) = x 8 (5 * k + 2)) ∧ (x 5 k ≠ 1 → ∀ q : Nat, (q : Int) < nmC (x 5 k) → g 53 (5 * k + q) = x 8 (5 * k + q))
def SRf (x g : Hp) (k : Nat) : Prop := g 56 k = nmF x k ∧ g 57 k = x 11 k ∧ ∀ q : Nat, (q : Int) < x 11 k → g 58 (12 * k + q) = x 12 (12 * k + q) ∧ g 59 (12 * k + q) = x 13 (12 * k + q)
def SRe (x g : Hp) (k : Nat) : Prop := x 5 k = 6 → (∃ q : Nat, (q : Int) < x 14 4 ∧ x 15 q = k) ∨ g 54 k = x 6 k + 1
def SR (x g : Hp) (n F i : Nat) : Prop := g 3 = x 3 ∧ MX g n ∧ (g 49 18 = i ∧ g 49 24 = F ∧ g 49 22 = x 14 4) ∧ (∀ k : Nat, k < i → g 52 k = x 5 k ∧ SRn x g k ∧ SRe x g k) ∧ (∀ q : Nat, (q : Int) < x 14 4 → g 55 q = x 15 q) ∧ ∀ k : Nat, k < F → SRf x g k
theorem tE_cg {b : Nat → Int} {n p q : Nat} (e : tS b n p = tS b n q) : tE b n p = tE b n q ∧ tK b n p = tK b n q ∧ mK b n p = mK b n q ∧ mW b n p = mW b n q := by
  have k : tK b n p = tK b n q := by unfold tK; rw [e]
  have t : tE b n p = tE b n q := by unfold tE; rw [e, k]
  exact ⟨t, k, by unfold mK; rw [e, k, t], by unfold mW; rw [e, k, t]⟩
theorem MS_cg {x g : Hp} {n : Nat} {s t : Sg} (e : g 3 = x 3) (a : PS x n s) (c : PS x n t) (m : MS g n s) : MS g n t := by
  obtain ⟨m1, m2, m3, m4⟩ := m
  have es : tS (g 3) n s.1 = tS (g 3) n t.1 := by
    rw [e]
    have a1 := a.1.2.1
    have c1 := c.1.2.1
    rw [a1] at c1
    exact Int.ofNat.inj c1
  have q := tE_cg es
  refine ⟨⟨?_, ?_, ?_, ?_⟩, ?_, ?_, c.2.2.2⟩
  · rw [← es]; exact m1.1
  · rw [← q.1]; exact m1.2.1
  · rw [← q.2.2.1]; exact m1.2.2.1
  · rw [← q.2.1, ← q.2.2.2]; exact m1.2.2.2
  · rw [m2, ← a.2.1, c.2.1]
  · rw [m3, ← a.2.2.1, c.2.2.1]
theorem SR.fi {x g : Hp} {n F i : Nat} (r : SR x g n F i) (p : Nat) : fiM g n p F = fiH x n p F := by
  unfold fiM fiH
  rw [r.1]
  exact fiN_cg (fun k _ hk => (r.2.2.2.2.2 k (by omega)).1)
theorem FrD.b {h g : Hp} (f : FrD h g) : g 3 = h 3 := funext fun j => f 3 j (by omega) (by omega)
theorem FrD.mx {h g : Hp} {n : Nat} (f : FrD h g) (t : MX h n) : MX g n := ⟨(f 49 13 (by decide) (by decide)).trans t.1, t.2.1, fun j hj => by rw [f.b, f 50 j (by omega) (by omega)]; exact t.2.2.1 j hj, fun j hj => by rw [f 51 j (by omega) (by omega)]; exact t.2.2.2 j hj⟩
theorem StC.ac {x y : Hp} {n F i : Nat} {s : Sg} (t : StC x y n F i s) : PS y n (acS (x 3) n (fiH x n (tE (x 3) n s.1) F) (x 14 4) i F s) ∧ ((acS (x 3) n (fiH x n (tE (x 3) n s.1) F) (x 14 4) i F s).2.1 = 0 → StG x y n F i (vbF (x 3) n s.1) (tE3 (x 3) n s)) := by
  obtain ⟨-, -, t⟩ := t
  rcases t with ⟨v, p⟩ | ⟨v, w, p⟩ | ⟨v, w, p, good⟩
  · have e : acS (x 3) n (fiH x n (tE (x 3) n s.1) F) (x 14 4) i F s = flS (x 3) n 1 s := if_pos v
    rw [e]
    exact ⟨p, fun z => absurd z (flS_n (by decide))⟩
  · have e : acS (x 3) n (fiH x n (tE (x 3) n s.1) F) (x 14 4) i F s = flS (x 3) n 2 s := by
      unfold acS
      rw [if_neg (show ¬ vbF (x 3) n s.1 < 0 by omega), if_pos w]
    rw [e]
    exact ⟨p, fun z => absurd z (flS_n (by decide))⟩
  · have e : acS (x 3) n (fiH x n (tE (x 3) n s.1) F) (x 14 4) i F s = stS (x 3) n (fiH x n (tE (x 3) n s.1) F) (x 14 4) (vbF (x 3) n s.1) (tE3 (x 3) n s) := by
      unfold acS
      rw [if_neg (show ¬ vbF (x 3) n s.1 < 0 by omega), if_neg w]
    rw [e]
    exact ⟨p, good⟩
theorem SRn.cg {x y g u : Hp} {k : Nat} (r : SRn x g k) (e5 : y 5 k = x 5 k) (e7 : y 7 k = x 7 k) (e8 : ∀ q : Nat, q < 5 → y 8 (5 * k + q) = x 8 (5 * k + q)) (e53 : ∀ q : Nat, q < 5 → u 53 (5 * k + q) = g 53 (5 * k + q)) : SRn y u k := by
  refine ⟨fun z => ?_, fun z q hq => ?_⟩
  · rw [e5] at z
    have := r.1 z
    have a0 := e53 0 (by decide)
    have b0 := e8 0 (by decide)
    rw [Nat.add_zero] at a0 b0
    rw [a0, e53 1 (by decide), e53 2 (by decide), e53 3 (by decide), b0, e8 1 (by decide), e8 2 (by decide), e7]
    exact this
  · rw [e5] at z hq
    have q5 : q < 5 := by
      unfold nmC at hq
      repeat' split at hq
      all_goals omega
    rw [e53 q q5, e8 q q5]
    exact r.2 z q hq
theorem SRf.cg {x y g u : Hp} {k : Nat} (r : SRf x g k) (e3 : y 3 = x 3) (e9 : y 9 k = x 9 k) (e10 : y 10 k = x 10 k) (e11 : y 11 k = x 11 k) (hc : x 11 k ≤ 12) (e12 : ∀ q : Nat, q < 12 → y 12 (12 * k + q) = x 12 (12 * k + q) ∧ y 13 (12 * k + q) = x 13 (12 * k + q)) (e56 : u 56 k = g 56 k) (e57 : u 57 k = g 57 k) (e58 : ∀ q : Nat, q < 12 → u 58 (12 * k + q) = g 58 (12 * k + q) ∧ u 59 (12 * k + q) = g 59 (12 * k + q)) : SRf y u k := by
  refine ⟨?_, ?_, fun q hq => ?_⟩
  · rw [e56, r.1]
    unfold nmF
    rw [e3, e9, e10]
  · rw [e57, e11]
    exact r.2.1
  · rw [e11] at hq
    have q12 : q < 12 := by omega
    rw [(e58 q q12).1, (e58 q q12).2, (e12 q q12).1, (e12 q q12).2]
    exact r.2.2 q hq
/-- the points of every form are at most twelve -/
abbrev F12 (x : Hp) (F : Nat) : Prop := ∀ k : Nat, k < F → 0 ≤ x 11 k ∧ x 11 k ≤ 12
theorem SR.step {x y g u : Hp} {n F i : Nat} {s : Sg} (r : SR x g n F i) (c12 : F12 x F) (o0 : 0 ≤ x 14 4) (hF : x 4 1 = F) (e3 : y 3 = x 3) (fd : FrD g u) (t : StG x y n F i (vbF (x 3) n s.1) (tE3 (x 3) n s)) (m : MtG g u n F i (vbF (x 3) n s.1) (tE3 (x 3) n s)) : ∃ F2 : Nat, SR y u n F2 (i + 1) ∧ F12 y F2 ∧ y 4 1 = F2 := by
  obtain ⟨r3, rx, ⟨r18, r24, r22⟩, ra, ro, rf⟩ := r
  obtain ⟨ta, t0, tf, to, tv⟩ := t
  obtain ⟨ma, m0, mf, mo, mv⟩ := m
  have fi : ∀ p : Nat, fiM g n p F = fiH x n p F := fun p => SR.fi (i := i) ⟨r3, rx, ⟨r18, r24, r22⟩, ra, ro, rf⟩ p
  have u3 : u 3 = y 3 := by rw [fd.b, r3, e3]
  generalize vbF (x 3) n s.1 = v at *
  generalize tE3 (x 3) n s = w at *
  have open_ : u 49 22 = y 14 4 ∧ (∀ q : Nat, (q : Int) < y 14 4 → u 55 q = y 15 q) ∧ (∀ k : Nat, (∃ q : Nat, (q : Int) < x 14 4 ∧ x 15 q = k) → ∃ q : Nat, (q : Int) < y 14 4 ∧ y 15 q = k) ∧ (v = 6 → ∃ q : Nat, (q : Int) < y 14 4 ∧ y 15 q = i) := by
    by_cases v6 : v = 6
    · obtain ⟨-, a1, a2, a3⟩ := tv.2.2.2.2.2 v6
      obtain ⟨-, b1, b2, b3⟩ := mv.2.2.2.2.2 v6
      rw [r22] at b1 b2 b3
      clear tv mv t0 tf to m0 mf mo ma ta ra rf
      refine ⟨by rw [b2, a2], fun q hq => ?_, fun k hk => ?_, fun _ => ?_⟩
      · by_cases e : q = (x 14 4).toNat
        · rw [e, a1, b1]
        · rw [a3 q e, b3 q e]
          exact ro q (by omega)
      · obtain ⟨q, q1, q2⟩ := hk
        exact ⟨q, by omega, by rw [a3 q (by omega)]; exact q2⟩
      · exact ⟨(x 14 4).toNat, by omega, a1⟩
    · obtain ⟨a1, a2⟩ := to v6
      obtain ⟨b1, b2⟩ := mo v6
      refine ⟨by rw [b1, a1]; exact r22, fun q hq => ?_, fun k hk => ?_, fun z => absurd z v6⟩
      · rw [b2 q, a2 q]
        rw [a1] at hq
        exact ro q hq
      · obtain ⟨q, q1, q2⟩ := hk
        exact ⟨q, by rw [a1]; exact q1, by rw [a2]; exact q2⟩
  have y5 := ta.2.2.2.1
  have acts : ∀ k : Nat, k < i + 1 → u 52 k = y 5 k ∧ SRn y u k ∧ SRe y u k := fun k hk => by
    by_cases e : k = i
    · subst e
      refine ⟨by rw [ma.2.2.1, y5], ⟨fun z => ?_, fun z q hq => ?_⟩, fun z => ?_⟩
      · rw [y5] at z
        obtain ⟨a0, a1, a2, a3⟩ := mv.1 z
        obtain ⟨b0, b1, b2, b3⟩ := tv.1 z
        rw [a0, a1, a2, a3, b0, b1, b2, b3, r3, fi]
        exact ⟨rfl, rfl, rfl, rfl⟩
      · rw [y5] at z hq
        by_cases z2 : v = 2
        · have h4 : q < 4 := by
            rw [z2, show nmC 2 = 4 from rfl] at hq
            clear tv mv t0 tf to m0 mf mo ma ta ra rf
            omega
          rw [mv.2.1 z2 q h4, tv.2.1 z2 q h4, r3]
        by_cases z3 : v = 3
        · have h4 : q < 2 := by
            rw [z3, show nmC 3 = 2 from rfl] at hq
            clear tv mv t0 tf to m0 mf mo ma ta ra rf
            omega
          rw [mv.2.2.1 z3 q h4, tv.2.2.1 z3 q h4, r3]
        by_cases z4 : v = 4
        · have h4 : q < 4 ∨ q = 4 := by
            rw [z4, show nmC 4 = 5 from rfl] at hq
            clear tv mv t0 tf to m0 mf mo ma ta ra rf
            omega
          rcases h4 with h4 | h4
          · rw [(mv.2.2.2.1 z4).1 q h4, (tv.2.2.2.1 z4).1 q h4, r3]
          · rw [h4, (mv.2.2.2.1 z4).2, (tv.2.2.2.1 z4).2, r3]
        by_cases z5 : v = 5
        · have h4 : q < 4 := by
            rw [z5, show nmC 5 = 4 from rfl] at hq
            clear tv mv t0 tf to m0 mf mo ma ta ra rf
            omega
          rw [mv.2.2.2.2.1 z5 q h4, tv.2.2.2.2.1 z5 q h4, r3]
        by_cases z6 : v = 6
        · have h4 : q < 3 := by
            rw [z6, show nmC 6 = 3 from rfl] at hq
            clear tv mv t0 tf to m0 mf mo ma ta ra rf
            omega
          rw [(mv.2.2.2.2.2 z6).1 q h4, (tv.2.2.2.2.2 z6).1 q h4, r3]
        · have h0 : nmC v = 0 := by
            unfold nmC
            rw [if_neg z2, if_neg z3, if_neg z4, if_neg z5, if_neg z6]
          rw [h0] at hq
          exact absurd hq (Int.not_lt.mpr (Int.natCast_nonneg q))
      · rw [y5] at z
        exact Or.inl (open_.2.2.2 z)
    · have hk2 : k < i := Nat.lt_of_le_of_ne (Nat.le_of_lt_succ hk) e
      obtain ⟨p1, p2, p3⟩ := ra k hk2
      have n1 := ta.2.1 k e
      have n3 := ma.2.2.2.1
      have n4 := ta.2.2.1
      have n5 := ma.2.1 k e
      have n6 := ma.2.2.2.2 k
      have op := open_.2.2.1 k
      clear tv mv t0 tf to m0 mf mo ma ta ra rf open_
      refine ⟨by rw [n5, n1.1]; exact p1, p2.cg n1.1 n1.2.2 (fun q hq => n4 _ (by omega)) (fun q hq => n3 _ (by omega)), fun z => ?_⟩
      rw [n1.1] at z
      rcases p3 z with y | y
      · exact Or.inl (op y)
      · right
        rw [n6, n1.2.1]
        exact y
  have reg : u 49 18 = ((i + 1 : Nat) : Int) := by rw [ma.1]; rfl
  by_cases v0 : v = 0
  · obtain ⟨⟨a1, a2, a3⟩, ⟨a4, a5⟩, a6, a7⟩ := t0 v0
    obtain ⟨⟨b1, b2, b3⟩, b5, b6, b7⟩ := m0 v0
    rw [r3, fi] at b3
    rw [r3] at b2
    have sc := (sq_st (b := x 3) (n := n) (s := ffS (x 3) n (fiH x n w.1 F) w) 12).1
    clear tv mv t0 tf to m0 mf mo ma ta ra
    refine ⟨F + 1, ⟨u3, fd.mx rx, ⟨reg, by rw [b1]; rfl, open_.1⟩, acts, open_.2.1, fun k hk => ?_⟩, fun k hk => ?_, by rw [a1]; rfl⟩
    · by_cases e : k = F
      · subst e
        refine ⟨?_, by rw [b3, a4], fun q hq => ?_⟩
        · rw [b2]
          unfold nmF
          rw [a2, a3, e3, Int.toNat_natCast, Int.toNat_natCast]
        · rw [a4] at hq
          have hq := Int.ofNat_lt.mp hq
          have a := a5 q hq
          have bq := b5 q (by rw [r3, fi]; exact hq)
          rw [r3, fi] at bq
          rw [bq.1, bq.2, a.1, a.2]
          exact ⟨rfl, rfl⟩
      · have hk2 : k < F := Nat.lt_of_le_of_ne (Nat.le_of_lt_succ hk) e
        exact (rf k hk2).cg e3 (a6 k e).1 (a6 k e).2.1 (a6 k e).2.2 (c12 k hk2).2 (fun q hq => a7 _ (by clear acts open_ rf; omega)) (b6 k e).1 (b6 k e).2 (fun q hq => b7 _ (by clear acts open_ rf; omega))
    · by_cases e : k = F
      · rw [e, a4]
        clear acts open_ rf
        omega
      · rw [(a6 k e).2.2]
        exact c12 k (Nat.lt_of_le_of_ne (Nat.le_of_lt_succ hk) e)
  · obtain ⟨a1, a2⟩ := tf v0
    obtain ⟨b1, b2⟩ := mf v0
    refine ⟨F, ⟨u3, fd.mx rx, ⟨reg, by rw [b1]; exact r24, open_.1⟩, acts, open_.2.1, fun k hk => ?_⟩, fun k hk => by rw [a2 11 k (by decide) (by decide)]; exact c12 k hk, a1.trans hF⟩
    exact (rf k hk).cg e3 (a2 9 k (by decide) (by decide)) (a2 10 k (by decide) (by decide)) (a2 11 k (by decide) (by decide)) (c12 k hk).2 (fun q _ => ⟨a2 12 _ (by decide) (by decide), a2 13 _ (by decide) (by decide)⟩) (b2 56 k (by decide) (by decide)) (b2 57 k (by decide) (by decide)) (fun q _ => ⟨b2 58 _ (by decide) (by decide), b2 59 _ (by decide) (by decide)⟩)
theorem SR.close {x y g u : Hp} {n F i : Nat} {s : Sg} (r : SR x g n F i) (c12 : F12 x F) (o0 : 0 < x 14 4) (hi : x 4 0 = i) (fd : FrD g u) (t : ClS x y n s) (m : MtC g u) : SR y u n F i ∧ F12 y F := by
  obtain ⟨r3, rx, ⟨r18, r24, r22⟩, ra, ro, rf⟩ := r
  obtain ⟨fb, -, t1, t2, t3, t4⟩ := t
  obtain ⟨m1, m2, m3, m4, m5, m6⟩ := m
  have e3 : y 3 = x 3 := funext fun j => fb 3 j (by omega)
  have u3 : u 3 = y 3 := by rw [fd.b, r3, e3]
  have eo : g 55 (g 49 22 - 1).toNat = x 15 (x 14 4 - 1).toNat := by
    rw [r22]
    exact ro _ (by omega)
  rw [eo] at m4 m5
  refine ⟨⟨u3, fd.mx rx, ⟨m1.trans r18, m2.trans r24, by rw [m3, t1, r22]⟩, fun k hk => ?_, fun q hq => ?_, fun k hk => ?_⟩, fun k hk => ?_⟩
  · obtain ⟨p1, p2, p3⟩ := ra k hk
    have q5 := t4 5 k (by omega)
    refine ⟨by rw [m6 52 k (by omega), q5]; exact p1, p2.cg q5 (t4 7 k (by omega)) (fun q _ => t4 8 _ (by omega)) (fun q _ => m6 53 _ (by omega)), fun z => ?_⟩
    rw [q5] at z
    by_cases e : k = (x 15 (x 14 4 - 1).toNat).toNat
    · right
      rw [e, m4, t3, r18, hi]
      omega
    · rw [t2 k e, m5 k e]
      rcases p3 z with ⟨q, q1, q2⟩ | y
      · refine Or.inl ⟨q, ?_, by rw [t4 15 q (by omega)]; exact q2⟩
        by_cases e2 : q = (x 14 4 - 1).toNat
        · rw [e2] at q2
          rw [q2, Int.toNat_natCast] at e
          exact absurd rfl e
        · clear ra ro rf
          omega
      · exact Or.inr y
  · rw [m6 55 q (by omega), t4 15 q (by omega)]
    exact ro q (by omega)
  · exact (rf k hk).cg e3 (t4 9 k (by omega)) (t4 10 k (by omega)) (t4 11 k (by omega)) (c12 k hk).2 (fun q _ => ⟨t4 12 _ (by omega), t4 13 _ (by omega)⟩) (m6 56 k (by omega)) (m6 57 k (by omega)) (fun q _ => ⟨m6 58 _ (by omega), m6 59 _ (by omega)⟩)
  · rw [t4 11 k (by omega)]
    exact c12 k hk
