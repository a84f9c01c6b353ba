/-! WHAT THE READING LEAVES: a script in order, nested in order -/
theorem sqC_1 {b : Nat → Int} {n : Nat} {s : Sg} (h : s.2.1 = 0) : ∀ j : Nat, 1 ≤ sqC b n s (j + 1)
  | 0 => by
    rw [sqC, if_pos (show ptP b n 0 (sqS b n s 0) from ⟨h, Or.inl rfl⟩)]
    omega
  | j + 1 => by
    have i := sqC_1 (b := b) (n := n) h j
    rw [sqC]
    split <;> omega
theorem fp_0 {b : Nat → Int} {n : Nat} {fi : Int} {s : Sg} (h : (fpS b n fi s).2.1 = 0) (h0 : s.2.1 = 0) : 0 ≤ fi := by
  unfold fpS at h
  rw [if_pos h0] at h
  by_cases c : nmP b n s.1
  · rw [if_pos c] at h
    by_cases e : 0 ≤ fi
    · exact e
    · rw [if_neg e] at h
      exact absurd (show (4 : Int) = 0 from h) (by decide)
  · rw [if_neg c] at h
    exact absurd (show (1 : Int) = 0 from h) (by decide)
abbrev PVs (x : Hp) (F s : Nat) : Prop := (0 ≤ x 5 s ∧ x 5 s ≤ 6) ∧ (x 5 s = 1 → ∃ f : Nat, x 7 s = f ∧ f < F ∧ (0 ≤ x 8 (5 * s) ∧ x 8 (5 * s) ≤ 999) ∧ (0 ≤ x 8 (5 * s + 1) ∧ x 8 (5 * s + 1) ≤ 999) ∧ (0 ≤ x 8 (5 * s + 2) ∧ x 8 (5 * s + 2) ≤ 99)) ∧
  (x 5 s = 2 ∨ x 5 s = 4 ∨ x 5 s = 5 → ∀ q : Nat, q < 4 → 0 ≤ x 8 (5 * s + q) ∧ x 8 (5 * s + q) ≤ 999) ∧ (x 5 s = 3 → ∀ q : Nat, q < 2 → 0 ≤ x 8 (5 * s + q) ∧ x 8 (5 * s + q) ≤ 999) ∧ (x 5 s = 4 → 1 ≤ x 8 (5 * s + 4) ∧ x 8 (5 * s + 4) ≤ 99) ∧
  (x 5 s = 6 → (0 ≤ x 8 (5 * s) ∧ x 8 (5 * s) ≤ 99) ∧ (-999 ≤ x 8 (5 * s + 1) ∧ x 8 (5 * s + 1) ≤ 999) ∧ (-999 ≤ x 8 (5 * s + 2) ∧ x 8 (5 * s + 2) ≤ 999))
theorem PVs.cg {y z : Hp} {F F2 s : Nat} (p : PVs y F s) (e5 : z 5 s = y 5 s) (e7 : z 7 s = y 7 s) (e8 : ∀ q : Nat, q < 5 → z 8 (5 * s + q) = y 8 (5 * s + q)) (hF : F ≤ F2) : PVs z F2 s := by
  obtain ⟨a1, a2, a3, a4, a5, a6⟩ := p
  have e0 : z 8 (5 * s) = y 8 (5 * s) := e8 0 (by decide)
  unfold PVs
  rw [e5, e7, e0, e8 1 (by decide), e8 2 (by decide), e8 4 (by decide)]
  refine ⟨a1, fun h => ?_, fun h q hq => ?_, fun h q hq => ?_, a5, a6⟩
  · obtain ⟨f, f1, f2, f3⟩ := a2 h
    exact ⟨f, f1, by omega, f3⟩
  · rw [e8 q (by omega)]
    exact a3 h q hq
  · rw [e8 q (by omega)]
    exact a4 h q hq
theorem PV.step {y z : Hp} {n F F2 i : Nat} {v : Int} {t : Sg} (p : PV y F i) (hv : 0 ≤ v ∧ v ≤ 6) (hi : i + 1 ≤ 60) (hF2 : z 4 1 = F2 ∧ F2 ≤ 8) (hF : y 4 1 = F) (t0 : t.2.1 = 0) (hz : (stS (y 3) n (fiH y n t.1 F) (y 14 4) v t).2.1 = 0) (g : StG y z n F i v t) : PV z F2 (i + 1) := by
  obtain ⟨ga, g0, gf, go, gv⟩ := g
  obtain ⟨p1, p2, p3⟩ := p
  have FF : F2 = F + 1 ∧ v = 0 ∨ F2 = F ∧ ¬ v = 0 := by
    by_cases v0 : v = 0
    · have := (g0 v0).1.1
      clear g0 gf go gv ga p2 p3
      omega
    · have := (gf v0).1
      clear g0 gf go gv ga p2 p3
      omega
  have le : F ≤ F2 := by clear g0 gf go gv ga p2 p3; omega
  refine ⟨⟨hF2.2, hi⟩, fun f hf => ?_, fun s hs => ?_⟩
  · by_cases v0 : v = 0
    · obtain ⟨-, ⟨k1, k2⟩, k3, k4⟩ := g0 v0
      by_cases e : f = F
      · have st : stS (y 3) n (fiH y n t.1 F) (y 14 4) v t = siS (y 3) n 59 (foS (y 3) n (fiH y n t.1 F) t) := if_pos v0
        rw [st] at hz
        have f0 := (fo_0 (siS_0 hz)).1
        have c1 := sqC_1 (b := y 3) (n := n) f0 11
        have c2 := (sq_st (b := y 3) (n := n) (s := ffS (y 3) n (fiH y n t.1 F) t) 12).1
        rw [e]
        refine ⟨_, k1, ⟨c1, c2⟩, fun q hq => ?_⟩
        rw [(k2 q hq).1, (k2 q hq).2]
        exact ⟨nuV_r (by decide) (by decide), nuV_r (by decide) (by decide)⟩
      · have lt : f < F := by clear g0 gf go gv ga p2 p3 k1 k2 k3 k4; omega
        obtain ⟨c, c1, c2, c3⟩ := p2 f lt
        refine ⟨c, (k3 f e).2.2.trans c1, c2, fun q hq => ?_⟩
        have w := k4 (12 * f + q) (by clear g0 gf go gv ga p2 p3 k1 k2 k3 k4 c3; omega)
        rw [w.1, w.2]
        exact c3 q hq
    · obtain ⟨-, k2⟩ := gf v0
      obtain ⟨c, c1, c2, c3⟩ := p2 f (by clear g0 gf go gv ga p2 p3 k2; omega)
      refine ⟨c, (k2 11 f (by decide) (by decide)).trans c1, c2, fun q hq => ?_⟩
      rw [k2 12 _ (by decide) (by decide), k2 13 _ (by decide) (by decide)]
      exact c3 q hq
  · by_cases e : s = i
    · subst e
      obtain ⟨v1, v2, v3, v4, v5, v6⟩ := gv
      have e5 : z 5 s = v := ga.2.2.2.1
      rw [e5]
      have n9 : ∀ (t : Sg), 0 ≤ nuV (y 3) n 0 999 t ∧ nuV (y 3) n 0 999 t ≤ 999 := fun t => nuV_r (by decide) (by decide)
      refine ⟨hv, fun h => ?_, fun h q hq => ?_, fun h q hq => ?_, fun h => ?_, fun h => ?_⟩
      · obtain ⟨w1, w2, w3, w4⟩ := v1 h
        have st : stS (y 3) n (fiH y n t.1 F) (y 14 4) v t = siS (y 3) n 59 (puS (y 3) n (fiH y n t.1 F) t) := by rw [h]; rfl
        rw [st] at hz
        have f0 := fp_0 (nkS_0 (nuS_0 (siS_0 hz))) t0
        have fr := fiN_r (g := nmF y) (z := pkF (y 3) (tS (y 3) n t.1) (tE (y 3) n t.1)) (n := F) (j := 0)
        have fr2 : fiH y n t.1 F < F := by
          unfold fiH
          clear v1 v2 v3 v4 v5 v6 g0 gf go ga p2 p3
          omega
        refine ⟨(fiH y n t.1 F).toNat, ?_, ?_, ?_, ?_, ?_⟩
        · rw [w1, Int.toNat_of_nonneg f0]
        · clear v1 v2 v3 v4 v5 v6 g0 gf go ga p2 p3 fr
          omega
        · rw [w2]; exact n9 _
        · rw [w3]; exact n9 _
        · rw [w4]; exact nuV_r (by decide) (by decide)
      · rcases h with h | h | h
        · rw [v2 h q hq]; exact n9 _
        · rw [(v4 h).1 q hq]; exact n9 _
        · rw [v5 h q hq]
          match q, hq with
          | 0, _ => exact n9 _
          | 1, _ => exact n9 _
          | 2, _ => exact n9 _
          | 3, _ => exact n9 _
      · rw [v3 h q hq]; exact n9 _
      · rw [(v4 h).2]
        have st : stS (y 3) n (fiH y n t.1 F) (y 14 4) v t = siS (y 3) n 59 (nuS (y 3) n 1 99 (nkS (y 3) n t 4)) := by rw [h]; rfl
        rw [st] at hz
        exact ⟨nuV_lo (siS_0 hz), (nuV_r (by decide) (by decide)).2⟩
      · obtain ⟨w, -, -, -⟩ := v6 h
        have w0 : z 8 (5 * s) = arV (y 3) n t 0 := w 0 (by decide)
        rw [w0, w 1 (by decide), w 2 (by decide)]
        exact ⟨nuV_r (by decide) (by decide), sdV_r, sdV_r⟩
    · have lt : s < i := by clear g0 gf go gv ga p2 p3; omega
      have k := ga.2.1 s e
      have k8 := ga.2.2.1
      exact PVs.cg (F := F) (F2 := F2) (p3 s lt) k.1 k.2.2 (fun q hq => k8 _ (by clear g0 gf go gv ga p2 p3 k8; omega)) le
/-- nesting while agains are open -/
def bsN (y : Hp) : Nat → Nat
  | 0 => 0
  | j + 1 => (y 15 j).toNat + 1
def NI (y : Hp) (i : Nat) : Prop := ∃ k : Nat, y 14 4 = k ∧ k ≤ 5 ∧ (∀ j : Nat, j < k → ∃ o : Nat, y 15 j = o ∧ o < i ∧ y 5 o = 6 ∧ bsN y j ≤ o ∧ WN y (5 - j) (bsN y j) o) ∧ bsN y k ≤ i ∧ WN y (5 - k) (bsN y k) i
theorem WN.nil {y : Hp} : ∀ {r a b : Nat}, b ≤ a → WN y r a b
  | 0, a, b, h => fun t h1 h2 => by omega
  | r + 1, a, b, h => fun t h1 h2 => by omega
theorem WN.up {y : Hp} : ∀ {r a b : Nat}, WN y r a b → WN y (r + 1) a b
  | 0, a, b, n => fun t h1 h2 h6 => absurd h6 (n t h1 h2)
  | r + 1, a, b, n => fun t h1 h2 h6 => by
    obtain ⟨e, e1, e2, e3, e4⟩ := n t h1 h2 h6
    exact ⟨e, e1, e2, e3, WN.up e4⟩
theorem WN.sn {y : Hp} {i : Nat} (h : ¬ y 5 i = 6) : ∀ {r a : Nat}, WN y r a i → WN y r a (i + 1)
  | 0, a, n => fun t h1 h2 => by
    by_cases e : t = i
    · rw [e]; exact h
    · exact n t h1 (by omega)
  | r + 1, a, n => fun t h1 h2 h6 => by
    by_cases e : t = i
    · rw [e] at h6; exact absurd h6 h
    · obtain ⟨e, e1, e2, e3, e4⟩ := n t h1 (by omega) h6
      exact ⟨e, e1, e2, by omega, e4⟩
theorem WN.jn {y z : Hp} {r a o e : Nat} (h5 : ∀ t : Nat, z 5 t = y 5 t) (h6 : ∀ t : Nat, t ≠ o → z 6 t = y 6 t) (he : z 6 o = e) (hoe : o ≤ e) (n1 : WN y (r + 1) a o) (n2 : WN y r (o + 1) (e + 1)) : WN z (r + 1) a (e + 1) := fun t h1 h2 h => by
  rw [h5] at h
  by_cases c : t = o
  · subst c
    exact ⟨e, he, hoe, by omega, n2.cg (fun q q1 q2 => ⟨h5 q, h6 q (by omega)⟩)⟩
  · rcases Nat.lt_or_ge t o with l | l
    · obtain ⟨b, b1, b2, b3, b4⟩ := n1 t h1 l h
      exact ⟨b, (h6 t c).trans b1, b2, by omega, b4.cg (fun q q1 q2 => ⟨h5 q, h6 q (by omega)⟩)⟩
    · match r, n2 with
      | 0, n2 => exact absurd h (n2 t (by omega) h2)
      | r + 1, n2 =>
        obtain ⟨b, b1, b2, b3, b4⟩ := n2 t (by omega) h2 h
        exact ⟨b, (h6 t c).trans b1, b2, b3, (b4.up).cg (fun q q1 q2 => ⟨h5 q, h6 q (by omega)⟩)⟩
theorem bsN_cg {y z : Hp} {k : Nat} (e : ∀ j : Nat, j < k → z 15 j = y 15 j) : ∀ j : Nat, j ≤ k → bsN z j = bsN y j
  | 0, _ => rfl
  | j + 1, h => by rw [bsN, bsN, e j (by omega)]
theorem NI.step {y z : Hp} {n F i : Nat} {v : Int} {t : Sg} (q : NI y i) (g : StG y z n F i v t) (ho : z 14 4 ≤ 5) : NI z (i + 1) := by
  obtain ⟨ga, -, -, go, gv⟩ := g
  obtain ⟨k, k1, k2, k3, k4, k5⟩ := q
  have y5 := ga.2.2.2.1
  have ag : ∀ t : Nat, t < i → z 5 t = y 5 t ∧ z 6 t = y 6 t := fun t ht => by
    have w := ga.2.1 t (by omega)
    exact ⟨w.1, w.2.1⟩
  by_cases v6 : v = 6
  · obtain ⟨-, w1, w2, w3⟩ := gv.2.2.2.2.2 v6
    have ek : (y 14 4).toNat = k := by omega
    rw [ek] at w1 w3
    have cg : ∀ j : Nat, j < k → z 15 j = y 15 j := fun j hj => w3 j (by omega)
    have b := bsN_cg cg
    refine ⟨k + 1, by rw [w2, k1]; rfl, by clear gv go ga; omega, fun j hj => ?_, ?_, ?_⟩
    · by_cases e : j = k
      · subst e
        refine ⟨i, w1, by omega, by rw [y5, v6], ?_, ?_⟩
        · rw [b j (Nat.le_refl _)]; exact k4
        · rw [b j (Nat.le_refl _)]
          exact k5.cg (fun t t1 t2 => ag t t2)
      · have lt : j < k := by omega
        obtain ⟨o, o1, o2, o3, o4, o5⟩ := k3 j lt
        refine ⟨o, (cg j lt).trans o1, by omega, (ag o o2).1.trans o3, ?_, ?_⟩
        · rw [b j (by omega)]; exact o4
        · rw [b j (by omega)]
          exact o5.cg (fun t t1 t2 => ag t (by omega))
    · rw [bsN, w1]
      omega
    · rw [bsN, w1]
      exact WN.nil (by omega)
  · obtain ⟨w1, w2⟩ := go v6
    have b := bsN_cg (k := k) (fun j _ => w2 j)
    refine ⟨k, w1.trans k1, k2, fun j hj => ?_, ?_, ?_⟩
    · obtain ⟨o, o1, o2, o3, o4, o5⟩ := k3 j hj
      refine ⟨o, (w2 j).trans o1, by omega, (ag o o2).1.trans o3, ?_, ?_⟩
      · rw [b j (by omega)]; exact o4
      · rw [b j (by omega)]
        exact o5.cg (fun t t1 t2 => ag t (by omega))
    · rw [b k (Nat.le_refl _)]
      omega
    · rw [b k (Nat.le_refl _)]
      exact WN.sn (by rw [y5]; exact v6) (k5.cg (fun t t1 t2 => ag t t2))
theorem NI.mn {y : Hp} {i k : Nat} (k3 : ∀ j : Nat, j < k → ∃ o : Nat, y 15 j = o ∧ o < i ∧ y 5 o = 6 ∧ bsN y j ≤ o ∧ WN y (5 - j) (bsN y j) o) (j : Nat) : ∀ d : Nat, j + d + 1 < k → y 15 j < y 15 (j + d + 1)
  | 0, h => by
    obtain ⟨o, o1, -⟩ := k3 j (by omega)
    obtain ⟨p, p1, -, -, p4, -⟩ := k3 (j + 0 + 1) h
    rw [Nat.add_zero] at p1 p4 ⊢
    rw [bsN, o1, Int.toNat_natCast] at p4
    rw [o1, p1]
    omega
  | d + 1, h => by
    have q := NI.mn k3 j d (by omega)
    obtain ⟨o, o1, -⟩ := k3 (j + d + 1) (by omega)
    obtain ⟨p, p1, -, -, p4, -⟩ := k3 (j + (d + 1) + 1) h
    have e : j + (d + 1) + 1 = (j + d + 1) + 1 := by omega
    rw [e] at p1 p4 ⊢
    rw [bsN, o1, Int.toNat_natCast] at p4
    rw [o1] at q
    rw [p1]
    omega
theorem NI.close {y z : Hp} {n i : Nat} {s : Sg} (q : NI y i) (h0 : 0 < y 14 4) (hi : y 4 0 = i) (t : ClS y z n s) : NI z i := by
  obtain ⟨-, -, t1, t2, t3, t4⟩ := t
  obtain ⟨k, k1, k2, k3, k4, k5⟩ := q
  obtain ⟨k, rfl⟩ : ∃ q, k = q + 1 := ⟨k - 1, by omega⟩
  obtain ⟨o, o1, o2, o3, o4, o5⟩ := k3 k (by omega)
  have ek : (y 14 4 - 1).toNat = k := by omega
  rw [ek, o1, Int.toNat_natCast] at t2 t3
  have h5 : ∀ t : Nat, z 5 t = y 5 t := fun t => t4 5 t (by omega)
  have h15 : ∀ t : Nat, z 15 t = y 15 t := fun t => t4 15 t (by omega)
  have b := bsN_cg (y := y) (z := z) (k := k) (fun j _ => h15 j)
  refine ⟨k, by rw [t1, k1]; omega, by omega, fun j hj => ?_, ?_, ?_⟩
  · obtain ⟨p, p1, p2, p3, p4, p5⟩ := k3 j (by omega)
    have m := NI.mn k3 j (k - j - 1) (by omega)
    rw [show j + (k - j - 1) + 1 = k by omega, p1, o1] at m
    refine ⟨p, (h15 j).trans p1, p2, (h5 p).trans p3, ?_, ?_⟩
    · rw [b j (by omega)]; exact p4
    · rw [b j (by omega)]
      exact p5.cg (fun t _ t9 => ⟨h5 t, t2 t (by omega)⟩)
  · rw [b k (Nat.le_refl _)]
    omega
  · rw [b k (Nat.le_refl _)]
    rw [bsN, o1, Int.toNat_natCast] at k5
    have e : 5 - k = (5 - (k + 1)) + 1 := by omega
    rw [e] at o5 ⊢
    have w := WN.jn (e := i - 1) h5 t2 (by rw [t3, hi]; omega) (by omega) o5 (by rw [show i - 1 + 1 = i by omega]; exact k5)
    rw [show i - 1 + 1 = i by omega] at w
    exact w
theorem rch_0 {n : Nat} : ∀ {m : Nat} {x g : Hp} {s : Sg}, Rch n m x g → PS g n s → s.2.1 = 0 → x 14 2 = 0
  | 0, x, g, s, r, p, z => by
    have r : g = x := r
    rw [← r]
    exact p.2.1.trans z
  | m + 1, x, g, s, ⟨_, ⟨s3, _, _, c3, s3z, _⟩, _⟩, p, z => c3.1.2.1.2.1.trans s3z
theorem rch_pn {n : Nat} : ∀ {m : Nat} {y g : Hp} {s sg : Sg} {F i Fg ig : Nat}, Rch n m y g → CI y n s F i → PV y F i → NI y i → CI g n sg Fg ig → sg.2.1 = 0 → PV g Fg ig ∧ NI g ig
  | 0, y, g, s, sg, F, i, Fg, ig, r, c, p, q, cg, z => by
    have r : g = y := r
    subst r
    have eF : Fg = F := Int.ofNat.inj (cg.2.1.1.symm.trans c.2.1.1)
    have ei : ig = i := Int.ofNat.inj (cg.2.2.1.1.symm.trans c.2.2.1.1)
    rw [eF, ei]
    exact ⟨p, q⟩
  | m + 1, y, g, s, sg, F, i, Fg, ig, ⟨x1, ⟨s', F', i', c', s0, hk, st⟩, r⟩, c, p, q, cg, z => by
    have eF : F' = F := Int.ofNat.inj (c'.2.1.1.symm.trans c.2.1.1)
    have ei : i' = i := Int.ofNat.inj (c'.2.2.1.1.symm.trans c.2.2.1.1)
    subst eF
    subst ei
    have x0 := rch_0 r cg.1.2.1 z
    rcases st with ⟨-, ho, cl⟩ | ⟨-, st⟩
    · have nx := cl.next c' hk ho
      refine rch_pn r nx.1 (p.cg (fun a ha => funext fun j => cl.2.2.2.2.2 a j (by omega))) (q.close ho c'.2.2.1.1 cl) cg z
    · obtain ⟨s2, b2, n2⟩ := st.next c' s0 hk
      have z2 : s2.2.1 = 0 := b2.2.1.2.1.symm.trans x0
      obtain ⟨-, F3, i3, c3⟩ := n2 z2
      obtain ⟨fb, ob, st⟩ := st
      rcases st with ⟨-, p9⟩ | ⟨-, -, p9⟩ | ⟨v0, -, p9, good⟩
      · exact absurd (p9.2.1.symm.trans x0) (flS_n (by decide))
      · exact absurd (p9.2.1.symm.trans x0) (flS_n (by decide))
      · have hz := p9.2.1.symm.trans x0
        have gd := good hz
        have ei3 : i3 = i' + 1 := by
          have a := gd.1.1
          rw [c'.2.2.1.1, c3.2.2.1.1] at a
          exact Int.ofNat.inj a
        have vr : vbF (y 3) n s'.1 ≤ 6 := by
          unfold vbF
          split
          · exact (kwI_r _ _ _).2
          · decide
        rw [ei3] at c3
        exact rch_pn r c3 (p.step ⟨v0, vr⟩ c3.2.2.1.2 ⟨c3.2.1.1, c3.2.1.2.1⟩ c'.2.1.1 (show (tE3 (y 3) n s').2.1 = 0 from s0) hz gd) (q.step gd ob.2) cg z
theorem NI.wn {y : Hp} {i : Nat} (q : NI y i) (h : y 14 4 = 0) : WN y 5 0 i := by
  obtain ⟨k, k1, k2, k3, k4, k5⟩ := q
  have k0 : k = 0 := by omega
  subst k0
  exact k5
theorem NI.st {y : Hp} (h : y 14 4 = 0) : NI y 0 := ⟨0, h, by decide, fun j hj => absurd hj (Nat.not_lt_zero j), Nat.le_refl _, WN.nil (Nat.le_refl _)⟩
theorem PV.st {y : Hp} : PV y 0 0 := ⟨by decide, fun f hf => absurd hf (Nat.not_lt_zero f), fun s hs => absurd hs (Nat.not_lt_zero s)⟩
