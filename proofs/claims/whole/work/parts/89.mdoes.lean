/-! ONE ACT OF THE REFERENCE -/
def DM (x g : Hp) (F i : Nat) : Prop := g 49 18 = i ∧ (g 49 3 = x 1 0 ∧ g 49 4 = x 1 1) ∧ (∀ k : Nat, k < i → g 52 k = x 5 k ∧ SRn x g k ∧ (x 5 k = 6 → g 54 k = x 6 k + 1)) ∧ ∀ k : Nat, k < F → g 57 k = x 11 k ∧ ∀ q : Nat, (q : Int) < x 11 k → g 58 (12 * k + q) = x 12 (12 * k + q) ∧ g 59 (12 * k + q) = x 13 (12 * k + q)
abbrev FrJ (h g : Hp) : Prop := ∀ a k, ¬ (a = 49 ∧ (k = 29 ∨ k = 12 ∨ k = 34 ∨ k = 35)) → ¬ (60 ≤ a ∧ a ≤ 68) → g a k = h a k
abbrev FrI (h g : Hp) : Prop := ∀ a k, ¬ (a = 49 ∧ (k = 29 ∨ k = 12)) → ¬ (60 ≤ a ∧ a ≤ 63) → a ≠ 67 → a ≠ 68 → g a k = h a k
theorem FrK.i {h g : Hp} (f : FrK h g) : FrI h g := fun a k z1 z2 z3 z4 => f a k z1 (by omega) (by omega) (by omega) z3 z4
theorem FrI.j {h g : Hp} (f : FrI h g) : FrJ h g := fun a k z1 z2 => f a k (by omega) (by omega) (by omega) (by omega)
theorem FrJ.tr {h g u : Hp} (f : FrJ h g) (f2 : FrJ g u) : FrJ h u := fun a k z1 z2 => (f2 a k z1 z2).trans (f a k z1 z2)
theorem FrJ.rf {h : Hp} : FrJ h h := fun _ _ _ _ => rfl
theorem FrJ.c {h g : Hp} (f : FrJ h g) {a : Nat} (ha : a < 60 ∧ a ≠ 49) : g a = h a := funext fun k => f a k (by omega) (by omega)
theorem DM.f {x g u : Hp} {F i : Nat} (f : FrJ g u) (m : DM x g F i) : DM x u F i := by
  unfold DM SRn at m ⊢
  rw [f 49 18 (by decide) (by decide), f 49 3 (by decide) (by decide), f 49 4 (by decide) (by decide), f.c (a := 52) (by decide), f.c (a := 53) (by decide), f.c (a := 54) (by decide), f.c (a := 57) (by decide), f.c (a := 58) (by decide), f.c (a := 59) (by decide)]
  exact m
theorem foE_cg {x y z sx sy : Int} {X Y X' Y' : Nat → Int} {b q : Nat} (e1 : X (b + q) = X' (b + q) ∧ Y (b + q) = Y' (b + q)) (e2 : X (b + q + 1) = X' (b + q + 1) ∧ Y (b + q + 1) = Y' (b + q + 1)) : foE x y z sx sy X Y b q = foE x y z sx sy X' Y' b q := by
  unfold foE
  rw [e1.1, e1.2, e2.1, e2.2]
theorem acW_n {x : Hp} {s : Nat} {w : Q4} (h : ¬ x 5 s = 5) : acW x s w = w := if_neg h
theorem DM.n {x g : Hp} {F i k q : Nat} (m : DM x g F i) (hk : k < i) (h1 : x 5 k ≠ 1) (hq : (q : Int) < nmC (x 5 k)) : g 53 (5 * k + q) = x 8 (5 * k + q) := (m.2.2.1 k hk).2.1.2 h1 q hq
set_option maxRecDepth 20000 in
set_option maxHeartbeats 400000 in
theorem sp_X12_does {d : Nat} (hd : 7 ≤ d) {h : Hp} {x : Hp} {a F i : Nat} (hD : DM x h F i) (v : PV x F i) (c : WH (x 1 0) (x 1 1)) (ha : a < i) (h6 : ¬ x 5 a = 6) (hsh : (-500000 ≤ h 49 34 ∧ h 49 34 ≤ 500000) ∧ (-500000 ≤ h 49 35 ∧ h 49 35 ≤ 500000)) (hw : WnR (wnM h)) (hg : GmR (gmM h)) (h0 : h 49 12 = 0) {P : Int → Hp → Prop} (k0 : ∀ h' : Hp, (FrI h h') → (wnM h' = acW x a (wnM h)) → (gmM h' = acG x a (h 49 34) (h 49 35) (wnM h) (gmM h)) → (h' 49 12 = 0) → P (1) h') (k1 : ∀ h' : Hp, (FrI h h') → (wnM h' = acW x a (wnM h)) → (gmM h' = acG x a (h 49 34) (h 49 35) (wnM h) (gmM h)) → (h' 49 12 = 1) → P (0) h') : Cl d mX12_does [.inr (.inr 49), .inl (a : Int)] h (pI P) := by
  refine Cl.of (L := [some (.inr (.inr 49)), some (.inl (a : Int))]) (by decide +kernel) (Nat.le_of_ble_eq_true rfl) rfl ?_
  obtain ⟨d, rfl⟩ : ∃ q, d = q + 1 := ⟨d - 1, by omega⟩
  have i60 := v.1.2
  have v5 := (v.2.2 a ha).1
  have i0 : (5 * (a : Int)).toNat = 5 * a := by clear hw hg; omega
  have i1 : (5 * (a : Int) + 1).toNat = 5 * a + 1 := by clear hw hg; omega
  have i2 : (5 * (a : Int) + 2).toNat = 5 * a + 2 := by clear hw hg; omega
  have i3 : (5 * (a : Int) + 3).toNat = 5 * a + 3 := by clear hw hg; omega
  refine r_aload_n dX12_does_0 rfl rfl ?_
  refine r_getR dX12_does_1 fl_X12_35 sh_49 rfl ?_
  refine r_iload_n dX12_does_4 rfl rfl ?_
  refine r_iald dX12_does_5 sh_52 (by decide) (by clear hw hg; omega) ?_
  rw [Int.toNat_natCast, (hD.2.2.1 a ha).1]
  rcases (show x 5 a = 0 ∨ x 5 a = 1 ∨ x 5 a = 2 ∨ x 5 a = 3 ∨ x 5 a = 4 ∨ x 5 a = 5 by omega) with ev | ev | ev | ev | ev | ev
  · rw [ev]
    refine r_tsOut (tgt := 108) dX12_does_6 ⟨by decide, by decide⟩ (by decide) rfl ?_
    refine r_iconst dX12_does_108 ?_
    refine r_zret dX12_does_109 rfl (.inr rfl) ?_
    exact ⟨_, rfl, k0 h (fun _ _ _ _ _ _ => rfl) (acW_n (by rw [ev]; decide)).symm (acG_0 (Or.inl ev)).symm h0⟩
  · rw [ev]
    obtain ⟨f, e7, hf, n0, n1, n2⟩ := (v.2.2 a ha).2.1 ev
    obtain ⟨cc, ec, hc, hp⟩ := v.2.1 f hf
    obtain ⟨m0, m1, m2, m3⟩ := (hD.2.2.1 a ha).2.1.1 ev
    obtain ⟨q1, q2⟩ := hD.2.2.2 f hf
    have F8 := v.1.1
    refine r_tsIn (v := 1) (off := 34) (tgt := 40) dX12_does_6 rfl ⟨by decide, by decide⟩ (by decide) (by decide) (by decide +kernel) rfl ?_
    refine r_aload_n dX12_does_40 rfl rfl ?_
    refine r_iload_n dX12_does_41 rfl rfl ?_
    refine r_callVI (av := [_]) (M' := mX12_puts) dX12_does_42 vX12_puts ml_X12_317 sh_49 (by decide) rfl rfl rfl rfl (by simp [wtA]) (sp_X12_puts (a := a) (f := f) (c := cc) (by omega) (by omega) ⟨m0.trans e7, by omega⟩ ⟨q1.trans ec, hc.1, hc.2⟩ (by rw [m1, m2, m3]; exact ⟨n0, n1, n2⟩) hsh (fun q hq => by rw [(q2 q (by rw [ec]; exact Int.ofNat_lt.mpr hq)).1, (q2 q (by rw [ec]; exact Int.ofNat_lt.mpr hq)).2]; exact hp q hq) hw hg h0 (fun g2 f2 v2 z2 => ?_) (fun g2 f2 v2 z2 => ?_))
    · refine r_zret dX12_does_45 rfl (.inr rfl) ?_
      have ew : wnM g2 = acW x a (wnM h) := by rw [acW_n (by rw [ev]; decide)]; exact f2.wn
      rw [m1, m2, m3, itF_cg (D := foE (x 8 (5 * a)) (x 8 (5 * a + 1)) (x 8 (5 * a + 2)) (h 49 34) (h 49 35) (x 12) (x 13) (12 * f)) _ _ _ (fun j _ hj => foE_cg (q2 j (by rw [ec]; omega)) (q2 (j + 1) (by rw [ec]; omega))), ← acG_1 ev e7 ec] at v2
      exact ⟨_, rfl, k0 _ f2.i ew v2 z2⟩
    · refine r_zret dX12_does_45 rfl (.inl rfl) ?_
      have ew : wnM g2 = acW x a (wnM h) := by rw [acW_n (by rw [ev]; decide)]; exact f2.wn
      rw [m1, m2, m3, itF_cg (D := foE (x 8 (5 * a)) (x 8 (5 * a + 1)) (x 8 (5 * a + 2)) (h 49 34) (h 49 35) (x 12) (x 13) (12 * f)) _ _ _ (fun j _ hj => foE_cg (q2 j (by rw [ec]; omega)) (q2 (j + 1) (by rw [ec]; omega))), ← acG_1 ev e7 ec] at v2
      exact ⟨_, rfl, k1 _ f2.i ew v2 z2⟩
  · rw [ev]
    have nn : ∀ q : Nat, q < 4 → h 53 (5 * a + q) = x 8 (5 * a + q) := fun q hq => hD.n ha (by rw [ev]; decide) (by rw [ev, show nmC 2 = 4 from rfl]; omega)
    have m0 : h 53 (5 * a) = x 8 (5 * a) := nn 0 (by decide)
    have rr := (v.2.2 a ha).2.2.1 (Or.inl ev)
    have r0 : 0 ≤ x 8 (5 * a) ∧ x 8 (5 * a) ≤ 999 := rr 0 (by decide)
    refine r_tsIn (v := 2) (off := 40) (tgt := 46) dX12_does_6 rfl ⟨by decide, by decide⟩ (by decide) (by decide) (by decide +kernel) rfl ?_
    refine r_aload_n dX12_does_46 rfl rfl ?_
    refine r_aload_n dX12_does_47 rfl rfl ?_
    refine r_getR dX12_does_48 fl_X12_38 sh_49 rfl ?_
    refine r_iconst dX12_does_51 ?_
    refine r_iload_n dX12_does_52 rfl rfl ?_
    refine r_imul dX12_does_53 ?_
    refine r_iald dX12_does_54 sh_53 (by decide) (by clear hw hg; omega) ?_
    rw [i0, m0]
    refine r_aload_n dX12_does_55 rfl rfl ?_
    refine r_getR dX12_does_56 fl_X12_38 sh_49 rfl ?_
    refine r_iconst dX12_does_59 ?_
    refine r_iload_n dX12_does_60 rfl rfl ?_
    refine r_imul dX12_does_61 ?_
    refine r_iconst dX12_does_62 ?_
    refine r_iadd dX12_does_63 ?_
    refine r_iald dX12_does_64 sh_53 (by decide) (by clear hw hg; omega) ?_
    rw [i1, nn 1 (by decide)]
    refine r_aload_n dX12_does_65 rfl rfl ?_
    refine r_getR dX12_does_66 fl_X12_38 sh_49 rfl ?_
    refine r_iconst dX12_does_69 ?_
    refine r_iload_n dX12_does_70 rfl rfl ?_
    refine r_imul dX12_does_71 ?_
    refine r_iconst dX12_does_72 ?_
    refine r_iadd dX12_does_73 ?_
    refine r_iald dX12_does_74 sh_53 (by decide) (by clear hw hg; omega) ?_
    rw [i2, nn 2 (by decide)]
    refine r_aload_n dX12_does_75 rfl rfl ?_
    refine r_getR dX12_does_76 fl_X12_38 sh_49 rfl ?_
    refine r_iconst dX12_does_79 ?_
    refine r_iload_n dX12_does_80 rfl rfl ?_
    refine r_imul dX12_does_81 ?_
    refine r_iconst dX12_does_82 ?_
    refine r_iadd dX12_does_83 ?_
    refine r_iald dX12_does_84 sh_53 (by decide) (by clear hw hg; omega) ?_
    rw [i3, nn 3 (by decide)]
    refine r_callVI (av := [_, _, _, _]) (M' := mX12_lines) dX12_does_85 vX12_lines ml_X12_314 sh_49 (by decide) rfl rfl rfl rfl (by simp [wtA]) (sp_X12_lines (by omega) (ln_b r0 (rr 1 (by decide)) (rr 2 (by decide)) (rr 3 (by decide)) hsh) hw hg h0 (fun g2 f2 v2 z2 => ?_) (fun g2 f2 v2 z2 => ?_))
    · refine r_zret dX12_does_88 rfl (.inr rfl) ?_
      have ew : wnM g2 = acW x a (wnM h) := by rw [acW_n (by rw [ev]; decide)]; exact f2.wn
      rw [← acG_2 ev] at v2
      exact ⟨_, rfl, k0 _ f2.i ew v2 z2⟩
    · refine r_zret dX12_does_88 rfl (.inl rfl) ?_
      have ew : wnM g2 = acW x a (wnM h) := by rw [acW_n (by rw [ev]; decide)]; exact f2.wn
      rw [← acG_2 ev] at v2
      exact ⟨_, rfl, k1 _ f2.i ew v2 z2⟩
  · rw [ev]
    have nn : ∀ q : Nat, q < 2 → h 53 (5 * a + q) = x 8 (5 * a + q) := fun q hq => hD.n ha (by rw [ev]; decide) (by rw [ev, show nmC 3 = 2 from rfl]; omega)
    have m0 : h 53 (5 * a) = x 8 (5 * a) := nn 0 (by decide)
    have m1 := nn 1 (by decide)
    have rr := (v.2.2 a ha).2.2.2.1 ev
    refine r_tsIn (v := 3) (off := 83) (tgt := 89) dX12_does_6 rfl ⟨by decide, by decide⟩ (by decide) (by decide) (by decide +kernel) rfl ?_
    refine r_aload_n dX12_does_89 rfl rfl ?_
    refine r_iload_n dX12_does_90 rfl rfl ?_
    refine r_callVI (av := [_]) (M' := mX12_lifts) dX12_does_91 vX12_lifts ml_X12_320 sh_49 (by decide) rfl rfl rfl rfl (by simp [wtA]) (sp_X12_lifts (a := a) (by omega) (by omega) (by rw [m0, m1]; exact ⟨rr 0 (by decide), rr 1 (by decide)⟩) hsh hw hg h0 (fun g2 f2 v2 z2 => ?_) (fun g2 f2 v2 z2 => ?_))
    · refine r_zret dX12_does_94 rfl (.inr rfl) ?_
      have ew : wnM g2 = acW x a (wnM h) := by rw [acW_n (by rw [ev]; decide)]; exact f2.wn
      rw [m0, m1, ← acG_3 ev] at v2
      exact ⟨_, rfl, k0 _ f2.i ew v2 z2⟩
    · refine r_zret dX12_does_94 rfl (.inl rfl) ?_
      have ew : wnM g2 = acW x a (wnM h) := by rw [acW_n (by rw [ev]; decide)]; exact f2.wn
      rw [m0, m1, ← acG_3 ev] at v2
      exact ⟨_, rfl, k1 _ f2.i ew v2 z2⟩
  · rw [ev]
    have nn : ∀ q : Nat, q < 5 → h 53 (5 * a + q) = x 8 (5 * a + q) := fun q hq => hD.n ha (by rw [ev]; decide) (by rw [ev, show nmC 4 = 5 from rfl]; omega)
    have m0 : h 53 (5 * a) = x 8 (5 * a) := nn 0 (by decide)
    have m1 := nn 1 (by decide)
    have m2 := nn 2 (by decide)
    have m3 := nn 3 (by decide)
    have m4 := nn 4 (by decide)
    have rr := (v.2.2 a ha).2.2.1 (Or.inr (Or.inl ev))
    have n4 := (v.2.2 a ha).2.2.2.2.1 ev
    refine r_tsIn (v := 4) (off := 89) (tgt := 95) dX12_does_6 rfl ⟨by decide, by decide⟩ (by decide) (by decide) (by decide +kernel) rfl ?_
    refine r_aload_n dX12_does_95 rfl rfl ?_
    refine r_iload_n dX12_does_96 rfl rfl ?_
    refine r_callVI (av := [_]) (M' := mX12_hatches) dX12_does_97 vX12_hatches ml_X12_323 sh_49 (by decide) rfl rfl rfl rfl (by simp [wtA]) (sp_X12_hatches (a := a) (N := htN (x 8 (5 * a + 1)) (x 8 (5 * a + 4)) (x 8 (5 * a + 3))) (by omega) (by omega) (by rw [m1, m3, m4]; exact htN_i n4.1) (by rw [m0, m1, m2, m3, m4]; exact ⟨rr 0 (by decide), rr 1 (by decide), rr 2 (by decide), rr 3 (by decide), n4⟩) hsh hw hg h0 (fun g2 f2 v2 z2 => ?_) (fun g2 f2 v2 z2 => ?_))
    · refine r_zret dX12_does_100 rfl (.inr rfl) ?_
      have ew : wnM g2 = acW x a (wnM h) := by rw [acW_n (by rw [ev]; decide)]; exact f2.wn
      rw [m0, m1, m2, m4, ← acG_4 ev] at v2
      exact ⟨_, rfl, k0 _ f2.i ew v2 z2⟩
    · refine r_zret dX12_does_100 rfl (.inl rfl) ?_
      have ew : wnM g2 = acW x a (wnM h) := by rw [acW_n (by rw [ev]; decide)]; exact f2.wn
      rw [m0, m1, m2, m4, ← acG_4 ev] at v2
      exact ⟨_, rfl, k1 _ f2.i ew v2 z2⟩
  · rw [ev]
    have nn : ∀ q : Nat, q < 4 → h 53 (5 * a + q) = x 8 (5 * a + q) := fun q hq => hD.n ha (by rw [ev]; decide) (by rw [ev, show nmC 5 = 4 from rfl]; omega)
    have m0 : h 53 (5 * a) = x 8 (5 * a) := nn 0 (by decide)
    have rr := (v.2.2 a ha).2.2.1 (Or.inr (Or.inr ev))
    refine r_tsIn (v := 5) (off := 95) (tgt := 101) dX12_does_6 rfl ⟨by decide, by decide⟩ (by decide) (by decide) (by decide +kernel) rfl ?_
    refine r_aload_n dX12_does_101 rfl rfl ?_
    refine r_iload_n dX12_does_102 rfl rfl ?_
    refine r_callVU (av := [_]) (M' := mX12_opens) dX12_does_103 vX12_opens ml_X12_326 sh_49 (by decide) rfl rfl rfl rfl (by simp [wtA]) (sp_X12_opens (a := a) (by omega) (by omega) (fun q hq => by rw [nn q hq]; exact rr q hq) (by rw [hD.2.1.1, hD.2.1.2]; exact c) (fun g2 f2 v2 => ?_))
    refine r_iconst dX12_does_106 ?_
    refine r_zret dX12_does_107 rfl (.inr rfl) ?_
    have ew : wnM g2 = acW x a (wnM h) := by
      rw [v2, m0, nn 1 (by decide), nn 2 (by decide), nn 3 (by decide), hD.2.1.1, hD.2.1.2]
      exact (if_pos ev).symm
    have eg : gmM g2 = gmM h := by
      unfold gmM
      rw [f2 49 29 (by decide), f2 49 12 (by decide), show g2 60 = h 60 from funext fun j => f2 60 j (by decide), show g2 61 = h 61 from funext fun j => f2 61 j (by decide), show g2 62 = h 62 from funext fun j => f2 62 j (by decide)]
    exact ⟨_, rfl, k0 g2 (fun a k z1 z2 z3 z4 => f2 a k (by omega)) ew (eg.trans (acG_0 (Or.inr ev)).symm) ((f2 49 12 (by decide)).trans h0)⟩
