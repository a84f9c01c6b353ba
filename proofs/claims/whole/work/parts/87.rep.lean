/-! PERFORM AND REPEAT, THE CLASS -/
set_option maxRecDepth 20000 in
set_option maxHeartbeats 400000 in
theorem sp_perf {d : Nat} (hd : 5 ≤ d) {x g : Hp} {P : Hp → Prop} {F i a b : Nat} {R : Nat → Ps → Ps} {B dep : Int} (v : PV x F i) (hb : b ≤ i) (c : WH (x 1 0) (x 1 1)) (hB : 0 ≤ B ∧ B ≤ 494505) (hl : ∀ s : Nat, a ≤ s → s < b → x 5 s = 6 → ∃ e : Nat, x 6 s = e ∧ s ≤ e ∧ e < b) (hR : ∀ s : Nat, a ≤ s → s < b → x 5 s = 6 → ∀ (B : Int) (p q : Ps), PQ (x 1 0) (x 1 1) B p q → PQ (x 1 0) (x 1 1) B (R s p) (R s q)) (HR : ∀ (g : Hp) (s : Nat) (P : Hp → Prop), a ≤ s → s < b → x 5 s = 6 → FrV x g → PQ (x 1 0) (x 1 1) B (psC g) (psC g) → (∀ g' : Hp, FrV x g' → psC g' = R s (psC g) → P g') → Cl d mX5_repeat [.inr (.inr 30), .inl (s : Int), .inl dep] g (pV P)) (ha : a ≤ 61) (gx : FrV x g) (ok : PQ (x 1 0) (x 1 1) B (psC g) (psC g)) (k : ∀ g' : Hp, FrV x g' → psC g' = pfL x R b 61 a (psC g) → P g') : Cl (d + 1) mX5_perform [.inr (.inr 30), .inl (a : Int), .inl (b : Int), .inl dep] g (pV P) := by
  refine Cl.of (L := [some (.inr (.inr 30)), some (.inl (a : Int)), some (.inl (b : Int)), some (.inl dep), none]) (by decide +kernel) (Nat.le_of_ble_eq_true rfl) rfl ?_
  have i60 := v.1.2
  refine r_iload_n dX5_perform_0 rfl rfl ?_
  refine r_istore (L' := [_, _, _, _, _]) dX5_perform_1 rfl (by decide) rfl ?_
  exact lp_perf hd v hb c hB hl hR HR (fun g a e => k g a e) 62 a 61 g (Nat.le_refl _) ha (by omega) gx ok rfl (by decide)
theorem ps_sh {g : Hp} {dx dy : Int} : psC (upH (upH g 30 3 (g 30 3 + dx)) 30 4 (g 30 4 + dy)) = shP dx dy (psC g) := rfl
theorem ps_bk {g h : Hp} : psC (upH (upH (upH (upH (upH (upH g 30 3 (h 30 3)) 30 4 (h 30 4)) 30 5 (h 30 5)) 30 6 (h 30 6)) 30 7 (h 30 7)) 30 8 (h 30 8)) = bkP (psC h) (psC g) := rfl
set_option maxRecDepth 20000 in
set_option maxHeartbeats 400000 in
theorem lp_rep {d : Nat} (hd : 2 ≤ d) {P : Hp → Prop} {x h : Hp} {s e n : Nat} {B dep : Int} {T : Ps → Ps} {Z : Ps} (hs : s < 60) (he : x 6 s = e ∧ e < 60) (hn : n ≤ 99) (hx : -999 ≤ x 8 (5 * s + 1) ∧ x 8 (5 * s + 1) ≤ 999) (hy : -999 ≤ x 8 (5 * s + 2) ∧ x 8 (5 * s + 2) ≤ 999) (hB : 0 ≤ B ∧ B + 98901 ≤ 494505) (hT : ∀ (B : Int) (p q : Ps), PQ (x 1 0) (x 1 1) B p q → PQ (x 1 0) (x 1 1) B (T p) (T q)) (HP : ∀ (g : Hp) (P : Hp → Prop), FrV x g → PQ (x 1 0) (x 1 1) (B + 98901) (psC g) (psC g) → (∀ g' : Hp, FrV x g' → psC g' = T (psC g) → P g') → Cl d mX5_perform [.inr (.inr 30), .inl ((s : Int) + 1), .inl ((e : Int) + 1), .inl (dep + 1)] g (pV P)) (k : ∀ g : Hp, FrV x g → psC g = bkP (psC h) Z → P g) : ∀ (nn : Nat) (j t : Nat) (g : Hp), (j + t = n) → (FrV x g) → (PQ (x 1 0) (x 1 1) (B + 999 * (j : Int)) (psC g) (psC g)) → (rpF T (x 8 (5 * s + 1)) (x 8 (5 * s + 2)) t (psC g) = Z) → t < nn → WW mX5_repeat (d + 1) (pV P) 55 [some (.inr (.inr 30)), some (.inl (s : Int)), some (.inl dep), some (.inl (h 30 3)), some (.inl (h 30 4)), some (.inl (h 30 5)), some (.inl (h 30 6)), some (.inl (h 30 7)), some (.inl (h 30 8)), some (.inl (n : Int)), some (.inl (j : Int))] [] g := by
  intro nn
  induction nn with
  | zero => intro j t g hj gx ok hE; intros; omega
  | succ nn ih =>
    intro j t g hj gx ok hE hmu
    have g10 : g 30 10 = 0 ∨ g 30 10 = 1 := ok.2.2.2.1.2.2
    have i1 : (5 * (s : Int) + 1).toNat = 5 * s + 1 := by omega
    have i2 : (5 * (s : Int) + 2).toNat = 5 * s + 2 := by omega
    have eZ : ¬ (t ≠ 0 ∧ flP (psC g) = 0) → psC g = Z := fun z => by
      rw [← hE]
      match t with
      | 0 => rfl
      | t + 1 => exact (rpF_f (fun y => z ⟨Nat.succ_ne_zero t, y⟩) (t + 1)).symm
    refine r_iload dX5_repeat_55 rfl ?_
    refine r_iload dX5_repeat_57 rfl ?_
    refine r_icmp_ge (tgt := 132) dX5_repeat_59 rfl (by clear hE ok hT HP; omega) (by clear hE ok hT HP; omega) (fun c_59 => ?_) (fun c_59 => ?_)
    · refine r_aload_n dX5_repeat_132 rfl rfl ?_
      refine r_iload_n dX5_repeat_133 rfl rfl ?_
      refine r_putI dX5_repeat_134 fl_X5_7 sh_30 rfl ?_
      refine r_aload_n dX5_repeat_137 rfl rfl ?_
      refine r_iload dX5_repeat_138 rfl ?_
      refine r_putI dX5_repeat_140 fl_X5_13 sh_30 rfl ?_
      refine r_aload_n dX5_repeat_143 rfl rfl ?_
      refine r_iload dX5_repeat_144 rfl ?_
      refine r_putI dX5_repeat_146 fl_X5_16 sh_30 rfl ?_
      refine r_aload_n dX5_repeat_149 rfl rfl ?_
      refine r_iload dX5_repeat_150 rfl ?_
      refine r_putI dX5_repeat_152 fl_X5_19 sh_30 rfl ?_
      refine r_aload_n dX5_repeat_155 rfl rfl ?_
      refine r_iload dX5_repeat_156 rfl ?_
      refine r_putI dX5_repeat_158 fl_X5_22 sh_30 rfl ?_
      refine r_aload_n dX5_repeat_161 rfl rfl ?_
      refine r_iload dX5_repeat_162 rfl ?_
      refine r_putI dX5_repeat_164 fl_X5_25 sh_30 rfl ?_
      refine r_vret dX5_repeat_167 rfl ?_
      have e0 : psC g = Z := eZ (fun z => by first | exact absurd z.2 c_66 | exact absurd z.1 (by clear hE ok hT HP eZ; omega))
      refine ⟨rfl, k _ ((((((gx.u (by decide)).u (by decide)).u (by decide)).u (by decide)).u (by decide)).u (by decide)) ?_⟩
      rw [ps_bk, e0]
    · refine r_aload_n dX5_repeat_62 rfl rfl ?_
      refine r_getI dX5_repeat_63 fl_X5_31 sh_30 rfl ?_
      refine r_if_ne (tgt := 132) dX5_repeat_66 rfl (by clear hE ok hT HP; omega) (fun c_66 => ?_) (fun c_66 => ?_)
      · refine r_aload_n dX5_repeat_132 rfl rfl ?_
        refine r_iload_n dX5_repeat_133 rfl rfl ?_
        refine r_putI dX5_repeat_134 fl_X5_7 sh_30 rfl ?_
        refine r_aload_n dX5_repeat_137 rfl rfl ?_
        refine r_iload dX5_repeat_138 rfl ?_
        refine r_putI dX5_repeat_140 fl_X5_13 sh_30 rfl ?_
        refine r_aload_n dX5_repeat_143 rfl rfl ?_
        refine r_iload dX5_repeat_144 rfl ?_
        refine r_putI dX5_repeat_146 fl_X5_16 sh_30 rfl ?_
        refine r_aload_n dX5_repeat_149 rfl rfl ?_
        refine r_iload dX5_repeat_150 rfl ?_
        refine r_putI dX5_repeat_152 fl_X5_19 sh_30 rfl ?_
        refine r_aload_n dX5_repeat_155 rfl rfl ?_
        refine r_iload dX5_repeat_156 rfl ?_
        refine r_putI dX5_repeat_158 fl_X5_22 sh_30 rfl ?_
        refine r_aload_n dX5_repeat_161 rfl rfl ?_
        refine r_iload dX5_repeat_162 rfl ?_
        refine r_putI dX5_repeat_164 fl_X5_25 sh_30 rfl ?_
        refine r_vret dX5_repeat_167 rfl ?_
        have e0 : psC g = Z := eZ (fun z => by first | exact absurd z.2 c_66 | exact absurd z.1 (by clear hE ok hT HP eZ; omega))
        refine ⟨rfl, k _ ((((((gx.u (by decide)).u (by decide)).u (by decide)).u (by decide)).u (by decide)).u (by decide)) ?_⟩
        rw [ps_bk, e0]
      · obtain ⟨t, rfl⟩ : ∃ q, t = q + 1 := ⟨t - 1, by clear hE ok hT HP eZ; omega⟩
        have fz : flP (psC g) = 0 := c_66
        rw [rpF, if_pos fz] at hE
        refine r_aload_n dX5_repeat_69 rfl rfl ?_
        refine r_iload_n dX5_repeat_70 rfl rfl ?_
        refine r_iconst dX5_repeat_71 ?_
        refine r_iadd dX5_repeat_72 ?_
        refine r_aload_n dX5_repeat_73 rfl rfl ?_
        refine r_getR dX5_repeat_74 fl_X5_43 sh_30 rfl ?_
        refine r_getR dX5_repeat_77 fl_X5_80 sh_4 rfl ?_
        refine r_iload_n dX5_repeat_80 rfl rfl ?_
        refine r_iald dX5_repeat_81 sh_6 (by decide) (by clear hE ok hT HP; omega) ?_
        rw [Int.toNat_natCast, gx.c (by decide), he.1]
        refine r_iconst dX5_repeat_82 ?_
        refine r_iadd dX5_repeat_83 ?_
        refine r_iload_n dX5_repeat_84 rfl rfl ?_
        refine r_iconst dX5_repeat_85 ?_
        refine r_iadd dX5_repeat_86 ?_
        refine r_callVU (av := [_, _, _]) (M' := mX5_perform) dX5_repeat_87 vX5_perform ml_X5_69 sh_30 (by decide) rfl rfl rfl rfl (by simp [wtA]) (HP g _ gx (ok.wd (by clear hE ok hT HP eZ; omega)) (fun g2 f2 v2 => ?_))
        refine r_aload_n dX5_repeat_90 rfl rfl ?_
        refine r_dup dX5_repeat_91 (fun _ h => by cases h) ?_
        refine r_getI dX5_repeat_92 fl_X5_7 sh_30 rfl ?_
        refine r_aload_n dX5_repeat_95 rfl rfl ?_
        refine r_getR dX5_repeat_96 fl_X5_43 sh_30 rfl ?_
        refine r_iload_n dX5_repeat_99 rfl rfl ?_
        refine r_iconst dX5_repeat_100 ?_
        refine r_callVI (av := [_, _]) (M' := mX7_get) dX5_repeat_101 vX7_get ml_X5_93 sh_4 (by decide) rfl rfl rfl rfl (by simp [wtA]) (sp_X7_get (by omega) (by clear hE ok hT HP; omega) (by decide) ?_)
        rw [i1, f2.c (by decide)]
        refine r_iadd dX5_repeat_104 ?_
        refine r_putI dX5_repeat_105 fl_X5_7 sh_30 rfl ?_
        refine r_aload_n dX5_repeat_108 rfl rfl ?_
        refine r_dup dX5_repeat_109 (fun _ h => by cases h) ?_
        refine r_getI dX5_repeat_110 fl_X5_13 sh_30 rfl ?_
        refine r_eqI (up_nk (by decide)) ?_
        refine r_aload_n dX5_repeat_113 rfl rfl ?_
        refine r_getR dX5_repeat_114 fl_X5_43 sh_30 rfl ?_
        refine r_iload_n dX5_repeat_117 rfl rfl ?_
        refine r_iconst dX5_repeat_118 ?_
        refine r_callVI (av := [_, _]) (M' := mX7_get) dX5_repeat_119 vX7_get ml_X5_93 sh_4 (by decide) rfl rfl rfl rfl (by simp [wtA]) (sp_X7_get (by omega) (by omega) (by omega) ?_)
        rw [i2, show ∀ z : Int, upH g2 30 3 z 8 (5 * s + 2) = x 8 (5 * s + 2) from fun z => (up_nc (by decide)).trans (congrFun (f2.c (a := 8) (by decide)) _)]
        refine r_iadd dX5_repeat_122 ?_
        refine r_putI dX5_repeat_123 fl_X5_13 sh_30 rfl ?_
        refine r_iinc (L' := [_, _, _, _, _, _, _, _, _, _, _]) dX5_repeat_126 rfl rfl (by decide) rfl ?_
        refine r_goto (tgt := 55) dX5_repeat_129 rfl ?_
        have o2 := (hT _ _ _ ok).sh hx hy
        rw [← v2, ← ps_sh] at o2 hE
        exact ih (j + 1) t _ (by clear hE ok hT HP eZ o2; omega) ((f2.u (by decide)).u (by decide)) (o2.wd (by clear hE ok hT HP eZ o2; omega)) hE (by clear hE ok hT HP eZ o2; omega)
set_option maxRecDepth 20000 in
set_option maxHeartbeats 400000 in
theorem sp_rep {d : Nat} (hd : 2 ≤ d) {P : Hp → Prop} {x h : Hp} {s e n : Nat} {B dep : Int} {T : Ps → Ps} (hs : s < 60) (he : x 6 s = e ∧ e < 60) (hn : x 8 (5 * s) = n ∧ n ≤ 99) (hx : -999 ≤ x 8 (5 * s + 1) ∧ x 8 (5 * s + 1) ≤ 999) (hy : -999 ≤ x 8 (5 * s + 2) ∧ x 8 (5 * s + 2) ≤ 999) (hB : 0 ≤ B ∧ B + 98901 ≤ 494505) (hD : 0 ≤ dep ∧ dep < 5) (hT : ∀ (B : Int) (p q : Ps), PQ (x 1 0) (x 1 1) B p q → PQ (x 1 0) (x 1 1) B (T p) (T q)) (HP : ∀ (g : Hp) (P : Hp → Prop), FrV x g → PQ (x 1 0) (x 1 1) (B + 98901) (psC g) (psC g) → (∀ g' : Hp, FrV x g' → psC g' = T (psC g) → P g') → Cl d mX5_perform [.inr (.inr 30), .inl ((s : Int) + 1), .inl ((e : Int) + 1), .inl (dep + 1)] g (pV P)) (gx : FrV x h) (ok : PQ (x 1 0) (x 1 1) B (psC h) (psC h)) (k : ∀ g : Hp, FrV x g → psC g = bkP (psC h) (rpF T (x 8 (5 * s + 1)) (x 8 (5 * s + 2)) n (psC h)) → P g) : Cl (d + 1) mX5_repeat [.inr (.inr 30), .inl (s : Int), .inl dep] h (pV P) := by
  refine Cl.of (L := [some (.inr (.inr 30)), some (.inl (s : Int)), some (.inl dep), none, none, none, none, none, none, none, none]) (by decide +kernel) (Nat.le_of_ble_eq_true rfl) rfl ?_
  refine r_iload_n dX5_repeat_0 rfl rfl ?_
  refine r_iconst dX5_repeat_1 ?_
  refine r_icmp_lt (tgt := 6) dX5_repeat_2 rfl (by clear ok hT HP; omega) ⟨by decide, by decide⟩ (fun c_2 => ?_) (fun c_2 => absurd (show dep < 5 by clear ok hT HP; omega) c_2)
  refine r_aload_n dX5_repeat_6 rfl rfl ?_
  refine r_getI dX5_repeat_7 fl_X5_7 sh_30 rfl ?_
  refine r_istore_n (L' := [_, _, _, _, _, _, _, _, _, _, _]) dX5_repeat_10 rfl rfl (by decide) rfl ?_
  refine r_aload_n dX5_repeat_11 rfl rfl ?_
  refine r_getI dX5_repeat_12 fl_X5_13 sh_30 rfl ?_
  refine r_istore (L' := [_, _, _, _, _, _, _, _, _, _, _]) dX5_repeat_15 rfl (by decide) rfl ?_
  refine r_aload_n dX5_repeat_17 rfl rfl ?_
  refine r_getI dX5_repeat_18 fl_X5_16 sh_30 rfl ?_
  refine r_istore (L' := [_, _, _, _, _, _, _, _, _, _, _]) dX5_repeat_21 rfl (by decide) rfl ?_
  refine r_aload_n dX5_repeat_23 rfl rfl ?_
  refine r_getI dX5_repeat_24 fl_X5_19 sh_30 rfl ?_
  refine r_istore (L' := [_, _, _, _, _, _, _, _, _, _, _]) dX5_repeat_27 rfl (by decide) rfl ?_
  refine r_aload_n dX5_repeat_29 rfl rfl ?_
  refine r_getI dX5_repeat_30 fl_X5_22 sh_30 rfl ?_
  refine r_istore (L' := [_, _, _, _, _, _, _, _, _, _, _]) dX5_repeat_33 rfl (by decide) rfl ?_
  refine r_aload_n dX5_repeat_35 rfl rfl ?_
  refine r_getI dX5_repeat_36 fl_X5_25 sh_30 rfl ?_
  refine r_istore (L' := [_, _, _, _, _, _, _, _, _, _, _]) dX5_repeat_39 rfl (by decide) rfl ?_
  refine r_aload_n dX5_repeat_41 rfl rfl ?_
  refine r_getR dX5_repeat_42 fl_X5_43 sh_30 rfl ?_
  refine r_iload_n dX5_repeat_45 rfl rfl ?_
  refine r_iconst dX5_repeat_46 ?_
  refine r_callVI (av := [_, _]) (M' := mX7_get) dX5_repeat_47 vX7_get ml_X5_93 sh_4 (by decide) rfl rfl rfl rfl (by simp [wtA]) (sp_X7_get (by omega) (by clear ok hT HP; omega) (by decide) ?_)
  rw [show (5 * (s : Int) + 0).toNat = 5 * s by clear ok hT HP; omega, gx.c (a := 8) (by decide), hn.1]
  refine r_istore (L' := [_, _, _, _, _, _, _, _, _, _, _]) dX5_repeat_50 rfl (by decide) rfl ?_
  refine r_iconst dX5_repeat_52 ?_
  refine r_istore (L' := [_, _, _, _, _, _, _, _, _, _, _]) dX5_repeat_53 rfl (by decide) rfl ?_
  exact lp_rep (h := h) (n := n) (e := e) hd hs he hn.2 hx hy hB hT HP (fun g a e => k g a e) (n + 1) 0 n h (by omega) gx (ok.wd (by omega)) rfl (by omega)
theorem WN.l {x : Hp} : ∀ {r a b : Nat}, WN x r a b → ∀ s : Nat, a ≤ s → s < b → x 5 s = 6 → ∃ e : Nat, x 6 s = e ∧ s ≤ e ∧ e < b
  | 0, a, b, n, s, h1, h2, h6 => absurd h6 (n s h1 h2)
  | r + 1, a, b, n, s, h1, h2, h6 => by
    obtain ⟨e, e1, e2, e3, _⟩ := n s h1 h2 h6
    exact ⟨e, e1, e2, e3⟩
theorem cl_rep {x : Hp} {F i : Nat} (v : PV x F i) (c : WH (x 1 0) (x 1 1)) : ∀ (r a b d : Nat), r ≤ 5 → 2 * r + 6 ≤ d → WN x r a b → b ≤ i → ∀ (g : Hp) (s : Nat) (P : Hp → Prop), a ≤ s → s < b → x 5 s = 6 → FrV x g → PQ (x 1 0) (x 1 1) (98901 * (5 - (r : Int))) (psC g) (psC g) → (∀ g' : Hp, FrV x g' → psC g' = rpD x r s (psC g) → P g') → Cl d mX5_repeat [.inr (.inr 30), .inl (s : Int), .inl (5 - (r : Int))] g (pV P)
  | 0, a, b, d, _, _, n, _, g, s, P, h1, h2, h6, _, _, _ => absurd h6 (n s h1 h2)
  | r + 1, a, b, d, hr, hd, n, hb, g, s, P, h1, h2, h6, gx, ok, k => by
    obtain ⟨e, e1, e2, e3, n2⟩ := n s h1 h2 h6
    obtain ⟨z0, z1, z2⟩ := (v.2.2 s (by omega)).2.2.2.2.2 h6
    have i60 := v.1.2
    obtain ⟨t, ht⟩ : ∃ t : Nat, x 8 (5 * s) = t := ⟨(x 8 (5 * s)).toNat, by omega⟩
    obtain ⟨d, rfl⟩ : ∃ q, d = q + 2 := ⟨d - 2, by omega⟩
    have rd := PQ.rd v c r (s + 1) (e + 1) n2 (by omega)
    refine sp_rep (d := d + 1) (s := s) (e := e) (n := t) (B := 98901 * (5 - ((r + 1 : Nat) : Int))) (T := pfL x (rpD x r) (e + 1) 61 (s + 1)) (by omega) (by omega) ⟨e1, by omega⟩ ⟨ht, by omega⟩ z1 z2 (by omega) (by omega) (fun B p q y => PQ.pf v (by omega) c rd 61 (s + 1) B p q (Nat.le_refl _) y) (fun g1 P1 gx1 ok1 k1 => ?_) gx ok (fun g' f e' => k g' f ?_)
    · rw [show (5 - ((r + 1 : Nat) : Int)) + 1 = 5 - (r : Int) by omega]
      exact sp_perf (d := d) (a := s + 1) (b := e + 1) (B := 98901 * (5 - (r : Int))) (R := rpD x r) (by omega) v (by omega) c (by omega) n2.l (fun t t1 t2 t6 => (rd t t1 t2 t6).2) (fun g2 s2 P2 y1 y2 y6 gx2 ok2 k2 => cl_rep v c r (s + 1) (e + 1) d (by omega) (by omega) n2 (by omega) g2 s2 P2 y1 y2 y6 gx2 ok2 k2) (by omega) gx1 (ok1.wd (by omega)) k1
    · rw [e', rpD, e1, ht, Int.toNat_natCast, Int.toNat_natCast]
