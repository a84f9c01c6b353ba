/-! PERFORM, THE CLASS -/
abbrev FrV (x h : Hp) : Prop := ∀ a k, ¬ (a = 16 ∧ k = 0) → a ≠ 17 → a ≠ 18 → a ≠ 19 → ¬ (a = 30 ∧ 3 ≤ k ∧ k ≤ 10) → a ≠ 31 → h a k = x a k
def psC (h : Hp) : Ps := (h 30 9, h 30 3, h 30 4, wnC h, gmC h)
theorem FrV.L {x u v : Hp} (f : FrV x u) (g : FrL u v) : FrV x v := fun a k z1 z2 z3 z4 z5 z6 => (g a k z1 z2 z3 z4 (fun z => z5 ⟨z.1, by omega⟩) z6).trans (f a k z1 z2 z3 z4 z5 z6)
theorem FrV.u {x u : Hp} {k : Nat} {z : Int} (f : FrV x u) (hk : 3 ≤ k ∧ k ≤ 10) : FrV x (upH u 30 k z) := fun a j z1 z2 z3 z4 z5 z6 => by
  have e : upH u 30 k z a j = u a j := by
    unfold upH
    rw [if_neg (fun y => z5 ⟨y.1, by omega⟩)]
  rw [e]
  exact f a j z1 z2 z3 z4 z5 z6
theorem FrV.c {x u : Hp} (f : FrV x u) {a : Nat} (h : a ≠ 16 ∧ a ≠ 17 ∧ a ≠ 18 ∧ a ≠ 19 ∧ a ≠ 30 ∧ a ≠ 31) : u a = x a := funext fun j => f a j (fun z => h.1 z.1) h.2.1 h.2.2.1 h.2.2.2.1 (fun z => h.2.2.2.2.1 z.1) h.2.2.2.2.2
theorem psC_L {u v : Hp} (f : FrL u v) : psC v = (u 30 9, u 30 3, u 30 4, wnC u, gmC v) := by
  unfold psC
  rw [f 30 9 (by decide) (by decide) (by decide) (by decide) (by decide) (by decide), f 30 3 (by decide) (by decide) (by decide) (by decide) (by decide) (by decide), f 30 4 (by decide) (by decide) (by decide) (by decide) (by decide) (by decide), f.wn]
theorem ps_on {u : Hp} : psC (upH u 30 9 (u 30 9 + 1)) = onP (psC u) := rfl
theorem ca_end {x u v : Hp} {p : Ps} {s : Nat} (e : psC u = onP p) (f : FrL u v) (h5 : ¬ x 5 s = 5) (eg : gmC v = acG x s (u 30 3) (u 30 4) (wnC u) (gmC u)) : psC v = acP x s p := by
  rw [psC_L f, eg]
  have e1 : u 30 9 = p.1 + 1 := congrArg (fun q : Ps => q.1) e
  have e2 : u 30 3 = p.2.1 := congrArg (fun q : Ps => q.2.1) e
  have e3 : u 30 4 = p.2.2.1 := congrArg (fun q : Ps => q.2.2.1) e
  have e4 : wnC u = p.2.2.2.1 := congrArg (fun q : Ps => q.2.2.2.1) e
  have e5 : gmC u = p.2.2.2.2 := congrArg (fun q : Ps => q.2.2.2.2) e
  rw [e1, e2, e3, e4, e5]
  have w : acW x s p.2.2.2.1 = p.2.2.2.1 := if_neg h5
  unfold acP
  rw [w]
theorem acG_1 {x : Hp} {s f c : Nat} {sx sy : Int} {w : Q4} {g : Gm} (h : x 5 s = 1) (e7 : x 7 s = f) (ec : x 11 f = c) : acG x s sx sy w g = itF w (foE (x 8 (5 * s)) (x 8 (5 * s + 1)) (x 8 (5 * s + 2)) sx sy (x 12) (x 13) (12 * f)) (c - 1) 0 g := by
  unfold acG
  rw [if_pos h, e7, Int.toNat_natCast, ec, Int.toNat_natCast]
theorem acG_2 {x : Hp} {s : Nat} {sx sy : Int} {w : Q4} {g : Gm} (h : x 5 s = 2) : acG x s sx sy w g = liF w (x 8 (5 * s) + sx, x 8 (5 * s + 1) + sy, x 8 (5 * s + 2) + sx, x 8 (5 * s + 3) + sy) g := by
  unfold acG
  rw [if_neg (by omega), if_pos h]
theorem acG_3 {x : Hp} {s : Nat} {sx sy : Int} {w : Q4} {g : Gm} (h : x 5 s = 3) : acG x s sx sy w g = toF w (x 8 (5 * s) + sx) (x 8 (5 * s + 1) + sy) g := by
  unfold acG
  rw [if_neg (by omega), if_neg (by omega), if_pos h]
theorem acG_4 {x : Hp} {s : Nat} {sx sy : Int} {w : Q4} {g : Gm} (h : x 5 s = 4) : acG x s sx sy w g = itF w (htE (x 8 (5 * s)) (x 8 (5 * s + 2)) (x 8 (5 * s + 1)) (x 8 (5 * s + 4)) sx sy) (htN (x 8 (5 * s + 1)) (x 8 (5 * s + 4)) (x 8 (5 * s + 3))) 0 g := by
  unfold acG
  rw [if_neg (by omega), if_neg (by omega), if_neg (by omega), if_pos h]
theorem acG_0 {x : Hp} {s : Nat} {sx sy : Int} {w : Q4} {g : Gm} (h : x 5 s = 0 ∨ x 5 s = 5) : acG x s sx sy w g = g := by
  unfold acG
  rw [if_neg (by omega), if_neg (by omega), if_neg (by omega), if_neg (by omega)]
theorem ln_b {a b e f sx sy : Int} (ha : 0 ≤ a ∧ a ≤ 999) (hb : 0 ≤ b ∧ b ≤ 999) (he : 0 ≤ e ∧ e ≤ 999) (hf : 0 ≤ f ∧ f ≤ 999) (hs : (-500000 ≤ sx ∧ sx ≤ 500000) ∧ (-500000 ≤ sy ∧ sy ≤ 500000)) : LQ (a + sx, b + sy, e + sx, f + sy) := by
  show LnB (a + sx) (b + sy) (e + sx) (f + sy)
  omega
theorem ca_5 {x u v : Hp} {p : Ps} {s : Nat} (e : psC u = onP p) (h5 : x 5 s = 5) (e8 : u 8 = x 8) (e1 : u 1 = x 1) (f : ∀ a k, ¬ (a = 30 ∧ 5 ≤ k ∧ k ≤ 8) → v a k = u a k) (w : wnC v = (max (u 8 (5 * s + 0)) 0, max (u 8 (5 * s + 1)) 1, min (u 8 (5 * s + 2)) (u 1 0), min (u 8 (5 * s + 3)) (u 1 1))) : psC v = acP x s p := by
  have g : gmC v = gmC u := by
    unfold gmC
    rw [f 16 0 (by decide), f 30 10 (by decide), show v 17 = u 17 from funext fun j => f 17 j (by omega), show v 18 = u 18 from funext fun j => f 18 j (by omega), show v 19 = u 19 from funext fun j => f 19 j (by omega)]
  unfold psC
  rw [g, w, f 30 9 (by decide), f 30 3 (by decide), f 30 4 (by decide), e8, e1]
  have a1 : u 30 9 = p.1 + 1 := congrArg (fun q : Ps => q.1) e
  have a2 : u 30 3 = p.2.1 := congrArg (fun q : Ps => q.2.1) e
  have a3 : u 30 4 = p.2.2.1 := congrArg (fun q : Ps => q.2.2.1) e
  have a5 : gmC u = p.2.2.2.2 := congrArg (fun q : Ps => q.2.2.2.2) e
  rw [a1, a2, a3, a5]
  unfold acP
  rw [acG_0 (Or.inr h5), show acW x s p.2.2.2.1 = _ from if_pos h5]
  rfl
set_option maxRecDepth 20000 in
set_option maxHeartbeats 400000 in
theorem lp_perf {d : Nat} (hd : 5 ≤ d) {P : Hp → Prop} {x : Hp} {F i a b : Nat} {R : Nat → Ps → Ps} {B fr dep : Int} {T : Ps} (v : PV x F i) (hb : b ≤ i) (c : WH (x 1 0) (x 1 1)) (hB : 0 ≤ B ∧ B ≤ 494505) (hl : ∀ s : Nat, a ≤ s → s < b → x 5 s = 6 → ∃ e : Nat, x 6 s = e ∧ s ≤ e ∧ e < b) (hR : ∀ s : Nat, a ≤ s → s < b → x 5 s = 6 → ∀ (B : Int) (p q : Ps), PQ (x 1 0) (x 1 1) B p q → PQ (x 1 0) (x 1 1) B (R s p) (R s q)) (HR : ∀ (g : Hp) (s : Nat) (P : Hp → Prop), a ≤ s → s < b → x 5 s = 6 → FrV x g → PQ (x 1 0) (x 1 1) B (psC g) (psC g) → (∀ g' : Hp, FrV x g' → psC g' = R s (psC g) → P g') → Cl d mX5_repeat [.inr (.inr 30), .inl (s : Int), .inl dep] g (pV P)) (k : ∀ g : Hp, FrV x g → psC g = T → P g) : ∀ (nn : Nat) (s m : Nat) (g : Hp), (a ≤ s) → (s ≤ 61) → (b ≤ s + m) → (FrV x g) → (PQ (x 1 0) (x 1 1) B (psC g) (psC g)) → (pfL x R b m s (psC g) = T) → m < nn → WW mX5_perform (d + 1) (pV P) 3 [some (.inr (.inr 30)), some (.inl fr), some (.inl (b : Int)), some (.inl dep), some (.inl (s : Int))] [] g := by
  intro nn
  induction nn with
  | zero => intro s m g ha hs hm gx ok hE; intros; omega
  | succ nn ih =>
    intro s m g ha hs hm gx ok hE hmu
    have i60 := v.1.2
    have g9 : 0 ≤ g 30 9 ∧ g 30 9 ≤ 3000 := ok.1
    have g10 : g 30 10 = 0 ∨ g 30 10 = 1 := ok.2.2.2.1.2.2
    refine r_iload dX5_perform_3 rfl ?_
    refine r_iload_n dX5_perform_5 rfl rfl ?_
    refine r_icmp_ge (tgt := 236) dX5_perform_6 rfl (by clear hE ok; omega) (by clear hE ok; omega) (fun c_6 => ?_) (fun c_6 => ?_)
    · refine r_vret dX5_perform_236 rfl ?_
      refine ⟨rfl, k g gx ?_⟩
      rw [← hE]
      first
        | exact (pfL_f (fun z => absurd z.1 (by omega)) m).symm
        | exact (pfL_f (fun z => absurd z.2 c_13) m).symm
    · refine r_aload_n dX5_perform_9 rfl rfl ?_
      refine r_getI dX5_perform_10 fl_X5_31 sh_30 rfl ?_
      refine r_if_ne (tgt := 236) dX5_perform_13 rfl (by clear hE ok; omega) (fun c_13 => ?_) (fun c_13 => ?_)
      · refine r_vret dX5_perform_236 rfl ?_
        refine ⟨rfl, k g gx ?_⟩
        rw [← hE]
        first
          | exact (pfL_f (fun z => absurd z.1 (by omega)) m).symm
          | exact (pfL_f (fun z => absurd z.2 c_13) m).symm
      · refine r_aload_n dX5_perform_16 rfl rfl ?_
        refine r_getI dX5_perform_17 fl_X5_28 sh_30 rfl ?_
        refine r_sipush dX5_perform_20 (by decide +kernel) ?_
        refine r_icmp_lt (tgt := 32) dX5_perform_23 rfl (by clear hE ok; omega) ⟨by decide, by decide⟩ (fun c_23 => ?_) (fun c_23 => ?_)
        · refine r_aload_n dX5_perform_32 rfl rfl ?_
          refine r_dup dX5_perform_33 (fun _ h => by cases h) ?_
          refine r_getI dX5_perform_34 fl_X5_28 sh_30 rfl ?_
          refine r_iconst dX5_perform_37 ?_
          refine r_iadd dX5_perform_38 ?_
          refine r_putI dX5_perform_39 fl_X5_28 sh_30 rfl ?_
          obtain ⟨m, rfl⟩ : ∃ q, m = q + 1 := ⟨m - 1, by omega⟩
          have hsb : s < b := by omega
          have fz : flP (psC g) = 0 := c_13
          have h3 : ¬ 3000 ≤ (psC g).1 := show ¬ 3000 ≤ g 30 9 by omega
          refine r_gh (fun u eu => ?_)
          have ux : FrV x u := by rw [eu]; exact gx.u (by decide)
          have up : psC u = onP (psC g) := by rw [eu]; exact ps_on
          have oku : PQ (x 1 0) (x 1 1) B (psC u) (psC u) := by rw [up]; exact ok.on h3
          have ow : WnR (wnC u) := oku.2.2.1.r c
          have og : GmR (gmC u) := oku.2.2.2.1.r c
          have o1 : u 30 10 = 0 ∨ u 30 10 = 1 := oku.2.2.2.1.2.2
          have os1 : (-B ≤ u 30 3 ∧ u 30 3 ≤ B) ∧ (-B ≤ u 30 4 ∧ u 30 4 ≤ B) := oku.2.1
          have os : (-500000 ≤ u 30 3 ∧ u 30 3 ≤ 500000) ∧ (-500000 ≤ u 30 4 ∧ u 30 4 ≤ 500000) := by clear hE ok oku ow og; omega
          have fz2 : u 30 10 = 0 := by rw [eu]; exact c_13
          have u5 : u 5 = x 5 := ux.c (by decide)
          have v5 := (v.2.2 s (by omega)).1
          clear eu
          have i0 : (5 * (s : Int) + 0).toNat = 5 * s := by omega
          have i1 : (5 * (s : Int) + 1).toNat = 5 * s + 1 := by omega
          have i2 : (5 * (s : Int) + 2).toNat = 5 * s + 2 := by omega
          have i3 : (5 * (s : Int) + 3).toNat = 5 * s + 3 := by omega
          refine r_aload_n dX5_perform_42 rfl rfl ?_
          refine r_getR dX5_perform_43 fl_X5_43 sh_30 rfl ?_
          refine r_getR dX5_perform_46 fl_X5_73 sh_4 rfl ?_
          refine r_iload dX5_perform_49 rfl ?_
          refine r_iald dX5_perform_51 sh_5 (by decide) (by clear hE ok oku ow og; omega) ?_
          rw [Int.toNat_natCast, u5]
          rcases (show x 5 s = 0 ∨ x 5 s = 1 ∨ x 5 s = 2 ∨ x 5 s = 3 ∨ x 5 s = 4 ∨ x 5 s = 5 ∨ x 5 s = 6 by omega) with ev | ev | ev | ev | ev | ev | ev
          · rw [ev]
            have ne6 : ¬ x 5 s = 6 := by rw [ev]; decide
            rw [pfL_a ⟨hsb, fz⟩ h3 ne6] at hE
            have okv := ok.ac v (by omega) c h3 (s := s)
            refine r_tsOut (tgt := 230) dX5_perform_52 ⟨by decide, by decide⟩ (by decide) rfl ?_
            refine r_iinc (L' := [_, _, _, _, _]) dX5_perform_230 rfl rfl (by decide) rfl ?_
            refine r_goto (tgt := 3) dX5_perform_233 rfl ?_
            have ep : psC u = acP x s (psC g) := ca_end up FrL.rf (by rw [ev]; decide) (acG_0 (Or.inl ev)).symm
            exact ih (s + 1) m u (by omega) (by omega) (by omega) (ux) (by rw [ep]; exact okv) (by rw [ep]; exact hE) (by omega)
          · rw [ev]
            have u8 : u 8 = x 8 := ux.c (by decide)
            have ne6 : ¬ x 5 s = 6 := by rw [ev]; decide
            rw [pfL_a ⟨hsb, fz⟩ h3 ne6] at hE
            have okv := ok.ac v (by omega) c h3 (s := s)
            obtain ⟨f, e7, hf, n0, n1, n2⟩ := (v.2.2 s (by omega)).2.1 ev
            obtain ⟨cc, ec, hc, hp⟩ := v.2.1 f hf
            have u7 : u 7 = x 7 := ux.c (by decide)
            have u11 : u 11 = x 11 := ux.c (by decide)
            have u12 : u 12 = x 12 := ux.c (by decide)
            have u13 : u 13 = x 13 := ux.c (by decide)
            have F8 := v.1.1
            refine r_tsIn (v := 1) (off := 67) (tgt := 119) dX5_perform_52 rfl ⟨by decide, by decide⟩ (by decide) (by decide) (by decide +kernel) rfl ?_
            refine r_aload_n dX5_perform_119 rfl rfl ?_
            refine r_iload dX5_perform_120 rfl ?_
            refine r_callVU (av := [_]) (M' := mX5_drawForm) dX5_perform_122 vX5_drawForm ml_X5_89 sh_30 (by decide) rfl rfl rfl rfl (by simp [wtA]) (sp_X5_drawForm (s := s) (f := f) (c := cc) (by omega) (by omega) ⟨by rw [u7]; exact e7, by omega⟩ ⟨by rw [u11]; exact ec, hc.1, hc.2⟩ (by rw [u8]; exact ⟨n0, n1, n2⟩) os (by rw [u12, u13]; exact hp) ow og o1 (fun h2 f2 v2 => ?_))
            refine r_goto (tgt := 230) dX5_perform_125 rfl ?_
            refine r_iinc (L' := [_, _, _, _, _]) dX5_perform_230 rfl rfl (by decide) rfl ?_
            refine r_goto (tgt := 3) dX5_perform_233 rfl ?_
            rw [u8, u12, u13, ← acG_1 ev e7 ec] at v2
            have ep : psC h2 = acP x s (psC g) := ca_end up f2 (by rw [ev]; decide) v2
            exact ih (s + 1) m h2 (by omega) (by omega) (by omega) (ux.L f2) (by rw [ep]; exact okv) (by rw [ep]; exact hE) (by omega)
          · rw [ev]
            have u8 : u 8 = x 8 := ux.c (by decide)
            have ne6 : ¬ x 5 s = 6 := by rw [ev]; decide
            rw [pfL_a ⟨hsb, fz⟩ h3 ne6] at hE
            have okv := ok.ac v (by omega) c h3 (s := s)
            have nn := (v.2.2 s (by omega)).2.2.1 (Or.inl ev)
            have n0 : 0 ≤ x 8 (5 * s) ∧ x 8 (5 * s) ≤ 999 := nn 0 (by decide)
            have n1 := nn 1 (by decide)
            have n2 := nn 2 (by decide)
            have n3 := nn 3 (by decide)
            refine r_tsIn (v := 2) (off := 76) (tgt := 128) dX5_perform_52 rfl ⟨by decide, by decide⟩ (by decide) (by decide) (by decide +kernel) rfl ?_
            refine r_aload_n dX5_perform_128 rfl rfl ?_
            refine r_aload_n dX5_perform_129 rfl rfl ?_
            refine r_getR dX5_perform_130 fl_X5_43 sh_30 rfl ?_
            refine r_iload dX5_perform_133 rfl ?_
            refine r_iconst dX5_perform_135 ?_
            refine r_callVI (av := [_, _]) (M' := mX7_get) dX5_perform_136 vX7_get ml_X5_93 sh_4 (by decide) rfl rfl rfl rfl (by simp [wtA]) (sp_X7_get (by omega) (by omega) (by decide) ?_)
            rw [i0, u8]
            refine r_aload_n dX5_perform_139 rfl rfl ?_
            refine r_getR dX5_perform_140 fl_X5_43 sh_30 rfl ?_
            refine r_iload dX5_perform_143 rfl ?_
            refine r_iconst dX5_perform_145 ?_
            refine r_callVI (av := [_, _]) (M' := mX7_get) dX5_perform_146 vX7_get ml_X5_93 sh_4 (by decide) rfl rfl rfl rfl (by simp [wtA]) (sp_X7_get (by omega) (by omega) (by decide) ?_)
            rw [i1, u8]
            refine r_aload_n dX5_perform_149 rfl rfl ?_
            refine r_getR dX5_perform_150 fl_X5_43 sh_30 rfl ?_
            refine r_iload dX5_perform_153 rfl ?_
            refine r_iconst dX5_perform_155 ?_
            refine r_callVI (av := [_, _]) (M' := mX7_get) dX5_perform_156 vX7_get ml_X5_93 sh_4 (by decide) rfl rfl rfl rfl (by simp [wtA]) (sp_X7_get (by omega) (by omega) (by decide) ?_)
            rw [i2, u8]
            refine r_aload_n dX5_perform_159 rfl rfl ?_
            refine r_getR dX5_perform_160 fl_X5_43 sh_30 rfl ?_
            refine r_iload dX5_perform_163 rfl ?_
            refine r_iconst dX5_perform_165 ?_
            refine r_callVI (av := [_, _]) (M' := mX7_get) dX5_perform_166 vX7_get ml_X5_93 sh_4 (by decide) rfl rfl rfl rfl (by simp [wtA]) (sp_X7_get (by omega) (by omega) (by decide) ?_)
            rw [i3, u8]
            refine r_callVU (av := [_, _, _, _]) (M' := mX5_drawLine) dX5_perform_169 vX5_drawLine ml_X5_96 sh_30 (by decide) rfl rfl rfl rfl (by simp [wtA]) (sp_X5_drawLine (by omega) (ln_b n0 n1 n2 n3 os) ow og fz2 (fun h2 f2 v2 => ?_))
            refine r_goto (tgt := 230) dX5_perform_172 rfl ?_
            refine r_iinc (L' := [_, _, _, _, _]) dX5_perform_230 rfl rfl (by decide) rfl ?_
            refine r_goto (tgt := 3) dX5_perform_233 rfl ?_
            rw [← acG_2 ev] at v2
            have ep : psC h2 = acP x s (psC g) := ca_end up f2 (by rw [ev]; decide) v2
            exact ih (s + 1) m h2 (by omega) (by omega) (by omega) (ux.L f2) (by rw [ep]; exact okv) (by rw [ep]; exact hE) (by omega)
          · rw [ev]
            have u8 : u 8 = x 8 := ux.c (by decide)
            have ne6 : ¬ x 5 s = 6 := by rw [ev]; decide
            rw [pfL_a ⟨hsb, fz⟩ h3 ne6] at hE
            have okv := ok.ac v (by omega) c h3 (s := s)
            have nn := (v.2.2 s (by omega)).2.2.2.1 ev
            have n0 : 0 ≤ x 8 (5 * s) ∧ x 8 (5 * s) ≤ 999 := nn 0 (by decide)
            have n1 := nn 1 (by decide)
            refine r_tsIn (v := 3) (off := 123) (tgt := 175) dX5_perform_52 rfl ⟨by decide, by decide⟩ (by decide) (by decide) (by decide +kernel) rfl ?_
            refine r_aload_n dX5_perform_175 rfl rfl ?_
            refine r_aload_n dX5_perform_176 rfl rfl ?_
            refine r_getR dX5_perform_177 fl_X5_43 sh_30 rfl ?_
            refine r_iload dX5_perform_180 rfl ?_
            refine r_iconst dX5_perform_182 ?_
            refine r_callVI (av := [_, _]) (M' := mX7_get) dX5_perform_183 vX7_get ml_X5_93 sh_4 (by decide) rfl rfl rfl rfl (by simp [wtA]) (sp_X7_get (by omega) (by omega) (by decide) ?_)
            rw [i0, u8]
            refine r_aload_n dX5_perform_186 rfl rfl ?_
            refine r_getI dX5_perform_187 fl_X5_7 sh_30 rfl ?_
            refine r_iadd dX5_perform_190 ?_
            refine r_aload_n dX5_perform_191 rfl rfl ?_
            refine r_getR dX5_perform_192 fl_X5_43 sh_30 rfl ?_
            refine r_iload dX5_perform_195 rfl ?_
            refine r_iconst dX5_perform_197 ?_
            refine r_callVI (av := [_, _]) (M' := mX7_get) dX5_perform_198 vX7_get ml_X5_93 sh_4 (by decide) rfl rfl rfl rfl (by simp [wtA]) (sp_X7_get (by omega) (by omega) (by decide) ?_)
            rw [i1, u8]
            refine r_aload_n dX5_perform_201 rfl rfl ?_
            refine r_getI dX5_perform_202 fl_X5_13 sh_30 rfl ?_
            refine r_iadd dX5_perform_205 ?_
            refine r_callVU (av := [_, _]) (M' := mX5_goTo) dX5_perform_206 vX5_goTo ml_X5_100 sh_30 (by decide) rfl rfl rfl rfl (by simp [wtA]) (sp_X5_goTo (by omega) (by clear hE ok okv nn v HR og ow; omega) ow og fz2 (fun h2 f2 v2 => ?_))
            refine r_goto (tgt := 230) dX5_perform_209 rfl ?_
            refine r_iinc (L' := [_, _, _, _, _]) dX5_perform_230 rfl rfl (by decide) rfl ?_
            refine r_goto (tgt := 3) dX5_perform_233 rfl ?_
            rw [← acG_3 ev] at v2
            have ep : psC h2 = acP x s (psC g) := ca_end up f2 (by rw [ev]; decide) v2
            exact ih (s + 1) m h2 (by omega) (by omega) (by omega) (ux.L f2) (by rw [ep]; exact okv) (by rw [ep]; exact hE) (by omega)
          · rw [ev]
            have u8 : u 8 = x 8 := ux.c (by decide)
            have ne6 : ¬ x 5 s = 6 := by rw [ev]; decide
            rw [pfL_a ⟨hsb, fz⟩ h3 ne6] at hE
            have okv := ok.ac v (by omega) c h3 (s := s)
            have nn := (v.2.2 s (by omega)).2.2.1 (Or.inr (Or.inl ev))
            have n4 := (v.2.2 s (by omega)).2.2.2.2.1 ev
            have n0 : 0 ≤ x 8 (5 * s) ∧ x 8 (5 * s) ≤ 999 := nn 0 (by decide)
            refine r_tsIn (v := 4) (off := 160) (tgt := 212) dX5_perform_52 rfl ⟨by decide, by decide⟩ (by decide) (by decide) (by decide +kernel) rfl ?_
            refine r_aload_n dX5_perform_212 rfl rfl ?_
            refine r_iload dX5_perform_213 rfl ?_
            refine r_callVU (av := [_]) (M' := mX5_drawHatch) dX5_perform_215 vX5_drawHatch ml_X5_103 sh_30 (by decide) rfl rfl rfl rfl (by simp [wtA]) (sp_X5_drawHatch (s := s) (N := htN (x 8 (5 * s + 1)) (x 8 (5 * s + 4)) (x 8 (5 * s + 3))) (by omega) (by omega) (by rw [u8]; exact htN_i n4.1) (by rw [u8]; exact ⟨n0, nn 1 (by decide), nn 2 (by decide), nn 3 (by decide), n4⟩) os ow og o1 (fun h2 f2 v2 => ?_))
            refine r_goto (tgt := 230) dX5_perform_218 rfl ?_
            refine r_iinc (L' := [_, _, _, _, _]) dX5_perform_230 rfl rfl (by decide) rfl ?_
            refine r_goto (tgt := 3) dX5_perform_233 rfl ?_
            rw [u8, ← acG_4 ev] at v2
            have ep : psC h2 = acP x s (psC g) := ca_end up f2 (by rw [ev]; decide) v2
            exact ih (s + 1) m h2 (by omega) (by omega) (by omega) (ux.L f2) (by rw [ep]; exact okv) (by rw [ep]; exact hE) (by omega)
          · rw [ev]
            have u8 : u 8 = x 8 := ux.c (by decide)
            have ne6 : ¬ x 5 s = 6 := by rw [ev]; decide
            rw [pfL_a ⟨hsb, fz⟩ h3 ne6] at hE
            have okv := ok.ac v (by omega) c h3 (s := s)
            have nn := (v.2.2 s (by omega)).2.2.1 (Or.inr (Or.inr ev))
            have u1 : u 1 = x 1 := ux.c (by decide)
            refine r_tsIn (v := 5) (off := 169) (tgt := 221) dX5_perform_52 rfl ⟨by decide, by decide⟩ (by decide) (by decide) (by decide +kernel) rfl ?_
            refine r_aload_n dX5_perform_221 rfl rfl ?_
            refine r_iload dX5_perform_222 rfl ?_
            refine r_callVU (av := [_]) (M' := mX5_narrow) dX5_perform_224 vX5_narrow ml_X5_106 sh_30 (by decide) rfl rfl rfl rfl (by simp [wtA]) (sp_X5_narrow (s := s) (by omega) (by omega) (by rw [u8]; exact nn) (by rw [u1]; exact c) (fun h2 f2 v2 => ?_))
            refine r_goto (tgt := 230) dX5_perform_227 rfl ?_
            refine r_iinc (L' := [_, _, _, _, _]) dX5_perform_230 rfl rfl (by decide) rfl ?_
            refine r_goto (tgt := 3) dX5_perform_233 rfl ?_
            have ep : psC h2 = acP x s (psC g) := ca_5 up ev u8 u1 f2 v2
            have fx : FrV x h2 := fun a k z1 z2 z3 z4 z5 z6 => (f2 a k (fun z => z5 ⟨z.1, by omega⟩)).trans (ux a k z1 z2 z3 z4 z5 z6)
            exact ih (s + 1) m h2 (by omega) (by omega) (by omega) (fx) (by rw [ep]; exact okv) (by rw [ep]; exact hE) (by omega)
          · rw [ev]
            obtain ⟨e, e6, el, eb⟩ := hl s ha hsb ev
            have hE2 := (pfL_6 (R := R) (b := b) (m := m) ⟨hsb, fz⟩ h3 ev).symm.trans hE
            rw [e6, Int.toNat_natCast, ← up] at hE2
            have hrs := hR s ha hsb ev
            refine r_tsIn (v := 6) (off := 40) (tgt := 92) dX5_perform_52 rfl ⟨by decide, by decide⟩ (by decide) (by decide) (by decide +kernel) rfl ?_
            refine r_aload_n dX5_perform_92 rfl rfl ?_
            refine r_iload dX5_perform_93 rfl ?_
            refine r_iload_n dX5_perform_95 rfl rfl ?_
            refine r_callVU (av := [_, _]) (M' := mX5_repeat) dX5_perform_96 vX5_repeat ml_X5_76 sh_30 (by decide) rfl rfl rfl rfl (by simp [wtA]) (HR u s _ ha hsb ev ux oku (fun h2 f2 v2 => ?_))
            refine r_iload dX5_perform_99 rfl ?_
            refine r_aload_n dX5_perform_101 rfl rfl ?_
            refine r_getR dX5_perform_102 fl_X5_43 sh_30 rfl ?_
            refine r_getR dX5_perform_105 fl_X5_80 sh_4 rfl ?_
            refine r_iload dX5_perform_108 rfl ?_
            refine r_iald dX5_perform_110 sh_6 (by decide) (by clear hE hE2 ok oku; omega) ?_
            rw [show h2 6 ((s : Int)).toNat = (e : Int) by rw [Int.toNat_natCast, f2.c (by decide)]; exact e6]
            refine r_mmax (by clear hE hE2 ok oku; omega) (by clear hE hE2 ok oku; omega) dX5_perform_111 ml_X5_83 (by simp [wtA]) ?_
            rw [show max ((s : Int)) ((e : Int)) = (e : Int) by clear hE hE2 ok oku; omega]
            refine r_istore (L' := [_, _, _, _, _]) dX5_perform_114 rfl (by decide) rfl ?_
            refine r_goto (tgt := 230) dX5_perform_116 rfl ?_
            refine r_iinc (L' := [_, _, _, _, _]) dX5_perform_230 rfl rfl (by decide) rfl ?_
            refine r_goto (tgt := 3) dX5_perform_233 rfl ?_
            have ok2 := hrs B _ _ oku
            rw [← v2] at ok2 hE2
            exact ih (e + 1) m h2 (by omega) (by omega) (by omega) f2 ok2 hE2 (by omega)
        · refine r_aload_n dX5_perform_26 rfl rfl ?_
          refine r_iconst dX5_perform_27 ?_
          refine r_putZ dX5_perform_28 fl_X5_31 sh_30 rfl (.inr rfl) ?_
          refine r_vret dX5_perform_31 rfl ?_
          obtain ⟨m, rfl⟩ : ∃ q, m = q + 1 := ⟨m - 1, by omega⟩
          refine ⟨rfl, k _ (gx.u (by decide)) ?_⟩
          rw [← hE, pfL_3 ⟨by omega, c_13⟩ (show 3000 ≤ g 30 9 by omega)]
          rfl
