/-! PARTS and SKIPS; the class -/
/-- steps at the i-th of p places of the way -/
noncomputable def ptL (K E x0 y0 x1 y1 p : Int) (i : Nat) : Int := stF K E (btF x0 x1 i p) (btF y0 y1 i p)
noncomputable def ptR (W K E x0 y0 x1 y1 p : Int) (i : Nat) : Int := stF K E (100 * W - btF x0 x1 i p) (btF y0 y1 i p)
noncomputable def siF (K W E x0 y0 x1 y1 p : Int) (i : Nat) : Int := strF K W E x0 y0 (x1 - x0) (y1 - y0) (ptL K E x0 y0 x1 y1 p i) (ptR W K E x0 y0 x1 y1 p i) (ptL K E x0 y0 x1 y1 p (i + 1)) (ptR W K E x0 y0 x1 y1 p (i + 1))
noncomputable def sinF (K W E x0 y0 x1 y1 p : Int) : Int := mxN (siF K W E x0 y0 x1 y1 p) p.toNat
noncomputable def frs (K W E x0 y0 x1 y1 e : Int) : Nat → Nat → Int
  | _, 0 => -1
  | p, n + 1 => if sinF K W E x0 y0 x1 y1 p ≤ e then p else frs K W E x0 y0 x1 y1 e (p + 1) n
theorem pt_r {W H K E x0 y0 x1 y1 p : Int} {i : Nat} (hW : 20 ≤ W ∧ W ≤ 200) (hH : 20 ≤ H ∧ H ≤ 200) (hK : 2 ≤ K ∧ K ≤ 20) (hE : 0 ≤ E ∧ E ≤ 99) (h1 : 0 ≤ x0 ∧ x0 ≤ 100 * W) (h2 : 0 ≤ y0 ∧ y0 ≤ 100 * H) (h3 : 0 ≤ x1 ∧ x1 ≤ 100 * W) (h4 : 0 ≤ y1 ∧ y1 ≤ 100 * H) (hi : (i : Int) ≤ p) :
    (0 ≤ ptL K E x0 y0 x1 y1 p i ∧ ptL K E x0 y0 x1 y1 p i ≤ 5660) ∧ (0 ≤ ptR W K E x0 y0 x1 y1 p i ∧ ptR W K E x0 y0 x1 y1 p i ≤ 5660) ∧ (0 ≤ btF x0 x1 i p ∧ btF x0 x1 i p ≤ 100 * W) ∧ (0 ≤ btF y0 y1 i p ∧ btF y0 y1 i p ≤ 100 * H) := by
  have b1 := btF_rB (f := x0) (l := x1) (i := i) (n := p) h1 h3 (by omega)
  have b2 := btF_rB (f := y0) (l := y1) (i := i) (n := p) h2 h4 (by omega)
  have s1 := stF_r (K := K) (E := E) (x := btF x0 x1 i p) (y := btF y0 y1 i p) hK hE (by omega) (by omega)
  have s2 := stF_r (K := K) (E := E) (x := 100 * W - btF x0 x1 i p) (y := btF y0 y1 i p) hK hE (by omega) (by omega)
  unfold ptL ptR
  exact ⟨⟨s1.1, s1.2.1⟩, ⟨s2.1, s2.2.1⟩, b1, b2⟩
set_option maxRecDepth 20000 in
set_option maxHeartbeats 400000 in
theorem lp_isTrue {d : Nat} (hd : 4 ≤ d) {P : Int → Hp → Prop} {h : Hp} {m p e : Int} (hw : WOK h) (hx0 : -300000000 ≤ h 32 2 ∧ h 32 2 ≤ 300000000) (hy0 : 0 ≤ h 32 3 ∧ h 32 3 ≤ 2019800) (hdx : -600000000 ≤ h 32 4 ∧ h 32 4 ≤ 600000000) (hdy : -2019800 ≤ h 32 5 ∧ h 32 5 ≤ 2019800) (hln : h 32 6 = lnF (h 32 4) (h 32 5)) (k1 : 0 ≤ h 32 2 ∧ h 32 2 ≤ 100 * h 1 0) (k2 : 0 ≤ h 32 3 ∧ h 32 3 ≤ 100 * h 1 1) (k3 : 0 ≤ h 32 2 + h 32 4 ∧ h 32 2 + h 32 4 ≤ 100 * h 1 0) (k4 : 0 ≤ h 32 3 + h 32 5 ∧ h 32 3 + h 32 5 ≤ 100 * h 1 1) (hp : 1 ≤ p ∧ p ≤ 64) (he : 0 ≤ e ∧ e ≤ 2147483647) (kt : sinF (h 1 2) (h 1 0) (h 1 3) (h 32 2) (h 32 3) (h 32 2 + h 32 4) (h 32 3 + h 32 5) p ≤ e → ∀ g : Hp, Fr67 h g → P 1 g) (kf : ¬ sinF (h 1 2) (h 1 0) (h 1 3) (h 32 2) (h 32 3) (h 32 2 + h 32 4) (h 32 3 + h 32 5) p ≤ e → ∀ g : Hp, Fr67 h g → P 0 g) : ∀ (nn : Nat) (i : Nat) (l r : Int) (g : Hp) (o7 o8 o9 o10 o11 o12 : Option AV), ((i : Int) ≤ p) → (l = ptL (h 1 2) (h 1 3) (h 32 2) (h 32 3) (h 32 2 + h 32 4) (h 32 3 + h 32 5) p i) → (r = ptR (h 1 0) (h 1 2) (h 1 3) (h 32 2) (h 32 3) (h 32 2 + h 32 4) (h 32 3 + h 32 5) p i) → (mxN (siF (h 1 2) (h 1 0) (h 1 3) (h 32 2) (h 32 3) (h 32 2 + h 32 4) (h 32 3 + h 32 5) p) i ≤ e) → (Fr67 h g) → p.toNat - i < nn → WW mX9_isTrue (d + 1) (pI P) 25 [some (.inr (.inr 32)), some (.inl m), some (.inl p), some (.inl e), some (.inl l), some (.inl r), some (.inl ((i : Int) + 1)), o7, o8, o9, o10, o11, o12] [] g := by
  intro nn
  induction nn with
  | zero => intro i l r g o7 o8 o9 o10 o11 o12 hi hl hr hmx hg; intros; omega
  | succ nn ih =>
    intro i l r g o7 o8 o9 o10 o11 o12 hi hl hr hmx hg hmu
    have w0 := hg.1 1 0 (by omega)
    have w1 := hg.1 1 1 (by omega)
    have w2 := hg.1 1 2 (by omega)
    have w3 := hg.1 1 3 (by omega)
    have w4 := hg.1 1 4 (by omega)
    have w5 := hg.1 1 5 (by omega)
    have v2 := hg.1 32 2 (by omega)
    have v3 := hg.1 32 3 (by omega)
    have v4 := hg.1 32 4 (by omega)
    have v5 := hg.1 32 5 (by omega)
    have v6 := hg.1 32 6 (by omega)
    have gw : WOK g := by have := hg.2; omega
    have pi := pt_r (W := h 1 0) (H := h 1 1) (K := h 1 2) (E := h 1 3) (p := p) (i := i) (by omega) (by omega) (by omega) (by omega) k1 k2 k3 k4 hi
    refine r_iload dX9_isTrue_25 rfl ?_
    refine r_iload_n dX9_isTrue_27 rfl rfl ?_
    refine r_icmp_gt (tgt := 129) dX9_isTrue_28 rfl (by omega) (by omega) (fun c_28 => ?_) (fun c_28 => ?_)
    · refine r_iconst dX9_isTrue_129 ?_
      refine r_zret dX9_isTrue_130 rfl (.inr rfl) ?_
      refine ⟨_, rfl, kt ?_ _ hg⟩
      unfold sinF
      rw [show p.toNat = i by omega]
      exact hmx
    · have pj := pt_r (W := h 1 0) (H := h 1 1) (K := h 1 2) (E := h 1 3) (p := p) (i := i + 1) (by omega) (by omega) (by omega) (by omega) k1 k2 k3 k4 (by omega)
      have m1 := mulS (a := (i : Int) + 1) (b := g 32 4) (A := 64) (B := 600000000) (by omega) (by omega)
      have m2 := mulS (a := (i : Int) + 1) (b := g 32 5) (A := 64) (B := 600000000) (by omega) (by omega)
      have eb1 : g 32 2 + (((i : Int) + 1) * g 32 4).tdiv p = btF (h 32 2) (h 32 2 + h 32 4) ((i + 1 : Nat) : Int) p := by
        unfold btF
        rw [if_pos (by omega), v2, v4, show h 32 2 + h 32 4 - h 32 2 = h 32 4 by omega]
        rfl
      have eb2 : g 32 3 + (((i : Int) + 1) * g 32 5).tdiv p = btF (h 32 3) (h 32 3 + h 32 5) ((i + 1 : Nat) : Int) p := by
        unfold btF
        rw [if_pos (by omega), v3, v5, show h 32 3 + h 32 5 - h 32 3 = h 32 5 by omega]
        rfl
      refine r_aload_n dX9_isTrue_31 rfl rfl ?_
      refine r_getJ dX9_isTrue_32 fl_X9_9 sh_32 rfl ?_
      refine r_iload dX9_isTrue_35 rfl ?_
      refine r_i2l dX9_isTrue_37 (by omega) ?_
      refine r_aload_n dX9_isTrue_38 rfl rfl ?_
      refine r_getJ dX9_isTrue_39 fl_X9_18 sh_32 rfl ?_
      refine r_lmul dX9_isTrue_42 ?_
      refine r_iload_n dX9_isTrue_43 rfl rfl ?_
      refine r_i2l dX9_isTrue_44 (by omega) ?_
      refine r_ldiv dX9_isTrue_45 (by omega) (by omega) (by omega) ?_
      refine r_ladd dX9_isTrue_46 ?_
      refine r_eqJ eb1 ?_
      refine r_lstore (L' := [_, _, _, _, _, _, _, _, _, _, _, _, _]) dX9_isTrue_47 rfl (by decide) rfl ?_
      refine r_aload_n dX9_isTrue_49 rfl rfl ?_
      refine r_getJ dX9_isTrue_50 fl_X9_15 sh_32 rfl ?_
      refine r_iload dX9_isTrue_53 rfl ?_
      refine r_i2l dX9_isTrue_55 (by omega) ?_
      refine r_aload_n dX9_isTrue_56 rfl rfl ?_
      refine r_getJ dX9_isTrue_57 fl_X9_21 sh_32 rfl ?_
      refine r_lmul dX9_isTrue_60 ?_
      refine r_iload_n dX9_isTrue_61 rfl rfl ?_
      refine r_i2l dX9_isTrue_62 (by omega) ?_
      refine r_ldiv dX9_isTrue_63 (by omega) (by omega) (by omega) ?_
      refine r_ladd dX9_isTrue_64 ?_
      refine r_eqJ eb2 ?_
      refine r_lstore (L' := [_, _, _, _, _, _, _, _, _, _, _, _, _]) dX9_isTrue_65 rfl (by decide) rfl ?_
      refine r_aload_n dX9_isTrue_67 rfl rfl ?_
      refine r_getR dX9_isTrue_68 fl_X9_27 sh_32 rfl ?_
      refine r_lload dX9_isTrue_71 rfl ?_
      refine r_lload dX9_isTrue_73 rfl ?_
      refine r_callVI (av := [_, _]) (M' := mX10_leftSteps) dX9_isTrue_75 vX10_leftSteps ml_X9_78 sh_1 (by decide) rfl rfl rfl rfl (by simp [wtA]) (sp_X10_leftSteps (by omega) (by omega) (by omega) (by omega) ?_)
      refine r_eqI (y := ptL (h 1 2) (h 1 3) (h 32 2) (h 32 3) (h 32 2 + h 32 4) (h 32 3 + h 32 5) p (i + 1)) (by rw [w2, w3]; rfl) ?_
      refine r_istore (L' := [_, _, _, _, _, _, _, _, _, _, _, _, _]) dX9_isTrue_78 rfl (by decide) rfl ?_
      refine r_aload_n dX9_isTrue_80 rfl rfl ?_
      refine r_getR dX9_isTrue_81 fl_X9_27 sh_32 rfl ?_
      refine r_lload dX9_isTrue_84 rfl ?_
      refine r_lload dX9_isTrue_86 rfl ?_
      refine r_callVI (av := [_, _]) (M' := mX10_rightSteps) dX9_isTrue_88 vX10_rightSteps ml_X9_82 sh_1 (by decide) rfl rfl rfl rfl (by simp [wtA]) (sp_X10_rightSteps (by omega) (by omega) (by omega) (by omega) ?_)
      refine r_eqI (y := ptR (h 1 0) (h 1 2) (h 1 3) (h 32 2) (h 32 3) (h 32 2 + h 32 4) (h 32 3 + h 32 5) p (i + 1)) (by rw [w0, w2, w3]; rfl) ?_
      refine r_istore (L' := [_, _, _, _, _, _, _, _, _, _, _, _, _]) dX9_isTrue_91 rfl (by decide) rfl ?_
      refine r_aload_n dX9_isTrue_93 rfl rfl ?_
      refine r_iload dX9_isTrue_94 rfl ?_
      refine r_iload dX9_isTrue_96 rfl ?_
      refine r_iload dX9_isTrue_98 rfl ?_
      refine r_iload dX9_isTrue_100 rfl ?_
      refine r_iload_n dX9_isTrue_102 rfl rfl ?_
      refine r_i2l dX9_isTrue_103 (by omega) ?_
      refine r_callVJ (av := [_, _, _, _, _]) (M' := mX9_furthest) dX9_isTrue_104 vX9_furthest ml_X9_62 sh_32 (by decide) rfl rfl rfl rfl (by simp [wtA]) (sp_X9_furthest (by omega) gw (by omega) (by omega) (by omega) (by omega) (by omega) (by omega) (by omega) (by omega) (by rw [v6, v4, v5]; exact hln) (by omega) (fun v_104 h_104 f0_104 f1_104 f2_104 f3_104 => ?_))
      have es : strF (g 1 2) (g 1 0) (g 1 3) (g 32 2) (g 32 3) (g 32 4) (g 32 5) l r (ptL (h 1 2) (h 1 3) (h 32 2) (h 32 3) (h 32 2 + h 32 4) (h 32 3 + h 32 5) p (i + 1)) (ptR (h 1 0) (h 1 2) (h 1 3) (h 32 2) (h 32 3) (h 32 2 + h 32 4) (h 32 3 + h 32 5) p (i + 1)) = siF (h 1 2) (h 1 0) (h 1 3) (h 32 2) (h 32 3) (h 32 2 + h 32 4) (h 32 3 + h 32 5) p i := by
        unfold siF
        rw [w0, w2, w3, v2, v3, v4, v5, hl, hr, show h 32 2 + h 32 4 - h 32 2 = h 32 4 by omega, show h 32 3 + h 32 5 - h 32 3 = h 32 5 by omega]
      rw [es] at f2_104 f3_104
      refine r_iload_n dX9_isTrue_107 rfl rfl ?_
      refine r_i2l dX9_isTrue_108 (by omega) ?_
      refine r_lcmp_le (tgt := 115) dX9_isTrue_109 dX9_isTrue_110 rfl (by omega) (by omega) (fun c_109 => ?_) (fun c_109 => ?_)
      · refine r_iload dX9_isTrue_115 rfl ?_
        refine r_istore (L' := [_, _, _, _, _, _, _, _, _, _, _, _, _]) dX9_isTrue_117 rfl (by decide) rfl ?_
        refine r_iload dX9_isTrue_119 rfl ?_
        refine r_istore (L' := [_, _, _, _, _, _, _, _, _, _, _, _, _]) dX9_isTrue_121 rfl (by decide) rfl ?_
        refine r_iinc (L' := [_, _, _, _, _, _, _, _, _, _, _, _, _]) dX9_isTrue_123 rfl rfl (by decide) rfl ?_
        refine r_goto (tgt := 25) dX9_isTrue_126 rfl ?_
        rw [show (i : Int) + 1 + 1 = ((i + 1 : Nat) : Int) + 1 by omega]
        refine ih (i + 1) _ _ _ _ _ _ _ _ _ (by omega) rfl rfl ?_ (hg.tr f0_104) (by omega)
        rw [mxN]
        rcases ilg e (siF (h 1 2) (h 1 0) (h 1 3) (h 32 2) (h 32 3) (h 32 2 + h 32 4) (h 32 3 + h 32 5) p i) with y | y
        · have := f3_104 y
          omega
        · omega
      · refine r_iconst dX9_isTrue_113 ?_
        refine r_zret dX9_isTrue_114 rfl (.inl rfl) ?_
        refine ⟨_, rfl, kf (fun z => ?_) _ (hg.tr f0_104)⟩
        have z2 := mxN_mono (f := siF (h 1 2) (h 1 0) (h 1 3) (h 32 2) (h 32 3) (h 32 2 + h 32 4) (h 32 3 + h 32 5) p) (i := i + 1) (j := p.toNat) (by omega)
        rw [mxN] at z2
        unfold sinF at z
        rcases ilg e (siF (h 1 2) (h 1 0) (h 1 3) (h 32 2) (h 32 3) (h 32 2 + h 32 4) (h 32 3 + h 32 5) p i) with y | y
        · omega
        · have := f2_104 y
          omega
set_option maxRecDepth 20000 in
set_option maxHeartbeats 400000 in
theorem sp_X9_isTrue {d : Nat} (hd : 5 ≤ d) {m p e : Int} {h : Hp}  (hw : WOK h) (hx0 : -300000000 ≤ h 32 2 ∧ h 32 2 ≤ 300000000) (hy0 : 0 ≤ h 32 3 ∧ h 32 3 ≤ 2019800) (hdx : -600000000 ≤ h 32 4 ∧ h 32 4 ≤ 600000000) (hdy : -2019800 ≤ h 32 5 ∧ h 32 5 ≤ 2019800) (hln : h 32 6 = lnF (h 32 4) (h 32 5)) (k1 : 0 ≤ h 32 2 ∧ h 32 2 ≤ 100 * h 1 0) (k2 : 0 ≤ h 32 3 ∧ h 32 3 ≤ 100 * h 1 1) (k3 : 0 ≤ h 32 2 + h 32 4 ∧ h 32 2 + h 32 4 ≤ 100 * h 1 0) (k4 : 0 ≤ h 32 3 + h 32 5 ∧ h 32 3 + h 32 5 ≤ 100 * h 1 1) (hp : 1 ≤ p ∧ p ≤ 64) (he : 0 ≤ e ∧ e ≤ 2147483647) (hm : 0 ≤ m ∧ m ≤ 149) (hl : h 20 m.toNat = stF (h 1 2) (h 1 3) (h 32 2) (h 32 3)) (hr : h 21 m.toNat = stF (h 1 2) (h 1 3) (100 * h 1 0 - h 32 2) (h 32 3)) {P : Int → Hp → Prop} (kt : sinF (h 1 2) (h 1 0) (h 1 3) (h 32 2) (h 32 3) (h 32 2 + h 32 4) (h 32 3 + h 32 5) p ≤ e → ∀ g : Hp, Fr67 h g → P 1 g) (kf : ¬ sinF (h 1 2) (h 1 0) (h 1 3) (h 32 2) (h 32 3) (h 32 2 + h 32 4) (h 32 3 + h 32 5) p ≤ e → ∀ g : Hp, Fr67 h g → P 0 g) : Cl d mX9_isTrue [.inr (.inr 32), .inl m, .inl p, .inl e] h (pI P) := by
  refine Cl.of (L := [some (.inr (.inr 32)), some (.inl m), some (.inl p), some (.inl e), none, none, none, none, none, none, none, none, none]) (by decide +kernel) (Nat.le_of_ble_eq_true rfl) rfl ?_
  obtain ⟨d, rfl⟩ : ∃ q, d = q + 1 := ⟨d - 1, by omega⟩
  refine r_aload_n dX9_isTrue_0 rfl rfl ?_
  refine r_getR dX9_isTrue_1 fl_X9_31 sh_32 rfl ?_
  refine r_getR dX9_isTrue_4 fl_X9_35 sh_16 rfl ?_
  refine r_iload_n dX9_isTrue_7 rfl rfl ?_
  refine r_iald dX9_isTrue_8 sh_20 (by decide) (by omega) ?_
  refine r_istore (L' := [_, _, _, _, _, _, _, _, _, _, _, _, _]) dX9_isTrue_9 rfl (by decide) rfl ?_
  refine r_aload_n dX9_isTrue_11 rfl rfl ?_
  refine r_getR dX9_isTrue_12 fl_X9_31 sh_32 rfl ?_
  refine r_getR dX9_isTrue_15 fl_X9_41 sh_16 rfl ?_
  refine r_iload_n dX9_isTrue_18 rfl rfl ?_
  refine r_iald dX9_isTrue_19 sh_21 (by decide) (by omega) ?_
  refine r_istore (L' := [_, _, _, _, _, _, _, _, _, _, _, _, _]) dX9_isTrue_20 rfl (by decide) rfl ?_
  refine r_iconst dX9_isTrue_22 ?_
  refine r_istore (L' := [_, _, _, _, _, _, _, _, _, _, _, _, _]) dX9_isTrue_23 rfl (by decide) rfl ?_
  exact lp_isTrue (by omega) hw hx0 hy0 hdx hdy hln k1 k2 k3 k4 hp he kt kf 65 0 _ _ h _ _ _ _ _ _ (by omega) (by rw [hl]; unfold ptL; rw [Int.natCast_zero, btF_0, btF_0]) (by rw [hr]; unfold ptR; rw [Int.natCast_zero, btF_0, btF_0]) (by show (0 : Int) ≤ e; omega) (Fr67.rf hw) (by omega)
set_option maxRecDepth 20000 in
set_option maxHeartbeats 400000 in
theorem lp_fewestParts {d : Nat} (hd : 5 ≤ d) {P : Int → Hp → Prop} {h : Hp} {m e : Int} (hw : WOK h) (hx0 : -300000000 ≤ h 32 2 ∧ h 32 2 ≤ 300000000) (hy0 : 0 ≤ h 32 3 ∧ h 32 3 ≤ 2019800) (hdx : -600000000 ≤ h 32 4 ∧ h 32 4 ≤ 600000000) (hdy : -2019800 ≤ h 32 5 ∧ h 32 5 ≤ 2019800) (hln : h 32 6 = lnF (h 32 4) (h 32 5)) (k1 : 0 ≤ h 32 2 ∧ h 32 2 ≤ 100 * h 1 0) (k2 : 0 ≤ h 32 3 ∧ h 32 3 ≤ 100 * h 1 1) (k3 : 0 ≤ h 32 2 + h 32 4 ∧ h 32 2 + h 32 4 ≤ 100 * h 1 0) (k4 : 0 ≤ h 32 3 + h 32 5 ∧ h 32 3 + h 32 5 ≤ 100 * h 1 1) (hm : 0 ≤ m ∧ m ≤ 149) (he : 0 ≤ e ∧ e ≤ 2147483647) (hl : h 20 m.toNat = stF (h 1 2) (h 1 3) (h 32 2) (h 32 3)) (hr : h 21 m.toNat = stF (h 1 2) (h 1 3) (100 * h 1 0 - h 32 2) (h 32 3)) : ∀ (nn : Nat) (n p : Nat) (g : Hp), (p + n = 65 ∧ 1 ≤ p) → (Fr67 h g) → (∀ g2 : Hp, Fr67 h g2 → P (frs (h 1 2) (h 1 0) (h 1 3) (h 32 2) (h 32 3) (h 32 2 + h 32 4) (h 32 3 + h 32 5) e p n) g2) → n < nn → WW mX9_fewestParts (d + 1) (pI P) 66 [some (.inr (.inr 32)), some (.inl m), some (.inl e), some (.inl (p : Int))] [] g := by
  intro nn
  induction nn with
  | zero => intro n p g hp hg k; intros; omega
  | succ nn ih =>
    intro n p g hp hg k hmu
    have w0 := hg.1 1 0 (by omega)
    have w1 := hg.1 1 1 (by omega)
    have w2 := hg.1 1 2 (by omega)
    have w3 := hg.1 1 3 (by omega)
    have w4 := hg.1 1 4 (by omega)
    have w5 := hg.1 1 5 (by omega)
    have v2 := hg.1 32 2 (by omega)
    have v3 := hg.1 32 3 (by omega)
    have v4 := hg.1 32 4 (by omega)
    have v5 := hg.1 32 5 (by omega)
    have v6 := hg.1 32 6 (by omega)
    have gw : WOK g := by have := hg.2; omega
    have v20 := hg.1 20 m.toNat (by omega)
    have v21 := hg.1 21 m.toNat (by omega)
    refine r_iload_n dX9_fewestParts_66 rfl rfl ?_
    refine r_bipush dX9_fewestParts_67 (by decide +kernel) ?_
    refine r_icmp_gt (tgt := 90) dX9_fewestParts_69 rfl (by omega) ⟨by decide, by decide⟩ (fun c_69 => ?_) (fun c_69 => ?_)
    · refine r_iconst dX9_fewestParts_90 ?_
      refine r_iret dX9_fewestParts_91 rfl ?_
      have n0 : n = 0 := by omega
      subst n0
      exact ⟨_, rfl, k g hg⟩
    · refine r_aload_n dX9_fewestParts_72 rfl rfl ?_
      refine r_iload_n dX9_fewestParts_73 rfl rfl ?_
      refine r_iload_n dX9_fewestParts_74 rfl rfl ?_
      refine r_iload_n dX9_fewestParts_75 rfl rfl ?_
      refine r_callVI (av := [_, _, _]) (M' := mX9_isTrue) dX9_fewestParts_76 vX9_isTrue ml_X9_74 sh_32 (by decide) rfl rfl rfl rfl (by simp [wtA]) (sp_X9_isTrue (by omega) gw (by omega) (by omega) (by omega) (by omega) (by rw [v6, v4, v5]; exact hln) (by omega) (by omega) (by omega) (by omega) (by omega) he hm (by rw [v20, w2, w3, v2, v3]; exact hl) (by rw [v21, w0, w2, w3, v2, v3]; exact hr) (fun z g2 f2 => ?_) (fun z g2 f2 => ?_))
      · refine r_if_eq (tgt := 84) dX9_fewestParts_79 rfl ⟨by decide, by decide⟩ (fun c_79 => absurd c_79 (by decide)) (fun c_79 => ?_)
        refine r_iload_n dX9_fewestParts_82 rfl rfl ?_
        refine r_iret dX9_fewestParts_83 rfl ?_
        obtain ⟨n, rfl⟩ : ∃ q, n = q + 1 := ⟨n - 1, by omega⟩
        rw [frs, if_pos (by rw [w0, w2, w3, v2, v3, v4, v5] at z; exact z)] at k
        exact ⟨_, rfl, k g2 (hg.tr f2)⟩
      · refine r_if_eq (tgt := 84) dX9_fewestParts_79 rfl ⟨by decide, by decide⟩ (fun c_79 => ?_) (fun c_79 => absurd c_79 (by decide))
        refine r_iinc (L' := [_, _, _, _]) dX9_fewestParts_84 rfl rfl (by decide) rfl ?_
        refine r_goto (tgt := 66) dX9_fewestParts_87 rfl ?_
        obtain ⟨n, rfl⟩ : ∃ q, n = q + 1 := ⟨n - 1, by omega⟩
        rw [frs, if_neg (by rw [w0, w2, w3, v2, v3, v4, v5] at z; exact z)] at k
        exact ih n (p + 1) g2 (by omega) (hg.tr f2) k (by omega)
set_option maxRecDepth 20000 in
set_option maxHeartbeats 400000 in
theorem sp_X9_fewestParts {d : Nat} (hd : 6 ≤ d) {m e : Int} {h : Hp} {n : Int} (hw : WOK h) (hm : 0 ≤ m ∧ m < n) (hn : n ≤ 150) (he : 0 ≤ e ∧ e ≤ 2147483647) (hx : XY (h 1 0) (h 1 1) (h 17) (h 18) n) (hl : h 20 m.toNat = stF (h 1 2) (h 1 3) (100 * h 17 m.toNat) (100 * h 18 m.toNat)) (hr : h 21 m.toNat = stF (h 1 2) (h 1 3) (100 * h 1 0 - 100 * h 17 m.toNat) (100 * h 18 m.toNat)) {P : Int → Hp → Prop} (k : ∀ h' : Hp, (FrC h h') → P (frs (h 1 2) (h 1 0) (h 1 3) (100 * h 17 m.toNat) (100 * h 18 m.toNat) (100 * h 17 (m.toNat + 1)) (100 * h 18 (m.toNat + 1)) e 1 64) h') : Cl d mX9_fewestParts [.inr (.inr 32), .inl m, .inl e] h (pI P) := by
  refine Cl.of (L := [some (.inr (.inr 32)), some (.inl m), some (.inl e), none]) (by decide +kernel) (Nat.le_of_ble_eq_true rfl) rfl ?_
  obtain ⟨d, rfl⟩ : ∃ q, d = q + 1 := ⟨d - 1, by omega⟩
  have e1 : (m + 1).toNat = m.toNat + 1 := by omega
  have q0 := hx m.toNat (by omega)
  have q1 := hx (m.toNat + 1) (by omega)
  rw [← e1] at q1
  refine r_aload_n dX9_fewestParts_0 rfl rfl ?_
  refine r_ldc2 (z := 100) dX9_fewestParts_1 kl_X9_66 (by decide +kernel) ?_
  refine r_aload_n dX9_fewestParts_4 rfl rfl ?_
  refine r_getR dX9_fewestParts_5 fl_X9_31 sh_32 rfl ?_
  refine r_getR dX9_fewestParts_8 fl_X9_68 sh_16 rfl ?_
  refine r_iload_n dX9_fewestParts_11 rfl rfl ?_
  refine r_iald dX9_fewestParts_12 sh_17 (by decide) (by omega) ?_
  refine r_i2l dX9_fewestParts_13 (by omega) ?_
  refine r_lmul dX9_fewestParts_14 ?_
  refine r_ldc2 (z := 100) dX9_fewestParts_15 kl_X9_66 (by decide +kernel) ?_
  refine r_aload_n dX9_fewestParts_18 rfl rfl ?_
  refine r_getR dX9_fewestParts_19 fl_X9_31 sh_32 rfl ?_
  refine r_getR dX9_fewestParts_22 fl_X9_71 sh_16 rfl ?_
  refine r_iload_n dX9_fewestParts_25 rfl rfl ?_
  refine r_iald dX9_fewestParts_26 sh_18 (by decide) (by omega) ?_
  refine r_i2l dX9_fewestParts_27 (by omega) ?_
  refine r_lmul dX9_fewestParts_28 ?_
  refine r_ldc2 (z := 100) dX9_fewestParts_29 kl_X9_66 (by decide +kernel) ?_
  refine r_aload_n dX9_fewestParts_32 rfl rfl ?_
  refine r_getR dX9_fewestParts_33 fl_X9_31 sh_32 rfl ?_
  refine r_getR dX9_fewestParts_36 fl_X9_68 sh_16 rfl ?_
  refine r_iload_n dX9_fewestParts_39 rfl rfl ?_
  refine r_iconst dX9_fewestParts_40 ?_
  refine r_iadd dX9_fewestParts_41 ?_
  refine r_iald dX9_fewestParts_42 sh_17 (by decide) (by omega) ?_
  refine r_i2l dX9_fewestParts_43 (by omega) ?_
  refine r_lmul dX9_fewestParts_44 ?_
  refine r_ldc2 (z := 100) dX9_fewestParts_45 kl_X9_66 (by decide +kernel) ?_
  refine r_aload_n dX9_fewestParts_48 rfl rfl ?_
  refine r_getR dX9_fewestParts_49 fl_X9_31 sh_32 rfl ?_
  refine r_getR dX9_fewestParts_52 fl_X9_71 sh_16 rfl ?_
  refine r_iload_n dX9_fewestParts_55 rfl rfl ?_
  refine r_iconst dX9_fewestParts_56 ?_
  refine r_iadd dX9_fewestParts_57 ?_
  refine r_iald dX9_fewestParts_58 sh_18 (by decide) (by omega) ?_
  refine r_i2l dX9_fewestParts_59 (by omega) ?_
  refine r_lmul dX9_fewestParts_60 ?_
  refine r_callVU (av := [_, _, _, _]) (M' := mX9_aim) dX9_fewestParts_61 vX9_aim ml_X9_56 sh_32 (by decide) rfl rfl rfl rfl (by simp [wtA]) (sp_X9_aim (by omega) (by omega) (by omega) (by omega) (by omega) ?_)
  refine r_iconst dX9_fewestParts_64 ?_
  refine r_istore_n (L' := [_, _, _, _]) dX9_fewestParts_65 rfl rfl (by decide) rfl ?_
  refine r_gh (fun g eg => ?_)
  have fg : FrC h g := by rw [eg]; exact (((((FrC.rf hw).up rfl (by decide)).up rfl (by decide)).up rfl (by decide)).up rfl (by decide)).up rfl (by decide)
  have z2 : g 32 2 = 100 * h 17 m.toNat := by rw [eg]; rfl
  have z3 : g 32 3 = 100 * h 18 m.toNat := by rw [eg]; rfl
  have z4 : g 32 4 = 100 * h 17 (m + 1).toNat - 100 * h 17 m.toNat := by rw [eg]; rfl
  have z5 : g 32 5 = 100 * h 18 (m + 1).toNat - 100 * h 18 m.toNat := by rw [eg]; rfl
  have z6 : g 32 6 = lnF (g 32 4) (g 32 5) := by rw [eg]; rfl
  have u0 := fg.1 1 0 rfl
  have u1 := fg.1 1 1 rfl
  have u2 := fg.1 1 2 rfl
  have u3 := fg.1 1 3 rfl
  have u4 := fg.1 1 4 rfl
  have u5 := fg.1 1 5 rfl
  have ug : WOK g := by have := fg.2; omega
  refine lp_fewestParts (h := g) (by omega) ug (by omega) (by omega) (by omega) (by omega) z6 (by omega) (by omega) (by omega) (by omega) (by omega) he (by rw [fg.1 20 _ rfl, z2, z3, u2, u3]; exact hl) (by rw [fg.1 21 _ rfl, z2, z3, u0, u2, u3]; exact hr) 65 64 1 g (by decide) (Fr67.rf ug) (fun g2 f2 => ?_) (by decide)
  refine eqP (k g2 (fg.tr f2.fc)) ?_
  rw [u0, u2, u3, z2, z3, z4, z5, e1, show ∀ a b : Int, a + (b - a) = b from fun a b => by omega, show ∀ a b : Int, a + (b - a) = b from fun a b => by omega]
set_option maxRecDepth 20000 in
set_option maxHeartbeats 400000 in
theorem sp_X11_parts {d : Nat} (hd : 7 ≤ d) {m e : Int} {h : Hp}  (hw : WOK h) (hm : R32 m) (he : R32 e) (hn : 0 ≤ (h 16 0) ∧ (h 16 0) ≤ 150) (hx : XY (h 1 0) (h 1 1) (h 17) (h 18) (h 16 0)) (hlr : ∀ p : Nat, (p : Int) ≤ (h 16 0) → h 20 p = stF (h 1 2) (h 1 3) (100 * h 17 p) (100 * h 18 p) ∧ h 21 p = stF (h 1 2) (h 1 3) (100 * h 1 0 - 100 * h 17 p) (100 * h 18 p)) {P : Int → Hp → Prop} (k : ∀ h' : Hp, (FrC h h') → P (if (0 ≤ m ∧ m < (h 16 0)) ∧ 0 ≤ e then frs (h 1 2) (h 1 0) (h 1 3) (100 * h 17 m.toNat) (100 * h 18 m.toNat) (100 * h 17 (m.toNat + 1)) (100 * h 18 (m.toNat + 1)) e 1 64 else -1) h') : Cl d mX11_parts [.inr (.inr 0), .inl m, .inl e] h (pI P) := by
  refine Cl.of (L := [some (.inr (.inr 0)), some (.inl m), some (.inl e)]) (by decide +kernel) (Nat.le_of_ble_eq_true rfl) rfl ?_
  obtain ⟨d, rfl⟩ : ∃ q, d = q + 1 := ⟨d - 1, by omega⟩
  refine r_aload_n dX11_parts_0 rfl rfl ?_
  refine r_getR dX11_parts_1 fl_X11_44 sh_0 rfl ?_
  refine r_iload_n dX11_parts_4 rfl rfl ?_
  refine r_callVI (av := [_]) (M' := mX2_has) dX11_parts_5 vX2_has ml_X11_164 sh_16 (by decide) rfl rfl rfl rfl (by simp [wtA]) (sp_X2_has_16 (by omega) (by omega) (by omega) (fun b_5 => ?_) (fun b_5 => ?_))
  · refine r_if_eq (tgt := 27) dX11_parts_8 rfl ⟨by decide, by decide⟩ (fun c_8 => absurd c_8 (by decide)) (fun c_8 => ?_)
    refine r_iload_n dX11_parts_11 rfl rfl ?_
    refine r_if_lt (tgt := 27) dX11_parts_12 rfl (by omega) (fun c_12 => ?_) (fun c_12 => ?_)
    · refine r_iconst dX11_parts_27 ?_
      refine r_iret dX11_parts_28 rfl ?_
      refine ⟨_, rfl, eqP (k h (FrC.rf hw)) ?_⟩
      rw [if_neg (by omega)]
    · refine r_aload_n dX11_parts_15 rfl rfl ?_
      refine r_getR dX11_parts_16 fl_X11_65 sh_0 rfl ?_
      refine r_iload_n dX11_parts_19 rfl rfl ?_
      refine r_iload_n dX11_parts_20 rfl rfl ?_
      refine r_callVI (av := [_, _]) (M' := mX9_fewestParts) dX11_parts_21 vX9_fewestParts ml_X11_242 sh_32 (by decide) rfl rfl rfl rfl (by simp [wtA]) (sp_X9_fewestParts (by omega) (by omega) (n := (h 16 0)) (by omega) (by omega) (by omega) hx (hlr m.toNat (by omega)).1 (hlr m.toNat (by omega)).2 (fun h_21 f0_21 => ?_))
      refine r_goto (tgt := 28) dX11_parts_24 rfl ?_
      refine r_iret dX11_parts_28 rfl ?_
      refine ⟨_, rfl, eqP (k _ f0_21) ?_⟩
      rw [if_pos (by omega)]
  · refine r_if_eq (tgt := 27) dX11_parts_8 rfl ⟨by decide, by decide⟩ (fun c_8 => ?_) (fun c_8 => absurd c_8 (by decide))
    refine r_iconst dX11_parts_27 ?_
    refine r_iret dX11_parts_28 rfl ?_
    refine ⟨_, rfl, eqP (k h (FrC.rf hw)) ?_⟩
    rw [if_neg (by omega)]
noncomputable def skT (K W E v l r l2 r2 n : Int) (i : Nat) : Int := if v < dfF K W E (btF l l2 i n) (btF r r2 i n) (btF l l2 (i + 1 : Nat) n) (btF r r2 (i + 1 : Nat) n) then 1 else 0
noncomputable def skM (K W E v : Int) (lf rg : Nat → Int) (m : Nat) : Int := sumN (skT K W E v (lf m) (rg m) (lf (m + 1)) (rg (m + 1)) (tkF lf rg m)) (tkF lf rg m).toNat
noncomputable def skA (K W E v : Int) (lf rg dn : Nat → Int) (m : Nat) : Int := if dn (m + 1) = 0 then 0 else skM K W E v lf rg m
theorem skT_r {K W E v l r l2 r2 n : Int} {i : Nat} : 0 ≤ skT K W E v l r l2 r2 n i ∧ skT K W E v l r l2 r2 n i ≤ 1 := by
  unfold skT
  split <;> omega
theorem skM_r {K W E v N : Int} {lf rg : Nat → Int} {m : Nat} (h : LR lf rg N) (hm : (m : Int) < N) : 0 ≤ skM K W E v lf rg m ∧ skM K W E v lf rg m ≤ 5660 := by
  have t := tkF_r h hm
  have := sumN_r (f := skT K W E v (lf m) (rg m) (lf (m + 1)) (rg (m + 1)) (tkF lf rg m)) (B := 1) (tkF lf rg m).toNat (fun _ _ => skT_r)
  unfold skM
  omega
theorem skA_r {K W E v N : Int} {lf rg dn : Nat → Int} {m : Nat} (h : LR lf rg N) (hm : (m : Int) < N) : 0 ≤ skA K W E v lf rg dn m ∧ skA K W E v lf rg dn m ≤ 5660 := by
  have := skM_r (K := K) (W := W) (E := E) (v := v) h hm
  unfold skA
  split <;> omega
set_option maxRecDepth 20000 in
set_option maxHeartbeats 400000 in
theorem lp_skipsOf {d : Nat} (hd : 2 ≤ d) {P : Int → Hp → Prop} {h : Hp} {m v n : Int} (hw : WOK h) (hv : 0 ≤ v ∧ v ≤ 2147483647) (hm : 0 ≤ m ∧ m ≤ 149) (q0 : (0 ≤ h 20 m.toNat ∧ h 20 m.toNat ≤ 5660) ∧ (0 ≤ h 21 m.toNat ∧ h 21 m.toNat ≤ 5660)) (q1 : (0 ≤ h 20 (m.toNat + 1) ∧ h 20 (m.toNat + 1) ≤ 5660) ∧ (0 ≤ h 21 (m.toNat + 1) ∧ h 21 (m.toNat + 1) ≤ 5660)) (hn : 0 ≤ n ∧ n ≤ 5660) (k : ∀ g : Hp, Fr67 h g → P (sumN (skT (h 1 2) (h 1 0) (h 1 3) v (h 20 m.toNat) (h 21 m.toNat) (h 20 (m.toNat + 1)) (h 21 (m.toNat + 1)) n) n.toNat) g) : ∀ (nn : Nat) (i : Nat) (s : Int) (g : Hp) (o6 o7 o8 o9 : Option AV), ((i : Int) ≤ n) → (s = sumN (skT (h 1 2) (h 1 0) (h 1 3) v (h 20 m.toNat) (h 21 m.toNat) (h 20 (m.toNat + 1)) (h 21 (m.toNat + 1)) n) i) → (Fr67 h g) → (g 1 6 = pX (h 1 2) (h 1 0) (h 1 3) (btF (h 20 m.toNat) (h 20 (m.toNat + 1)) i n) (btF (h 21 m.toNat) (h 21 (m.toNat + 1)) i n)) → (g 1 7 = pY (h 1 2) (h 1 0) (h 1 3) (btF (h 20 m.toNat) (h 20 (m.toNat + 1)) i n) (btF (h 21 m.toNat) (h 21 (m.toNat + 1)) i n)) → n.toNat - i < nn → WW mX9_skipsOf (d + 1) (pI P) 42 [some (.inr (.inr 32)), some (.inl m), some (.inl v), some (.inl n), some (.inl s), some (.inl ((i : Int) + 1)), o6, o7, o8, o9] [] g := by
  intro nn
  induction nn with
  | zero => intro i s g o6 o7 o8 o9 hi hs hg h6 h7; intros; omega
  | succ nn ih =>
    intro i s g o6 o7 o8 o9 hi hs hg h6 h7 hmu
    have w0 := hg.1 1 0 (by omega)
    have w1 := hg.1 1 1 (by omega)
    have w2 := hg.1 1 2 (by omega)
    have w3 := hg.1 1 3 (by omega)
    have w4 := hg.1 1 4 (by omega)
    have w5 := hg.1 1 5 (by omega)
    have gw : WOK g := by have := hg.2; omega
    have e1 : (m + 1).toNat = m.toNat + 1 := by omega
    have a0 := hg.1 20 m.toNat (by omega)
    have a1 := hg.1 21 m.toNat (by omega)
    have a2 := hg.1 20 (m + 1).toNat (by omega)
    have a3 := hg.1 21 (m + 1).toNat (by omega)
    have b0 := sumN_r (f := (skT (h 1 2) (h 1 0) (h 1 3) v (h 20 m.toNat) (h 21 m.toNat) (h 20 (m.toNat + 1)) (h 21 (m.toNat + 1)) n)) (B := 1) i (fun _ _ => skT_r)
    rw [← e1] at q1
    refine r_iload dX9_skipsOf_42 rfl ?_
    refine r_iload_n dX9_skipsOf_44 rfl rfl ?_
    refine r_icmp_gt (tgt := 169) dX9_skipsOf_45 rfl (by omega) (by omega) (fun c_45 => ?_) (fun c_45 => ?_)
    · refine r_iload dX9_skipsOf_169 rfl ?_
      refine r_iret dX9_skipsOf_171 rfl ?_
      have e9 : n.toNat = i := by omega
      rw [e9] at k
      exact ⟨_, rfl, eqP (k g hg) hs.symm⟩
    · have b1 := btF_rB (f := h 20 m.toNat) (l := h 20 (m + 1).toNat) (i := i) (n := n) (B := 5660) (by omega) (by omega) (by omega)
      have b2 := btF_rB (f := h 21 m.toNat) (l := h 21 (m + 1).toNat) (i := i) (n := n) (B := 5660) (by omega) (by omega) (by omega)
      have b3 := btF_rB (f := g 20 m.toNat) (l := g 20 (m + 1).toNat) (i := (i : Int) + 1) (n := n) (B := 5660) (by omega) (by omega) (by omega)
      have b4 := btF_rB (f := g 21 m.toNat) (l := g 21 (m + 1).toNat) (i := (i : Int) + 1) (n := n) (B := 5660) (by omega) (by omega) (by omega)
      rw [← e1] at h6 h7
      have g1 := pX_r (K := h 1 2) (W := h 1 0) (E := h 1 3) (l := btF (h 20 m.toNat) (h 20 (m + 1).toNat) i n) (r := btF (h 21 m.toNat) (h 21 (m + 1).toNat) i n) (by omega) (by omega) (by omega) (by omega) (by omega)
      have g2 := pY_r (K := h 1 2) (W := h 1 0) (E := h 1 3) (l := btF (h 20 m.toNat) (h 20 (m + 1).toNat) i n) (r := btF (h 21 m.toNat) (h 21 (m + 1).toNat) i n) (by omega) (by omega) (by omega)
      have g3 := pX_r (K := g 1 2) (W := g 1 0) (E := g 1 3) (l := btF (g 20 m.toNat) (g 20 (m + 1).toNat) ((i : Int) + 1) n) (r := btF (g 21 m.toNat) (g 21 (m + 1).toNat) ((i : Int) + 1) n) (by omega) (by omega) (by omega) (by omega) (by omega)
      have g4 := pY_r (K := g 1 2) (W := g 1 0) (E := g 1 3) (l := btF (g 20 m.toNat) (g 20 (m + 1).toNat) ((i : Int) + 1) n) (r := btF (g 21 m.toNat) (g 21 (m + 1).toNat) ((i : Int) + 1) n) (by omega) (by omega) (by omega)
      have ed : ((pX (g 1 2) (g 1 0) (g 1 3) (btF (g 20 m.toNat) (g 20 (m + 1).toNat) ((i : Int) + 1) n) (btF (g 21 m.toNat) (g 21 (m + 1).toNat) ((i : Int) + 1) n) - g 1 6).natAbs : Int) + ((pY (g 1 2) (g 1 0) (g 1 3) (btF (g 20 m.toNat) (g 20 (m + 1).toNat) ((i : Int) + 1) n) (btF (g 21 m.toNat) (g 21 (m + 1).toNat) ((i : Int) + 1) n) - g 1 7).natAbs : Int) = dfF (h 1 2) (h 1 0) (h 1 3) (btF (h 20 m.toNat) (h 20 (m + 1).toNat) i n) (btF (h 21 m.toNat) (h 21 (m + 1).toNat) i n) (btF (h 20 m.toNat) (h 20 (m + 1).toNat) (i + 1 : Nat) n) (btF (h 21 m.toNat) (h 21 (m + 1).toNat) (i + 1 : Nat) n) := by
        unfold dfF
        rw [h6, h7, w0, w2, w3, a0, a1, a2, a3, show ((i + 1 : Nat) : Int) = (i : Int) + 1 from rfl]
        rw [w0, w2, w3, a0, a1, a2, a3] at g3 g4
        omega
      refine r_aload_n dX9_skipsOf_48 rfl rfl ?_
      refine r_getR dX9_skipsOf_49 fl_X9_27 sh_32 rfl ?_
      refine r_getJ dX9_skipsOf_52 fl_X9_50 sh_1 rfl ?_
      refine r_lstore (L' := [_, _, _, _, _, _, _, _, _, _]) dX9_skipsOf_55 rfl (by decide) rfl ?_
      refine r_aload_n dX9_skipsOf_57 rfl rfl ?_
      refine r_getR dX9_skipsOf_58 fl_X9_27 sh_32 rfl ?_
      refine r_getJ dX9_skipsOf_61 fl_X9_53 sh_1 rfl ?_
      refine r_lstore (L' := [_, _, _, _, _, _, _, _, _, _]) dX9_skipsOf_64 rfl (by decide) rfl ?_
      refine r_aload_n dX9_skipsOf_66 rfl rfl ?_
      refine r_getR dX9_skipsOf_67 fl_X9_27 sh_32 rfl ?_
      refine r_aload_n dX9_skipsOf_70 rfl rfl ?_
      refine r_getR dX9_skipsOf_71 fl_X9_31 sh_32 rfl ?_
      refine r_getR dX9_skipsOf_74 fl_X9_35 sh_16 rfl ?_
      refine r_iload_n dX9_skipsOf_77 rfl rfl ?_
      refine r_iald dX9_skipsOf_78 sh_20 (by decide) (by omega) ?_
      refine r_aload_n dX9_skipsOf_79 rfl rfl ?_
      refine r_getR dX9_skipsOf_80 fl_X9_31 sh_32 rfl ?_
      refine r_getR dX9_skipsOf_83 fl_X9_35 sh_16 rfl ?_
      refine r_iload_n dX9_skipsOf_86 rfl rfl ?_
      refine r_iconst dX9_skipsOf_87 ?_
      refine r_iadd dX9_skipsOf_88 ?_
      refine r_iald dX9_skipsOf_89 sh_20 (by decide) (by omega) ?_
      refine r_iload dX9_skipsOf_90 rfl ?_
      refine r_iload_n dX9_skipsOf_92 rfl rfl ?_
      refine r_callSI (av := [_, _, _, _]) (M' := mX2_between) dX9_skipsOf_93 sX2_between ml_X9_105 rfl rfl (by simp [wtA]) (sp_X2_between (by omega) (by omega) (by omega) (by omega) (by omega) ?_)
      refine r_i2l dX9_skipsOf_96 (by omega) ?_
      refine r_aload_n dX9_skipsOf_97 rfl rfl ?_
      refine r_getR dX9_skipsOf_98 fl_X9_31 sh_32 rfl ?_
      refine r_getR dX9_skipsOf_101 fl_X9_41 sh_16 rfl ?_
      refine r_iload_n dX9_skipsOf_104 rfl rfl ?_
      refine r_iald dX9_skipsOf_105 sh_21 (by decide) (by omega) ?_
      refine r_aload_n dX9_skipsOf_106 rfl rfl ?_
      refine r_getR dX9_skipsOf_107 fl_X9_31 sh_32 rfl ?_
      refine r_getR dX9_skipsOf_110 fl_X9_41 sh_16 rfl ?_
      refine r_iload_n dX9_skipsOf_113 rfl rfl ?_
      refine r_iconst dX9_skipsOf_114 ?_
      refine r_iadd dX9_skipsOf_115 ?_
      refine r_iald dX9_skipsOf_116 sh_21 (by decide) (by omega) ?_
      refine r_iload dX9_skipsOf_117 rfl ?_
      refine r_iload_n dX9_skipsOf_119 rfl rfl ?_
      refine r_callSI (av := [_, _, _, _]) (M' := mX2_between) dX9_skipsOf_120 sX2_between ml_X9_105 rfl rfl (by simp [wtA]) (sp_X2_between (by omega) (by omega) (by omega) (by omega) (by omega) ?_)
      refine r_i2l dX9_skipsOf_123 (by omega) ?_
      refine r_callVU (av := [_, _]) (M' := mX10_locate) dX9_skipsOf_124 vX10_locate ml_X9_44 sh_1 (by decide) rfl rfl rfl rfl (by simp [wtA]) (sp_X10_locate (by omega) (by omega) (by omega) (by omega) ?_)
      refine r_aload_n dX9_skipsOf_127 rfl rfl ?_
      refine r_getR dX9_skipsOf_128 fl_X9_27 sh_32 rfl ?_
      refine r_getJ dX9_skipsOf_131 fl_X9_50 sh_1 rfl ?_
      refine r_eqJ (((up_nk (by decide)).trans (up_s _ _ _ _))) ?_
      refine r_lload dX9_skipsOf_134 rfl ?_
      refine r_lsub dX9_skipsOf_136 ?_
      refine r_callNJ (av := [_]) (M' := mX11_sizeOf) dX9_skipsOf_137 sX11_sizeOf mn_X9_85 rfl rfl (by simp [wtA]) (sp_X11_sizeOf (by omega) (by omega) ?_)
      refine r_aload_n dX9_skipsOf_140 rfl rfl ?_
      refine r_getR dX9_skipsOf_141 fl_X9_27 sh_32 rfl ?_
      refine r_getJ dX9_skipsOf_144 fl_X9_53 sh_1 rfl ?_
      refine r_eqJ (up_s _ _ _ _) ?_
      refine r_lload dX9_skipsOf_147 rfl ?_
      refine r_lsub dX9_skipsOf_149 ?_
      refine r_callNJ (av := [_]) (M' := mX11_sizeOf) dX9_skipsOf_150 sX11_sizeOf mn_X9_85 rfl rfl (by simp [wtA]) (sp_X11_sizeOf (by omega) (by omega) ?_)
      refine r_ladd dX9_skipsOf_153 ?_
      refine r_iload_n dX9_skipsOf_154 rfl rfl ?_
      refine r_i2l dX9_skipsOf_155 (by omega) ?_
      refine r_lcmp_le (tgt := 163) dX9_skipsOf_156 dX9_skipsOf_157 rfl (by omega) (by omega) (fun c_156 => ?_) (fun c_156 => ?_)
      · refine r_iinc (L' := [_, _, _, _, _, _, _, _, _, _]) dX9_skipsOf_163 rfl rfl (by decide) rfl ?_
        refine r_goto (tgt := 42) dX9_skipsOf_166 rfl ?_
        rw [show (i : Int) + 1 + 1 = ((i + 1 : Nat) : Int) + 1 by omega]
        refine ih (i + 1) _ _ _ _ _ _ (by omega) ?_ (hg.up (by omega)) (by rw [up_nk (by decide), up_s, w0, w2, w3, a0, a1, a2, a3, e1]; rfl) (by rw [up_s, w0, w2, w3, a0, a1, a2, a3, e1]; rfl) (by omega)
        have et : (skT (h 1 2) (h 1 0) (h 1 3) v (h 20 m.toNat) (h 21 m.toNat) (h 20 (m.toNat + 1)) (h 21 (m.toNat + 1)) n) i = if v < ((pX (g 1 2) (g 1 0) (g 1 3) (btF (g 20 m.toNat) (g 20 (m + 1).toNat) ((i : Int) + 1) n) (btF (g 21 m.toNat) (g 21 (m + 1).toNat) ((i : Int) + 1) n) - g 1 6).natAbs : Int) + ((pY (g 1 2) (g 1 0) (g 1 3) (btF (g 20 m.toNat) (g 20 (m + 1).toNat) ((i : Int) + 1) n) (btF (g 21 m.toNat) (g 21 (m + 1).toNat) ((i : Int) + 1) n) - g 1 7).natAbs : Int) then 1 else 0 := by
          rw [ed, e1]
          rfl
        show _ = sumN (skT (h 1 2) (h 1 0) (h 1 3) v (h 20 m.toNat) (h 21 m.toNat) (h 20 (m.toNat + 1)) (h 21 (m.toNat + 1)) n) i + (skT (h 1 2) (h 1 0) (h 1 3) v (h 20 m.toNat) (h 21 m.toNat) (h 20 (m.toNat + 1)) (h 21 (m.toNat + 1)) n) i
        rw [et]
        first
          | (rw [if_pos (by omega)]; omega)
          | (rw [if_neg (by omega)]; omega)
      · refine r_iinc (L' := [_, _, _, _, _, _, _, _, _, _]) dX9_skipsOf_160 rfl rfl (by decide) rfl ?_
        refine r_iinc (L' := [_, _, _, _, _, _, _, _, _, _]) dX9_skipsOf_163 rfl rfl (by decide) rfl ?_
        refine r_goto (tgt := 42) dX9_skipsOf_166 rfl ?_
        rw [show (i : Int) + 1 + 1 = ((i + 1 : Nat) : Int) + 1 by omega]
        refine ih (i + 1) _ _ _ _ _ _ (by omega) ?_ (hg.up (by omega)) (by rw [up_nk (by decide), up_s, w0, w2, w3, a0, a1, a2, a3, e1]; rfl) (by rw [up_s, w0, w2, w3, a0, a1, a2, a3, e1]; rfl) (by omega)
        have et : (skT (h 1 2) (h 1 0) (h 1 3) v (h 20 m.toNat) (h 21 m.toNat) (h 20 (m.toNat + 1)) (h 21 (m.toNat + 1)) n) i = if v < ((pX (g 1 2) (g 1 0) (g 1 3) (btF (g 20 m.toNat) (g 20 (m + 1).toNat) ((i : Int) + 1) n) (btF (g 21 m.toNat) (g 21 (m + 1).toNat) ((i : Int) + 1) n) - g 1 6).natAbs : Int) + ((pY (g 1 2) (g 1 0) (g 1 3) (btF (g 20 m.toNat) (g 20 (m + 1).toNat) ((i : Int) + 1) n) (btF (g 21 m.toNat) (g 21 (m + 1).toNat) ((i : Int) + 1) n) - g 1 7).natAbs : Int) then 1 else 0 := by
          rw [ed, e1]
          rfl
        show _ = sumN (skT (h 1 2) (h 1 0) (h 1 3) v (h 20 m.toNat) (h 21 m.toNat) (h 20 (m.toNat + 1)) (h 21 (m.toNat + 1)) n) i + (skT (h 1 2) (h 1 0) (h 1 3) v (h 20 m.toNat) (h 21 m.toNat) (h 20 (m.toNat + 1)) (h 21 (m.toNat + 1)) n) i
        rw [et]
        first
          | (rw [if_pos (by omega)]; omega)
          | (rw [if_neg (by omega)]; omega)
set_option maxRecDepth 20000 in
set_option maxHeartbeats 400000 in
theorem sp_X9_skipsOf {d : Nat} (hd : 3 ≤ d) {m v : Int} {h : Hp} {N : Int} (hw : WOK h) (hv : 0 ≤ v ∧ v ≤ 2147483647) (hm : 0 ≤ m ∧ m < N) (hN : N ≤ 150) (hq : LR (h 20) (h 21) N) {P : Int → Hp → Prop} (k : ∀ h' : Hp, (Fr67 h h') → P (skM (h 1 2) (h 1 0) (h 1 3) v (h 20) (h 21) m.toNat) h') : Cl d mX9_skipsOf [.inr (.inr 32), .inl m, .inl v] h (pI P) := by
  refine Cl.of (L := [some (.inr (.inr 32)), some (.inl m), some (.inl v), none, none, none, none, none, none, none]) (by decide +kernel) (Nat.le_of_ble_eq_true rfl) rfl ?_
  obtain ⟨d, rfl⟩ : ∃ q, d = q + 1 := ⟨d - 1, by omega⟩
  have q0 := hq m.toNat (by omega)
  have q1 := hq (m.toNat + 1) (by omega)
  have tk := tkF_r hq (m := m.toNat) (by omega)
  have g2 := pY_r (K := h 1 2) (W := h 1 0) (E := h 1 3) (l := h 20 m.toNat) (r := h 21 m.toNat) (by omega) (by omega) (by omega)
  refine r_aload_n dX9_skipsOf_0 rfl rfl ?_
  refine r_getR dX9_skipsOf_1 fl_X9_31 sh_32 rfl ?_
  refine r_iload_n dX9_skipsOf_4 rfl rfl ?_
  refine r_callVI (av := [_]) (M' := mX2_ticksOf) dX9_skipsOf_5 vX2_ticksOf ml_X9_120 sh_16 (by decide) rfl rfl rfl rfl (by simp [wtA]) (sp_X2_ticksOf_16 (by omega) (n := N) (by omega) hN hq ?_)
  refine r_istore_n (L' := [_, _, _, _, _, _, _, _, _, _]) dX9_skipsOf_8 rfl rfl (by decide) rfl ?_
  refine r_iconst dX9_skipsOf_9 ?_
  refine r_istore (L' := [_, _, _, _, _, _, _, _, _, _]) dX9_skipsOf_10 rfl (by decide) rfl ?_
  refine r_aload_n dX9_skipsOf_12 rfl rfl ?_
  refine r_getR dX9_skipsOf_13 fl_X9_27 sh_32 rfl ?_
  refine r_aload_n dX9_skipsOf_16 rfl rfl ?_
  refine r_getR dX9_skipsOf_17 fl_X9_31 sh_32 rfl ?_
  refine r_getR dX9_skipsOf_20 fl_X9_35 sh_16 rfl ?_
  refine r_iload_n dX9_skipsOf_23 rfl rfl ?_
  refine r_iald dX9_skipsOf_24 sh_20 (by decide) (by omega) ?_
  refine r_i2l dX9_skipsOf_25 (by omega) ?_
  refine r_aload_n dX9_skipsOf_26 rfl rfl ?_
  refine r_getR dX9_skipsOf_27 fl_X9_31 sh_32 rfl ?_
  refine r_getR dX9_skipsOf_30 fl_X9_41 sh_16 rfl ?_
  refine r_iload_n dX9_skipsOf_33 rfl rfl ?_
  refine r_iald dX9_skipsOf_34 sh_21 (by decide) (by omega) ?_
  refine r_i2l dX9_skipsOf_35 (by omega) ?_
  refine r_callVU (av := [_, _]) (M' := mX10_locate) dX9_skipsOf_36 vX10_locate ml_X9_44 sh_1 (by decide) rfl rfl rfl rfl (by simp [wtA]) (sp_X10_locate (by omega) (by omega) (by omega) (by omega) ?_)
  refine r_iconst dX9_skipsOf_39 ?_
  refine r_istore (L' := [_, _, _, _, _, _, _, _, _, _]) dX9_skipsOf_40 rfl (by decide) rfl ?_
  exact lp_skipsOf (by omega) hw hv (by omega) (by omega) (by omega) tk k 5661 0 0 _ _ _ _ _ (by omega) rfl ((Fr67.rf hw).up (by omega)) (by rw [up_nk (by decide), up_s, Int.natCast_zero, btF_0, btF_0]) (by rw [up_s, Int.natCast_zero, btF_0, btF_0]) (by omega)
set_option maxRecDepth 20000 in
set_option maxHeartbeats 400000 in
theorem lp_countSkips {d : Nat} (hd : 3 ≤ d) {P : Int → Hp → Prop} {h : Hp} {v : Int} (hw : WOK h) (hv : 0 ≤ v ∧ v ≤ 2147483647) (hn : 0 ≤ (h 16 0) ∧ (h 16 0) ≤ 150) (hq : LR (h 20) (h 21) (h 16 0)) (hdn : ∀ p : Nat, (p : Int) ≤ (h 16 0) → h 19 p = 0 ∨ h 19 p = 1) (k : ∀ g : Hp, Fr67 h g → P (sumN (skA (h 1 2) (h 1 0) (h 1 3) v (h 20) (h 21) (h 19)) (h 16 0).toNat) g) : ∀ (nn : Nat) (i : Nat) (s : Int) (g : Hp), ((i : Int) ≤ (h 16 0)) → (s = sumN (skA (h 1 2) (h 1 0) (h 1 3) v (h 20) (h 21) (h 19)) i) → (Fr67 h g) → (h 16 0).toNat - i < nn → WW mX9_countSkips (d + 1) (pI P) 4 [some (.inr (.inr 32)), some (.inl v), some (.inl s), some (.inl (i : Int))] [] g := by
  intro nn
  induction nn with
  | zero => intro i s g hi hs hg; intros; omega
  | succ nn ih =>
    intro i s g hi hs hg hmu
    have w0 := hg.1 1 0 (by omega)
    have w1 := hg.1 1 1 (by omega)
    have w2 := hg.1 1 2 (by omega)
    have w3 := hg.1 1 3 (by omega)
    have w4 := hg.1 1 4 (by omega)
    have w5 := hg.1 1 5 (by omega)
    have gw : WOK g := by have := hg.2; omega
    have wn := hg.1 16 0 (by omega)
    have e1 : ((i : Int) + 1).toNat = i + 1 := by omega
    have e0 : ((i : Int)).toNat = i := Int.toNat_natCast i
    have v20 : g 20 = h 20 := funext fun j => hg.1 20 j (by omega)
    have v21 : g 21 = h 21 := funext fun j => hg.1 21 j (by omega)
    have v19 := hg.1 19 ((i : Int) + 1).toNat (by omega)
    have b0 := sumN_r (f := (skA (h 1 2) (h 1 0) (h 1 3) v (h 20) (h 21) (h 19))) (B := 5660) i (fun j hj => skA_r hq (by omega))
    refine r_iload_n dX9_countSkips_4 rfl rfl ?_
    refine r_aload_n dX9_countSkips_5 rfl rfl ?_
    refine r_getR dX9_countSkips_6 fl_X9_31 sh_32 rfl ?_
    refine r_getI dX9_countSkips_9 fl_X9_109 sh_16 rfl ?_
    refine r_icmp_ge (tgt := 44) dX9_countSkips_12 rfl (by omega) (by omega) (fun c_12 => ?_) (fun c_12 => ?_)
    · refine r_iload_n dX9_countSkips_44 rfl rfl ?_
      refine r_iret dX9_countSkips_45 rfl ?_
      have e9 : (h 16 0).toNat = i := by omega
      rw [e9] at k
      exact ⟨_, rfl, eqP (k g hg) hs.symm⟩
    · have hdz := hdn (i + 1) (by omega)
      rw [← e1] at hdz
      refine r_aload_n dX9_countSkips_15 rfl rfl ?_
      refine r_getR dX9_countSkips_16 fl_X9_31 sh_32 rfl ?_
      refine r_getR dX9_countSkips_19 fl_X9_113 sh_16 rfl ?_
      refine r_iload_n dX9_countSkips_22 rfl rfl ?_
      refine r_iconst dX9_countSkips_23 ?_
      refine r_iadd dX9_countSkips_24 ?_
      refine r_zald dX9_countSkips_25 sh_19 (by decide) (by omega) ?_
      refine r_if_eq (tgt := 38) dX9_countSkips_26 rfl (by omega) (fun c_26 => ?_) (fun c_26 => ?_)
      · refine r_iinc (L' := [_, _, _, _]) dX9_countSkips_38 rfl rfl (by decide) rfl ?_
        refine r_goto (tgt := 4) dX9_countSkips_41 rfl ?_
        first
          | (refine ih (i + 1) _ _ (by omega) ?_ (hg.tr f0_33) (by omega)
             show _ = sumN (skA (h 1 2) (h 1 0) (h 1 3) v (h 20) (h 21) (h 19)) i + (skA (h 1 2) (h 1 0) (h 1 3) v (h 20) (h 21) (h 19)) i
             unfold skA
             rw [← e1, if_neg (by omega)]
             rw [w0, w2, w3, v20, v21, e0] at e_s2
             rw [e_s2, hs]
             rfl)
          | (refine ih (i + 1) _ _ (by omega) ?_ hg (by omega)
             show _ = sumN (skA (h 1 2) (h 1 0) (h 1 3) v (h 20) (h 21) (h 19)) i + (skA (h 1 2) (h 1 0) (h 1 3) v (h 20) (h 21) (h 19)) i
             unfold skA
             rw [← e1, if_pos (by omega), hs, Int.add_zero]
             rfl)
      · refine r_iload_n dX9_countSkips_29 rfl rfl ?_
        refine r_aload_n dX9_countSkips_30 rfl rfl ?_
        refine r_iload_n dX9_countSkips_31 rfl rfl ?_
        refine r_iload_n dX9_countSkips_32 rfl rfl ?_
        refine r_callVI (av := [_, _]) (M' := mX9_skipsOf) dX9_countSkips_33 vX9_skipsOf ml_X9_117 sh_32 (by decide) rfl rfl rfl rfl (by simp [wtA]) (sp_X9_skipsOf (by omega) (by omega) (by omega) (N := (h 16 0)) (by omega) (by omega) (by rw [v20, v21]; exact hq) (fun h_33 f0_33 => ?_))
        refine r_iadd dX9_countSkips_36 ?_
        refine r_nmI (fun s2 e_s2 => ?_)
        refine r_istore_n (L' := [_, _, _, _]) dX9_countSkips_37 rfl rfl (by decide) rfl ?_
        refine r_iinc (L' := [_, _, _, _]) dX9_countSkips_38 rfl rfl (by decide) rfl ?_
        refine r_goto (tgt := 4) dX9_countSkips_41 rfl ?_
        first
          | (refine ih (i + 1) _ _ (by omega) ?_ (hg.tr f0_33) (by omega)
             show _ = sumN (skA (h 1 2) (h 1 0) (h 1 3) v (h 20) (h 21) (h 19)) i + (skA (h 1 2) (h 1 0) (h 1 3) v (h 20) (h 21) (h 19)) i
             unfold skA
             rw [← e1, if_neg (by omega)]
             rw [w0, w2, w3, v20, v21, e0] at e_s2
             rw [e_s2, hs]
             rfl)
          | (refine ih (i + 1) _ _ (by omega) ?_ hg (by omega)
             show _ = sumN (skA (h 1 2) (h 1 0) (h 1 3) v (h 20) (h 21) (h 19)) i + (skA (h 1 2) (h 1 0) (h 1 3) v (h 20) (h 21) (h 19)) i
             unfold skA
             rw [← e1, if_pos (by omega), hs, Int.add_zero]
             rfl)
set_option maxRecDepth 20000 in
set_option maxHeartbeats 400000 in
theorem sp_X9_countSkips {d : Nat} (hd : 4 ≤ d) {v : Int} {h : Hp}  (hw : WOK h) (hv : 0 ≤ v ∧ v ≤ 2147483647) (hn : 0 ≤ (h 16 0) ∧ (h 16 0) ≤ 150) (hq : LR (h 20) (h 21) (h 16 0)) (hdn : ∀ p : Nat, (p : Int) ≤ (h 16 0) → h 19 p = 0 ∨ h 19 p = 1) {P : Int → Hp → Prop} (k : ∀ h' : Hp, (Fr67 h h') → P (sumN (skA (h 1 2) (h 1 0) (h 1 3) v (h 20) (h 21) (h 19)) (h 16 0).toNat) h') : Cl d mX9_countSkips [.inr (.inr 32), .inl v] h (pI P) := by
  refine Cl.of (L := [some (.inr (.inr 32)), some (.inl v), none, none]) (by decide +kernel) (Nat.le_of_ble_eq_true rfl) rfl ?_
  obtain ⟨d, rfl⟩ : ∃ q, d = q + 1 := ⟨d - 1, by omega⟩
  refine r_iconst dX9_countSkips_0 ?_
  refine r_istore_n (L' := [_, _, _, _]) dX9_countSkips_1 rfl rfl (by decide) rfl ?_
  refine r_iconst dX9_countSkips_2 ?_
  refine r_istore_n (L' := [_, _, _, _]) dX9_countSkips_3 rfl rfl (by decide) rfl ?_
  exact lp_countSkips (by omega) hw hv hn hq hdn k 151 0 0 h (by omega) rfl (Fr67.rf hw) (by omega)
set_option maxRecDepth 20000 in
set_option maxHeartbeats 400000 in
theorem sp_X11_skips {d : Nat} (hd : 5 ≤ d) {v : Int} {h : Hp}  (hw : WOK h) (hv : R32 v) (hn : 0 ≤ (h 16 0) ∧ (h 16 0) ≤ 150) (hq : LR (h 20) (h 21) (h 16 0)) (hdn : ∀ p : Nat, (p : Int) ≤ (h 16 0) → h 19 p = 0 ∨ h 19 p = 1) {P : Int → Hp → Prop} (k : ∀ h' : Hp, (FrC h h') → P (if 0 ≤ v then sumN (skA (h 1 2) (h 1 0) (h 1 3) v (h 20) (h 21) (h 19)) (h 16 0).toNat else -1) h') : Cl d mX11_skips [.inr (.inr 0), .inl v] h (pI P) := by
  refine Cl.of (L := [some (.inr (.inr 0)), some (.inl v)]) (by decide +kernel) (Nat.le_of_ble_eq_true rfl) rfl ?_
  obtain ⟨d, rfl⟩ : ∃ q, d = q + 1 := ⟨d - 1, by omega⟩
  refine r_iload_n dX11_skips_0 rfl rfl ?_
  refine r_if_ge (tgt := 8) dX11_skips_1 rfl (by omega) (fun c_1 => ?_) (fun c_1 => ?_)
  · refine r_aload_n dX11_skips_8 rfl rfl ?_
    refine r_getR dX11_skips_9 fl_X11_65 sh_0 rfl ?_
    refine r_iload_n dX11_skips_12 rfl rfl ?_
    refine r_callVI (av := [_]) (M' := mX9_countSkips) dX11_skips_13 vX9_countSkips ml_X11_245 sh_32 (by decide) rfl rfl rfl rfl (by simp [wtA]) (sp_X9_countSkips (by omega) (by omega) (by omega) (by omega) hq hdn (fun h_13 f0_13 => ?_))
    refine r_iret dX11_skips_16 rfl ?_
    refine ⟨_, rfl, eqP (k _ f0_13.fc) ?_⟩
    rw [if_pos (by omega)]
  · refine r_iconst dX11_skips_4 ?_
    refine r_goto (tgt := 16) dX11_skips_5 rfl ?_
    refine r_iret dX11_skips_16 rfl ?_
    refine ⟨_, rfl, eqP (k h (FrC.rf hw)) ?_⟩
    rw [if_neg (by omega)]
