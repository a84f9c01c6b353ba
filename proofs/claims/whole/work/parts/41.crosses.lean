/-! CROSSES, THE CLASS -/
abbrev FrX (h g : Hp) : Prop := (∀ a k, ¬ (a = 1 ∧ (k = 6 ∨ k = 7)) → a ≠ 39 → a ≠ 40 → g a k = h a k) ∧ 0 ≤ g 1 7 ∧ g 1 7 ≤ 1099511627776
theorem FrX.rf {h : Hp} (hw : WOK h) : FrX h h := ⟨fun _ _ _ _ _ => rfl, by omega⟩
theorem FrX.fc {h g : Hp} (f : FrX h g) : FrC h g := ⟨fun a k z => f.1 a k (by rintro ⟨rfl, rfl | rfl⟩ <;> cases z) (by rintro rfl; cases z) (by rintro rfl; cases z), f.2⟩
theorem FrX.tr {h g k : Hp} (f : FrX h g) (f2 : FrX g k) : FrX h k := ⟨fun a q z y x => (f2.1 a q z y x).trans (f.1 a q z y x), f2.2⟩
theorem fLe (f : Nat) : ((f : Int)).tdiv 13 - 6 = fL f := rfl
theorem fRe (f : Nat) : ((f : Int)).tmod 13 - 6 = fR f := rfl
set_option maxRecDepth 20000 in
set_option maxHeartbeats 400000 in
theorem sp_X0_fits {d : Nat} (hd : 3 ≤ d) {c l r q : Int} {h : Hp}  (hw : WOK h) (hn : 0 ≤ (h 16 0) ∧ (h 16 0) ≤ 150) (hq : LR (h 20) (h 21) (h 16 0)) (hc : 0 ≤ c ∧ c ≤ 11) (hm : 0 ≤ h 36 c.toNat ∧ h 36 c.toNat < (h 16 0)) (hx : R32 (h 37 c.toNat) ∧ R32 (h 38 c.toNat)) (hl : -6 ≤ l ∧ l ≤ 6) (hr : -6 ≤ r ∧ r ≤ 6) (hd2 : 0 ≤ q ∧ q ≤ 999) {P : Int → Hp → Prop} (k0 : ∀ h' : Hp, (ftP (h 1 2) (h 1 0) (h 1 3) (h 20 ((h 36 c.toNat).toNat + 1) + l) (h 21 ((h 36 c.toNat).toNat + 1) + r) (h 37 c.toNat) (h 38 c.toNat) q) → (Fr67 h h') → P (1) h') (k1 : ∀ h' : Hp, (¬ ftP (h 1 2) (h 1 0) (h 1 3) (h 20 ((h 36 c.toNat).toNat + 1) + l) (h 21 ((h 36 c.toNat).toNat + 1) + r) (h 37 c.toNat) (h 38 c.toNat) q) → (Fr67 h h') → P (0) h') : Cl d mX0_fits [.inr (.inr 33), .inl c, .inl l, .inl r, .inl q] h (pI P) := by
  refine Cl.of (L := [some (.inr (.inr 33)), some (.inl c), some (.inl l), some (.inl r), some (.inl q), none]) (by decide +kernel) (Nat.le_of_ble_eq_true rfl) rfl ?_
  obtain ⟨d, rfl⟩ : ∃ q, d = q + 1 := ⟨d - 1, by omega⟩
  have e1 : (h 36 c.toNat + 1).toNat = (h 36 c.toNat).toNat + 1 := by omega
  have q1 := hq ((h 36 c.toNat).toNat + 1) (by omega)
  rw [← e1] at q1
  rw [← e1] at k0 k1
  have g1 := pX_r (K := h 1 2) (W := h 1 0) (E := h 1 3) (l := h 20 (h 36 c.toNat + 1).toNat + l) (r := h 21 (h 36 c.toNat + 1).toNat + r) (by omega) (by omega) (by omega) (by omega) (by omega)
  have g2 := pY_r (K := h 1 2) (W := h 1 0) (E := h 1 3) (l := h 20 (h 36 c.toNat + 1).toNat + l) (r := h 21 (h 36 c.toNat + 1).toNat + r) (by omega) (by omega) (by omega)
  refine r_aload_n dX0_fits_0 rfl rfl ?_
  refine r_getR dX0_fits_1 fl_X0_25 sh_33 rfl ?_
  refine r_iload_n dX0_fits_4 rfl rfl ?_
  refine r_iald dX0_fits_5 sh_36 (by decide) (by omega) ?_
  refine r_istore (L' := [_, _, _, _, _, _]) dX0_fits_6 rfl (by decide) rfl ?_
  refine r_aload_n dX0_fits_8 rfl rfl ?_
  refine r_getR dX0_fits_9 fl_X0_44 sh_33 rfl ?_
  refine r_iload dX0_fits_12 rfl ?_
  refine r_callVI (av := [_]) (M' := mX2_has) dX0_fits_14 vX2_has ml_X0_63 sh_16 (by decide) rfl rfl rfl rfl (by simp [wtA]) (sp_X2_has_16 (by omega) (by omega) (by omega) (fun b_14 => ?_) (fun b_14 => ?_))
  · refine r_if_ne (tgt := 22) dX0_fits_17 rfl ⟨by decide, by decide⟩ (fun c_17 => ?_) (fun c_17 => absurd c_17 (by decide))
    refine r_aload_n dX0_fits_22 rfl rfl ?_
    refine r_getR dX0_fits_23 fl_X0_40 sh_33 rfl ?_
    refine r_aload_n dX0_fits_26 rfl rfl ?_
    refine r_getR dX0_fits_27 fl_X0_44 sh_33 rfl ?_
    refine r_getR dX0_fits_30 fl_X0_69 sh_16 rfl ?_
    refine r_iload dX0_fits_33 rfl ?_
    refine r_iconst dX0_fits_35 ?_
    refine r_iadd dX0_fits_36 ?_
    refine r_iald dX0_fits_37 sh_20 (by decide) (by omega) ?_
    refine r_iload_n dX0_fits_38 rfl rfl ?_
    refine r_iadd dX0_fits_39 ?_
    refine r_i2l dX0_fits_40 (by omega) ?_
    refine r_aload_n dX0_fits_41 rfl rfl ?_
    refine r_getR dX0_fits_42 fl_X0_44 sh_33 rfl ?_
    refine r_getR dX0_fits_45 fl_X0_72 sh_16 rfl ?_
    refine r_iload dX0_fits_48 rfl ?_
    refine r_iconst dX0_fits_50 ?_
    refine r_iadd dX0_fits_51 ?_
    refine r_iald dX0_fits_52 sh_21 (by decide) (by omega) ?_
    refine r_iload_n dX0_fits_53 rfl rfl ?_
    refine r_iadd dX0_fits_54 ?_
    refine r_i2l dX0_fits_55 (by omega) ?_
    refine r_callVU (av := [_, _]) (M' := mX10_locate) dX0_fits_56 vX10_locate ml_X0_75 sh_1 (by decide) rfl rfl rfl rfl (by simp [wtA]) (sp_X10_locate (by omega) (by omega) (by omega) (by omega) ?_)
    refine r_aload_n dX0_fits_59 rfl rfl ?_
    refine r_getR dX0_fits_60 fl_X0_40 sh_33 rfl ?_
    refine r_getJ dX0_fits_63 fl_X0_81 sh_1 rfl ?_
    refine r_eqJ (((up_nk (by decide)).trans (up_s _ _ _ _))) ?_
    refine r_aload_n dX0_fits_66 rfl rfl ?_
    refine r_getR dX0_fits_67 fl_X0_28 sh_33 rfl ?_
    refine r_iload_n dX0_fits_70 rfl rfl ?_
    refine r_iald dX0_fits_71 sh_37 (by decide) (by omega) ?_
    refine r_eqI (((up_nc (by decide)).trans (up_nc (by decide)))) ?_
    refine r_i2l dX0_fits_72 (by omega) ?_
    refine r_lsub dX0_fits_73 ?_
    refine r_callNJ (av := [_]) (M' := mX11_sizeOf) dX0_fits_74 sX11_sizeOf mn_X0_85 rfl rfl (by simp [wtA]) (sp_X11_sizeOf (by omega) (by omega) ?_)
    refine r_iload dX0_fits_77 rfl ?_
    refine r_i2l dX0_fits_79 (by omega) ?_
    refine r_lcmp_gt (tgt := 113) dX0_fits_80 dX0_fits_81 rfl (by omega) (by omega) (fun c_80 => ?_) (fun c_80 => ?_)
    · refine r_iconst dX0_fits_113 ?_
      refine r_zret dX0_fits_114 rfl (.inl rfl) ?_
      exact ⟨_, rfl, k1 _ (by rintro ⟨z1, z2⟩; omega) ((Fr67.rf hw).up (by omega))⟩
    · refine r_aload_n dX0_fits_84 rfl rfl ?_
      refine r_getR dX0_fits_85 fl_X0_40 sh_33 rfl ?_
      refine r_getJ dX0_fits_88 fl_X0_89 sh_1 rfl ?_
      refine r_eqJ (up_s _ _ _ _) ?_
      refine r_aload_n dX0_fits_91 rfl rfl ?_
      refine r_getR dX0_fits_92 fl_X0_31 sh_33 rfl ?_
      refine r_iload_n dX0_fits_95 rfl rfl ?_
      refine r_iald dX0_fits_96 sh_38 (by decide) (by omega) ?_
      refine r_eqI (((up_nc (by decide)).trans (up_nc (by decide)))) ?_
      refine r_i2l dX0_fits_97 (by omega) ?_
      refine r_lsub dX0_fits_98 ?_
      refine r_callNJ (av := [_]) (M' := mX11_sizeOf) dX0_fits_99 sX11_sizeOf mn_X0_85 rfl rfl (by simp [wtA]) (sp_X11_sizeOf (by omega) (by omega) ?_)
      refine r_iload dX0_fits_102 rfl ?_
      refine r_i2l dX0_fits_104 (by omega) ?_
      refine r_lcmp_gt (tgt := 113) dX0_fits_105 dX0_fits_106 rfl (by omega) (by omega) (fun c_105 => ?_) (fun c_105 => ?_)
      · refine r_iconst dX0_fits_113 ?_
        refine r_zret dX0_fits_114 rfl (.inl rfl) ?_
        exact ⟨_, rfl, k1 _ (by rintro ⟨z1, z2⟩; omega) ((Fr67.rf hw).up (by omega))⟩
      · refine r_iconst dX0_fits_109 ?_
        refine r_goto (tgt := 114) dX0_fits_110 rfl ?_
        refine r_zret dX0_fits_114 rfl (.inr rfl) ?_
        exact ⟨_, rfl, k0 _ (by constructor <;> omega) ((Fr67.rf hw).up (by omega))⟩
  · refine r_if_ne (tgt := 22) dX0_fits_17 rfl ⟨by decide, by decide⟩ (fun c_17 => absurd c_17 (by decide)) (fun c_17 => ?_)
    refine r_iconst dX0_fits_20 ?_
    refine r_zret dX0_fits_21 rfl (.inl rfl) ?_
    exact absurd hm b_14
set_option maxRecDepth 20000 in
set_option maxHeartbeats 400000 in
theorem lp_weigh {d : Nat} (hd : 3 ≤ d) {P : Hp → Prop} {h : Hp} {c : Nat} {q : Int} {O : Nat → Int} (hw : WOK h) (hn : 0 ≤ (h 16 0) ∧ (h 16 0) ≤ 150) (hq : LR (h 20) (h 21) (h 16 0)) (hX : ∀ k : Nat, (k : Int) < (h 33 0) → 0 ≤ h 36 k ∧ h 36 k < (h 16 0) ∧ R32 (h 37 k) ∧ R32 (h 38 k)) (hc : (c : Int) < (h 33 0) ∧ (h 33 0) ≤ 12) (hd2 : 0 ≤ q ∧ q ≤ 999) (k : ∀ g : Hp, FrX h g → (∀ j : Nat, j < 169 → g 40 j = (fun f : Nat => if (ftN (h 33 0) (h 1 2) (h 1 0) (h 1 3) (h 20) (h 21) (h 36) (h 37) (h 38) q) c f = 1 then O f else 1000000) j ∧ g 39 (169 * c + j) = (fun f : Nat => if (ftN (h 33 0) (h 1 2) (h 1 0) (h 1 3) (h 20) (h 21) (h 36) (h 37) (h 38) q) c f = 1 then O f else 1000000) j) → (∀ j : Nat, (j < 169 * c ∨ 169 * c + 169 ≤ j) → g 39 j = h 39 j) → P g) : ∀ (nn : Nat) (f : Nat) (g : Hp) (o : Option AV), (f ≤ 169) → (FrX h g) → (∀ j : Nat, j < f → g 40 j = (fun f : Nat => if (ftN (h 33 0) (h 1 2) (h 1 0) (h 1 3) (h 20) (h 21) (h 36) (h 37) (h 38) q) c f = 1 then O f else 1000000) j ∧ g 39 (169 * c + j) = (fun f : Nat => if (ftN (h 33 0) (h 1 2) (h 1 0) (h 1 3) (h 20) (h 21) (h 36) (h 37) (h 38) q) c f = 1 then O f else 1000000) j) → (∀ j : Nat, f ≤ j → j < 169 → g 40 j = O j) → (∀ j : Nat, (j < 169 * c ∨ 169 * c + 169 ≤ j) → g 39 j = h 39 j) → 169 - f < nn → WW mX0_weigh (d + 1) (pV P) 2 [some (.inr (.inr 33)), some (.inl (c : Int)), some (.inl q), some (.inl (f : Int)), o] [] g := by
  intro nn
  induction nn with
  | zero => intro f g o hf hg h1 h2 h3; intros; omega
  | succ nn ih =>
    intro f g o hf hg h1 h2 h3 hmu
    have w0 := hg.1 1 0 (by omega) (by decide) (by decide)
    have w1 := hg.1 1 1 (by omega) (by decide) (by decide)
    have w2 := hg.1 1 2 (by omega) (by decide) (by decide)
    have w3 := hg.1 1 3 (by omega) (by decide) (by decide)
    have w4 := hg.1 1 4 (by omega) (by decide) (by decide)
    have w5 := hg.1 1 5 (by omega) (by decide) (by decide)
    have gw : WOK g := by have := hg.2; omega
    have wn := hg.1 16 0 (by omega) (by decide) (by decide)
    have v20 : g 20 = h 20 := funext fun j => hg.1 20 j (by omega) (by decide) (by decide)
    have v21 : g 21 = h 21 := funext fun j => hg.1 21 j (by omega) (by decide) (by decide)
    have v36 : g 36 = h 36 := funext fun j => hg.1 36 j (by omega) (by decide) (by decide)
    have v37 : g 37 = h 37 := funext fun j => hg.1 37 j (by omega) (by decide) (by decide)
    have v38 : g 38 = h 38 := funext fun j => hg.1 38 j (by omega) (by decide) (by decide)
    have ec : ((c : Int)).toNat = c := Int.toNat_natCast c
    have ef : ((f : Int)).toNat = f := Int.toNat_natCast f
    have xc := hX c (by omega)
    have qr : LR (g 20) (g 21) (g 16 0) := by rw [v20, v21, wn]; exact hq
    refine r_iload_n dX0_weigh_2 rfl rfl ?_
    refine r_sipush dX0_weigh_3 (by decide +kernel) ?_
    refine r_icmp_ge (tgt := 73) dX0_weigh_6 rfl (by omega) ⟨by decide, by decide⟩ (fun c_6 => ?_) (fun c_6 => ?_)
    · refine r_vret dX0_weigh_73 rfl ?_
      have e : f = 169 := by omega
      subst e
      exact ⟨rfl, k g hg h1 h3⟩
    · have lr := fLR_r (f := f) (by omega)
      refine r_aload_n dX0_weigh_9 rfl rfl ?_
      refine r_iload_n dX0_weigh_10 rfl rfl ?_
      refine r_iload_n dX0_weigh_11 rfl rfl ?_
      refine r_bipush dX0_weigh_12 (by decide +kernel) ?_
      refine r_idiv dX0_weigh_14 (by omega) ⟨by decide, by decide⟩ (by decide) ?_
      refine r_bipush dX0_weigh_15 (by decide +kernel) ?_
      refine r_isub dX0_weigh_17 ?_
      rw [fLe]
      refine r_iload_n dX0_weigh_18 rfl rfl ?_
      refine r_bipush dX0_weigh_19 (by decide +kernel) ?_
      refine r_irem dX0_weigh_21 (by omega) ⟨by decide, by decide⟩ (by decide) ?_
      refine r_bipush dX0_weigh_22 (by decide +kernel) ?_
      refine r_isub dX0_weigh_24 ?_
      rw [fRe]
      refine r_iload_n dX0_weigh_25 rfl rfl ?_
      refine r_callVI (av := [_, _, _, _]) (M' := mX0_fits) dX0_weigh_26 vX0_fits ml_X0_59 sh_33 (by decide) rfl rfl rfl rfl (by simp [wtA]) (sp_X0_fits (by omega) gw (by omega) qr (by omega) (by rw [ec, v36, wn]; exact ⟨xc.1, xc.2.1⟩) (by rw [ec, v37, v38]; exact xc.2.2) (by omega) (by omega) hd2 (fun g2 z f2 => ?_) (fun g2 z f2 => ?_))
      · refine r_if_eq (tgt := 41) dX0_weigh_29 rfl ⟨by decide, by decide⟩ (fun c_29 => absurd c_29 (by decide)) (fun c_29 => ?_)
        refine r_aload_n dX0_weigh_32 rfl rfl ?_
        refine r_getR dX0_weigh_33 fl_X0_37 sh_33 rfl ?_
        refine r_iload_n dX0_weigh_36 rfl rfl ?_
        refine r_iald dX0_weigh_37 sh_40 (by decide) (by omega) ?_
        refine r_goto (tgt := 43) dX0_weigh_38 rfl ?_
        refine r_eqI (y := (fun f : Nat => if (ftN (h 33 0) (h 1 2) (h 1 0) (h 1 3) (h 20) (h 21) (h 36) (h 37) (h 38) q) c f = 1 then O f else 1000000) f) ?_ ?_
        · first
            | (rw [f2.1 40 _ (by omega), ef, h2 f (Nat.le_refl f) (by omega)]
               refine (if_pos ?_).symm
               unfold ftN
               rw [ec, v20, v21, v36, v37, v38, w0, w2, w3] at z
               exact if_pos ⟨by omega, z⟩)
            | (refine (if_neg ?_).symm
               unfold ftN
               rw [ec, v20, v21, v36, v37, v38, w0, w2, w3] at z
               rw [if_neg (fun y => z y.2)]
               decide)
        refine r_istore (L' := [_, _, _, _, _]) dX0_weigh_43 rfl (by decide) rfl ?_
        refine r_aload_n dX0_weigh_45 rfl rfl ?_
        refine r_getR dX0_weigh_46 fl_X0_34 sh_33 rfl ?_
        refine r_iload_n dX0_weigh_49 rfl rfl ?_
        refine r_sipush dX0_weigh_50 (by decide +kernel) ?_
        refine r_imul dX0_weigh_53 ?_
        refine r_iload_n dX0_weigh_54 rfl rfl ?_
        refine r_iadd dX0_weigh_55 ?_
        refine r_iload dX0_weigh_56 rfl ?_
        refine r_iast dX0_weigh_58 sh_39 (by decide) (by omega) ?_
        refine r_aload_n dX0_weigh_59 rfl rfl ?_
        refine r_getR dX0_weigh_60 fl_X0_37 sh_33 rfl ?_
        refine r_iload_n dX0_weigh_63 rfl rfl ?_
        refine r_iload dX0_weigh_64 rfl ?_
        refine r_iast dX0_weigh_66 sh_40 (by decide) (by omega) ?_
        refine r_iinc (L' := [_, _, _, _, _]) dX0_weigh_67 rfl rfl (by decide) rfl ?_
        refine r_goto (tgt := 2) dX0_weigh_70 rfl ?_
        have ei : ((c : Int) * 169 + f).toNat = 169 * c + f := by omega
        rw [ei, ef]
        refine ih (f + 1) _ _ (by omega) ⟨fun a j y1 y2 y3 => ?_, ?_⟩ (fun j hj => ?_) (fun j y1 y2 => ?_) (fun j hj => ?_) (by omega)
        · rw [up_nc y3, up_nc y2]
          exact (f2.1 a j y1).trans (hg.1 a j y1 y2 y3)
        · rw [up_nc (by decide), up_nc (by decide)]
          exact f2.2
        · by_cases e : j = f
          · subst e
            exact ⟨up_s _ _ _ _, by rw [up_nc (by decide), up_s]⟩
          · rw [up_nk e, up_nc (by decide), up_nc (by decide), up_nk (by omega), f2.1 40 _ (by omega), f2.1 39 _ (by omega)]
            exact h1 j (by omega)
        · rw [up_nk (by omega), up_nc (by decide), f2.1 40 _ (by omega)]
          exact h2 j (by omega) y2
        · rw [up_nc (by decide), up_nk (by omega), f2.1 39 _ (by omega)]
          exact h3 j hj
      · refine r_if_eq (tgt := 41) dX0_weigh_29 rfl ⟨by decide, by decide⟩ (fun c_29 => ?_) (fun c_29 => absurd c_29 (by decide))
        refine r_ldc (z := 1000000) dX0_weigh_41 kc_X0_55 (by decide +kernel) ?_
        refine r_eqI (y := (fun f : Nat => if (ftN (h 33 0) (h 1 2) (h 1 0) (h 1 3) (h 20) (h 21) (h 36) (h 37) (h 38) q) c f = 1 then O f else 1000000) f) ?_ ?_
        · first
            | (rw [f2.1 40 _ (by omega), ef, h2 f (Nat.le_refl f) (by omega)]
               refine (if_pos ?_).symm
               unfold ftN
               rw [ec, v20, v21, v36, v37, v38, w0, w2, w3] at z
               exact if_pos ⟨by omega, z⟩)
            | (refine (if_neg ?_).symm
               unfold ftN
               rw [ec, v20, v21, v36, v37, v38, w0, w2, w3] at z
               rw [if_neg (fun y => z y.2)]
               decide)
        refine r_istore (L' := [_, _, _, _, _]) dX0_weigh_43 rfl (by decide) rfl ?_
        refine r_aload_n dX0_weigh_45 rfl rfl ?_
        refine r_getR dX0_weigh_46 fl_X0_34 sh_33 rfl ?_
        refine r_iload_n dX0_weigh_49 rfl rfl ?_
        refine r_sipush dX0_weigh_50 (by decide +kernel) ?_
        refine r_imul dX0_weigh_53 ?_
        refine r_iload_n dX0_weigh_54 rfl rfl ?_
        refine r_iadd dX0_weigh_55 ?_
        refine r_iload dX0_weigh_56 rfl ?_
        refine r_iast dX0_weigh_58 sh_39 (by decide) (by omega) ?_
        refine r_aload_n dX0_weigh_59 rfl rfl ?_
        refine r_getR dX0_weigh_60 fl_X0_37 sh_33 rfl ?_
        refine r_iload_n dX0_weigh_63 rfl rfl ?_
        refine r_iload dX0_weigh_64 rfl ?_
        refine r_iast dX0_weigh_66 sh_40 (by decide) (by omega) ?_
        refine r_iinc (L' := [_, _, _, _, _]) dX0_weigh_67 rfl rfl (by decide) rfl ?_
        refine r_goto (tgt := 2) dX0_weigh_70 rfl ?_
        have ei : ((c : Int) * 169 + f).toNat = 169 * c + f := by omega
        rw [ei, ef]
        refine ih (f + 1) _ _ (by omega) ⟨fun a j y1 y2 y3 => ?_, ?_⟩ (fun j hj => ?_) (fun j y1 y2 => ?_) (fun j hj => ?_) (by omega)
        · rw [up_nc y3, up_nc y2]
          exact (f2.1 a j y1).trans (hg.1 a j y1 y2 y3)
        · rw [up_nc (by decide), up_nc (by decide)]
          exact f2.2
        · by_cases e : j = f
          · subst e
            exact ⟨up_s _ _ _ _, by rw [up_nc (by decide), up_s]⟩
          · rw [up_nk e, up_nc (by decide), up_nc (by decide), up_nk (by omega), f2.1 40 _ (by omega), f2.1 39 _ (by omega)]
            exact h1 j (by omega)
        · rw [up_nk (by omega), up_nc (by decide), f2.1 40 _ (by omega)]
          exact h2 j (by omega) y2
        · rw [up_nc (by decide), up_nk (by omega), f2.1 39 _ (by omega)]
          exact h3 j hj
set_option maxRecDepth 20000 in
set_option maxHeartbeats 400000 in
theorem sp_X0_weigh {d : Nat} (hd : 4 ≤ d) {q : Int} {h : Hp} {c : Nat} {O : Nat → Int} (hw : WOK h) (hn : 0 ≤ (h 16 0) ∧ (h 16 0) ≤ 150) (hq : LR (h 20) (h 21) (h 16 0)) (hX : ∀ k : Nat, (k : Int) < (h 33 0) → 0 ≤ h 36 k ∧ h 36 k < (h 16 0) ∧ R32 (h 37 k) ∧ R32 (h 38 k)) (hc : (c : Int) < (h 33 0) ∧ (h 33 0) ≤ 12) (hd2 : 0 ≤ q ∧ q ≤ 999) (hO : ∀ j : Nat, j < 169 → h 40 j = O j) {P : Hp → Prop} (k : ∀ h' : Hp, (FrX h h') → (∀ j : Nat, j < 169 → h' 40 j = (fun f : Nat => if (ftN (h 33 0) (h 1 2) (h 1 0) (h 1 3) (h 20) (h 21) (h 36) (h 37) (h 38) q) c f = 1 then O f else 1000000) j ∧ h' 39 (169 * c + j) = (fun f : Nat => if (ftN (h 33 0) (h 1 2) (h 1 0) (h 1 3) (h 20) (h 21) (h 36) (h 37) (h 38) q) c f = 1 then O f else 1000000) j) → (∀ j : Nat, (j < 169 * c ∨ 169 * c + 169 ≤ j) → h' 39 j = h 39 j) → P h') : Cl d mX0_weigh [.inr (.inr 33), .inl (c : Int), .inl q] h (pV P) := by
  refine Cl.of (L := [some (.inr (.inr 33)), some (.inl (c : Int)), some (.inl q), none, none]) (by decide +kernel) (Nat.le_of_ble_eq_true rfl) rfl ?_
  obtain ⟨d, rfl⟩ : ∃ q, d = q + 1 := ⟨d - 1, by omega⟩
  refine r_iconst dX0_weigh_0 ?_
  refine r_istore_n (L' := [_, _, _, _, _]) dX0_weigh_1 rfl rfl (by decide) rfl ?_
  exact lp_weigh (by omega) hw hn hq hX hc hd2 k 170 0 h _ (by omega) (FrX.rf hw) (fun j hj => absurd hj (Nat.not_lt_zero j)) (fun j _ y => hO j y) (fun _ _ => rfl) (by omega)
def spD (D Bs : Nat → Int) : Prop := (∀ j : Nat, j < 169 → 0 ≤ D j ∧ D j ≤ Bs j ∧ Bs j ≤ 1000000) ∧ (∀ j : Nat, j + 13 < 169 → D j ≤ D (j + 13) + 1 ∧ D (j + 13) ≤ D j + 1) ∧ ∀ j : Nat, j + 1 < 169 → j % 13 < 12 → D j ≤ D (j + 1) + 1 ∧ D (j + 1) ≤ D j + 1
set_option maxRecDepth 20000 in
set_option maxHeartbeats 400000 in
theorem sg_spread1 {d : Nat} {post : Pst} {g : Hp} {D Bs : Nat → Int} {f : Nat} (hf : f < 169) (hD : spD D Bs) (hb : 0 < f % 13 → D (f - 1) ≤ g 40 (f - 1) ∧ g 40 (f - 1) ≤ 1000000) (K : ∀ g4 : Hp, (∀ a k, ¬ (a = 40 ∧ k = f) → g4 a k = g a k) → (D f ≤ g4 40 f ∧ g4 40 f ≤ Bs f) → (13 ≤ f → g4 40 f ≤ g 40 (f - 13) + 1) → (0 < f % 13 → g4 40 f ≤ g 40 (f - 1) + 1) → WW mX0_spread (d + 1) post 73 [some (.inr (.inr 33)), some (.inl (f : Int))] [] g4) : ∀ (nn : Nat) (g3 : Hp), (∀ a k, ¬ (a = 40 ∧ k = f) → g3 a k = g a k) → (D f ≤ g3 40 f ∧ g3 40 f ≤ Bs f) → (13 ≤ f → g3 40 f ≤ g 40 (f - 13) + 1) → 0 < nn → WW mX0_spread (d + 1) post 41 [some (.inr (.inr 33)), some (.inl (f : Int))] [] g3 := by
  intro nn
  induction nn with
  | zero => intro g3 kg kv1 kv2; intros; omega
  | succ nn ih =>
    intro g3 kg kv1 kv2 hmu
    have ef : ((f : Int)).toNat = f := Int.toNat_natCast f
    have em : ((f : Int)).tmod 13 = ((f % 13 : Nat) : Int) := rfl
    have df := hD.1 f hf
    have c3 : g3 40 ((f : Int)).toNat = g3 40 f := by rw [ef]
    refine r_iload_n dX0_spread_41 rfl rfl ?_
    refine r_bipush dX0_spread_42 (by decide +kernel) ?_
    refine r_irem dX0_spread_44 (by omega) ⟨by decide, by decide⟩ (by decide) ?_
    refine r_if_le (tgt := 73) dX0_spread_45 rfl (by omega) (fun c_45 => ?_) (fun c_45 => ?_)
    · exact K g3 kg kv1 kv2 (fun z => absurd z (by omega))
    · have e1 : ((f : Int) - 1).toNat = f - 1 := by omega
      have b1 := hb (by omega)
      have d1 := hD.1 (f - 1) (by omega)
      have y1 : g3 40 ((f : Int) - 1).toNat = g 40 (f - 1) := by rw [e1]; exact kg 40 _ (by omega)
      have l1 : D f ≤ D (f - 1) + 1 := (by have := (hD.2.2 (f - 1) (by omega) (by omega)).2; rw [show f - 1 + 1 = f by omega] at this; exact this)
      refine r_aload_n dX0_spread_48 rfl rfl ?_
      refine r_getR dX0_spread_49 fl_X0_37 sh_33 rfl ?_
      refine r_iload_n dX0_spread_52 rfl rfl ?_
      refine r_aload_n dX0_spread_53 rfl rfl ?_
      refine r_getR dX0_spread_54 fl_X0_37 sh_33 rfl ?_
      refine r_iload_n dX0_spread_57 rfl rfl ?_
      refine r_iald dX0_spread_58 sh_40 (by decide) (by omega) ?_
      refine r_aload_n dX0_spread_59 rfl rfl ?_
      refine r_getR dX0_spread_60 fl_X0_37 sh_33 rfl ?_
      refine r_iload_n dX0_spread_63 rfl rfl ?_
      refine r_iconst dX0_spread_64 ?_
      refine r_isub dX0_spread_65 ?_
      refine r_iald dX0_spread_66 sh_40 (by decide) (by omega) ?_
      refine r_iconst dX0_spread_67 ?_
      refine r_iadd dX0_spread_68 ?_
      refine r_mmin (by omega) (by omega) dX0_spread_69 ml_X0_92 (by simp [wtA]) ?_
      refine r_iast dX0_spread_72 sh_40 (by decide) (by omega) ?_
      have ev : ∀ z : Int, upH g3 40 (f : Int).toNat z 40 f = z := fun z => by rw [ef]; exact up_s _ _ _ _
      refine K (upH g3 40 (f : Int).toNat (min (g3 40 (f : Int).toNat) (g3 40 ((f : Int) - 1).toNat + 1))) (fun a k z => ?_) ?_ (fun z => ?_) (fun z => ?_)
      · rw [ef]
        unfold upH
        rw [if_neg z]
        exact kg a k z
      · rw [ev, c3]; omega
      · have := kv2 z
        rw [ev, c3]; omega
      · rw [ev, c3, y1]; omega
set_option maxRecDepth 20000 in
set_option maxHeartbeats 400000 in
theorem lp_spread1 {d : Nat} {post : Pst} {h : Hp} {D Bs : Nat → Int} (hD : spD D Bs) (k : ∀ g : Hp, (∀ a k, a ≠ 40 → g a k = h a k) → (∀ j : Nat, j < 169 → g 40 j ≤ Bs j ∧ (13 ≤ j → g 40 j ≤ g 40 (j - 13) + 1) ∧ (0 < j % 13 → g 40 j ≤ g 40 (j - 1) + 1) ∧ D j ≤ g 40 j) → WW mX0_spread (d + 1) post 79 [some (.inr (.inr 33)), some (.inl 169)] [] g) : ∀ (nn : Nat) (f : Nat) (g : Hp), (f ≤ 169) → (∀ a k, a ≠ 40 → g a k = h a k) → (∀ j : Nat, j < f → g 40 j ≤ Bs j ∧ (13 ≤ j → g 40 j ≤ g 40 (j - 13) + 1) ∧ (0 < j % 13 → g 40 j ≤ g 40 (j - 1) + 1) ∧ D j ≤ g 40 j) → (∀ j : Nat, f ≤ j → j < 169 → g 40 j = Bs j) → 169 - f < nn → WW mX0_spread (d + 1) post 2 [some (.inr (.inr 33)), some (.inl (f : Int))] [] g := by
  intro nn
  induction nn with
  | zero => intro f g hf hg h1 h2; intros; omega
  | succ nn ih =>
    intro f g hf hg h1 h2 hmu
    have ef : ((f : Int)).toNat = f := Int.toNat_natCast f
    refine r_iload_n dX0_spread_2 rfl rfl ?_
    refine r_sipush dX0_spread_3 (by decide +kernel) ?_
    refine r_icmp_ge (tgt := 79) dX0_spread_6 rfl (by omega) ⟨by decide, by decide⟩ (fun c_6 => ?_) (fun c_6 => ?_)
    · have e : f = 169 := by omega
      subst e
      exact k g hg h1
    · have df := hD.1 f (by omega)
      have cf := h2 f (by omega) (by omega)
      have cf2 : g 40 ((f : Int)).toNat = Bs f := by rw [ef]; exact cf
      refine r_iload_n dX0_spread_9 rfl rfl ?_
      refine r_bipush dX0_spread_10 (by decide +kernel) ?_
      refine r_icmp_lt (tgt := 41) dX0_spread_12 rfl (by omega) ⟨by decide, by decide⟩ (fun c_12 => ?_) (fun c_12 => ?_)
      · refine sg_spread1 (f := f) (g := g) (by omega) hD (fun z => ?_) (fun g4 y1 y2 y3 y4 => ?_) 1 g (fun _ _ _ => rfl) (by rw [cf]; omega) (fun z => absurd z (by omega)) (by decide)
        · have p1 := h1 (f - 1) (by omega)
          have := hD.1 (f - 1) (by omega)
          omega
        · refine r_iinc (L' := [_, _]) dX0_spread_73 rfl rfl (by decide) rfl ?_
          refine r_goto (tgt := 2) dX0_spread_76 rfl ?_
          refine ih (f + 1) g4 (by omega) (fun a k z => (y1 a k (by omega)).trans (hg a k z)) (fun j hj => ?_) (fun j z1 z2 => ?_) (by omega)
          · by_cases e : j = f
            · subst e
              refine ⟨y2.2, fun z => ?_, fun z => ?_, y2.1⟩
              · rw [y1 40 (j - 13) (by omega)]; exact y3 z
              · rw [y1 40 (j - 1) (by omega)]; exact y4 z
            · have p := h1 j (by omega)
              rw [y1 40 j (by omega)]
              refine ⟨p.1, fun z => ?_, fun z => ?_, p.2.2.2⟩
              · rw [y1 40 (j - 13) (by omega)]; exact p.2.1 z
              · rw [y1 40 (j - 1) (by omega)]; exact p.2.2.1 z
          · rw [y1 40 j (by omega)]
            exact h2 j (by omega) z2
      · have eA : ((f : Int) - 13).toNat = f - 13 := by omega
        have pA := h1 (f - 13) (by omega)
        have dA := hD.1 (f - 13) (by omega)
        have lA : D f ≤ D (f - 13) + 1 := (by have := (hD.2.1 (f - 13) (by omega)).2; rw [show f - 13 + 13 = f by omega] at this; exact this)
        have yA : g 40 ((f : Int) - 13).toNat = g 40 (f - 13) := by rw [eA]
        refine r_aload_n dX0_spread_15 rfl rfl ?_
        refine r_getR dX0_spread_16 fl_X0_37 sh_33 rfl ?_
        refine r_iload_n dX0_spread_19 rfl rfl ?_
        refine r_aload_n dX0_spread_20 rfl rfl ?_
        refine r_getR dX0_spread_21 fl_X0_37 sh_33 rfl ?_
        refine r_iload_n dX0_spread_24 rfl rfl ?_
        refine r_iald dX0_spread_25 sh_40 (by decide) (by omega) ?_
        refine r_aload_n dX0_spread_26 rfl rfl ?_
        refine r_getR dX0_spread_27 fl_X0_37 sh_33 rfl ?_
        refine r_iload_n dX0_spread_30 rfl rfl ?_
        refine r_bipush dX0_spread_31 (by decide +kernel) ?_
        refine r_isub dX0_spread_33 ?_
        refine r_iald dX0_spread_34 sh_40 (by decide) (by omega) ?_
        refine r_iconst dX0_spread_35 ?_
        refine r_iadd dX0_spread_36 ?_
        refine r_mmin (by omega) (by omega) dX0_spread_37 ml_X0_92 (by simp [wtA]) ?_
        refine r_iast dX0_spread_40 sh_40 (by decide) (by omega) ?_
        have ev : ∀ z : Int, upH g 40 (f : Int).toNat z 40 f = z := fun z => by rw [ef]; exact up_s _ _ _ _
        refine sg_spread1 (f := f) (g := g) (by omega) hD (fun z => ?_) (fun g4 y1 y2 y3 y4 => ?_) 1 (upH g 40 (f : Int).toNat (min (g 40 (f : Int).toNat) (g 40 ((f : Int) - 13).toNat + 1))) (fun a k z => by rw [ef]; unfold upH; rw [if_neg z]) (by rw [ev, cf2]; omega) (fun z => by rw [ev, yA]; omega) (by decide)
        · have p1 := h1 (f - 1) (by omega)
          have := hD.1 (f - 1) (by omega)
          omega
        · refine r_iinc (L' := [_, _]) dX0_spread_73 rfl rfl (by decide) rfl ?_
          refine r_goto (tgt := 2) dX0_spread_76 rfl ?_
          refine ih (f + 1) g4 (by omega) (fun a k z => (y1 a k (by omega)).trans (hg a k z)) (fun j hj => ?_) (fun j z1 z2 => ?_) (by omega)
          · by_cases e : j = f
            · subst e
              refine ⟨y2.2, fun z => ?_, fun z => ?_, y2.1⟩
              · rw [y1 40 (j - 13) (by omega)]; exact y3 z
              · rw [y1 40 (j - 1) (by omega)]; exact y4 z
            · have p := h1 j (by omega)
              rw [y1 40 j (by omega)]
              refine ⟨p.1, fun z => ?_, fun z => ?_, p.2.2.2⟩
              · rw [y1 40 (j - 13) (by omega)]; exact p.2.1 z
              · rw [y1 40 (j - 1) (by omega)]; exact p.2.2.1 z
          · rw [y1 40 j (by omega)]
            exact h2 j (by omega) z2
set_option maxRecDepth 20000 in
set_option maxHeartbeats 400000 in
theorem sg_spread2 {d : Nat} {post : Pst} {g : Hp} {D Bs : Nat → Int} {f : Nat} (hf : f < 169) (hD : spD D Bs) (hb : f % 13 < 12 → D (f + 1) ≤ g 40 (f + 1) ∧ g 40 (f + 1) ≤ 1000000) (K : ∀ g4 : Hp, (∀ a k, ¬ (a = 40 ∧ k = f) → g4 a k = g a k) → (D f ≤ g4 40 f ∧ g4 40 f ≤ Bs f) → (f + 13 < 169 → g4 40 f ≤ g 40 (f + 13) + 1) → (f % 13 < 12 → g4 40 f ≤ g 40 (f + 1) + 1) → WW mX0_spread (d + 1) post 157 [some (.inr (.inr 33)), some (.inl (f : Int))] [] g4) : ∀ (nn : Nat) (g3 : Hp), (∀ a k, ¬ (a = 40 ∧ k = f) → g3 a k = g a k) → (D f ≤ g3 40 f ∧ g3 40 f ≤ Bs f) → (f + 13 < 169 → g3 40 f ≤ g 40 (f + 13) + 1) → 0 < nn → WW mX0_spread (d + 1) post 123 [some (.inr (.inr 33)), some (.inl (f : Int))] [] g3 := by
  intro nn
  induction nn with
  | zero => intro g3 kg kv1 kv2; intros; omega
  | succ nn ih =>
    intro g3 kg kv1 kv2 hmu
    have ef : ((f : Int)).toNat = f := Int.toNat_natCast f
    have em : ((f : Int)).tmod 13 = ((f % 13 : Nat) : Int) := rfl
    have df := hD.1 f hf
    have c3 : g3 40 ((f : Int)).toNat = g3 40 f := by rw [ef]
    refine r_iload_n dX0_spread_123 rfl rfl ?_
    refine r_bipush dX0_spread_124 (by decide +kernel) ?_
    refine r_irem dX0_spread_126 (by omega) ⟨by decide, by decide⟩ (by decide) ?_
    refine r_bipush dX0_spread_127 (by decide +kernel) ?_
    refine r_icmp_ge (tgt := 157) dX0_spread_129 rfl (by omega) ⟨by decide, by decide⟩ (fun c_129 => ?_) (fun c_129 => ?_)
    · exact K g3 kg kv1 kv2 (fun z => absurd z (by omega))
    · have e1 : ((f : Int) + 1).toNat = f + 1 := by omega
      have b1 := hb (by omega)
      have d1 := hD.1 (f + 1) (by omega)
      have y1 : g3 40 ((f : Int) + 1).toNat = g 40 (f + 1) := by rw [e1]; exact kg 40 _ (by omega)
      have l1 : D f ≤ D (f + 1) + 1 := (hD.2.2 f (by omega) (by omega)).1
      refine r_aload_n dX0_spread_132 rfl rfl ?_
      refine r_getR dX0_spread_133 fl_X0_37 sh_33 rfl ?_
      refine r_iload_n dX0_spread_136 rfl rfl ?_
      refine r_aload_n dX0_spread_137 rfl rfl ?_
      refine r_getR dX0_spread_138 fl_X0_37 sh_33 rfl ?_
      refine r_iload_n dX0_spread_141 rfl rfl ?_
      refine r_iald dX0_spread_142 sh_40 (by decide) (by omega) ?_
      refine r_aload_n dX0_spread_143 rfl rfl ?_
      refine r_getR dX0_spread_144 fl_X0_37 sh_33 rfl ?_
      refine r_iload_n dX0_spread_147 rfl rfl ?_
      refine r_iconst dX0_spread_148 ?_
      refine r_iadd dX0_spread_149 ?_
      refine r_iald dX0_spread_150 sh_40 (by decide) (by omega) ?_
      refine r_iconst dX0_spread_151 ?_
      refine r_iadd dX0_spread_152 ?_
      refine r_mmin (by omega) (by omega) dX0_spread_153 ml_X0_92 (by simp [wtA]) ?_
      refine r_iast dX0_spread_156 sh_40 (by decide) (by omega) ?_
      have ev : ∀ z : Int, upH g3 40 (f : Int).toNat z 40 f = z := fun z => by rw [ef]; exact up_s _ _ _ _
      refine K (upH g3 40 (f : Int).toNat (min (g3 40 (f : Int).toNat) (g3 40 ((f : Int) + 1).toNat + 1))) (fun a k z => ?_) ?_ (fun z => ?_) (fun z => ?_)
      · rw [ef]
        unfold upH
        rw [if_neg z]
        exact kg a k z
      · rw [ev, c3]; omega
      · have := kv2 z
        rw [ev, c3]; omega
      · rw [ev, c3, y1]; omega
set_option maxRecDepth 20000 in
set_option maxHeartbeats 400000 in
theorem lp_spread2 {d : Nat} {post : Pst} {h : Hp} {D Bs : Nat → Int} (hD : spD D Bs) (k : ∀ g : Hp, (∀ a k, a ≠ 40 → g a k = h a k) → (∀ j : Nat, j < 169 → g 40 j ≤ Bs j ∧ (j + 13 < 169 → g 40 j ≤ g 40 (j + 13) + 1) ∧ (j % 13 < 12 → g 40 j ≤ g 40 (j + 1) + 1) ∧ D j ≤ g 40 j) → WW mX0_spread (d + 1) post 163 [some (.inr (.inr 33)), some (.inl (-1))] [] g) : ∀ (nn : Nat) (m : Nat) (g : Hp), (m ≤ 169) → (∀ a k, a ≠ 40 → g a k = h a k) → (∀ j : Nat, m ≤ j → j < 169 → g 40 j ≤ Bs j ∧ (j + 13 < 169 → g 40 j ≤ g 40 (j + 13) + 1) ∧ (j % 13 < 12 → g 40 j ≤ g 40 (j + 1) + 1) ∧ D j ≤ g 40 j) → (∀ j : Nat, j < m → g 40 j = Bs j) → m < nn → WW mX0_spread (d + 1) post 83 [some (.inr (.inr 33)), some (.inl ((m : Int) - 1))] [] g := by
  intro nn
  induction nn with
  | zero => intro m g hf hg h1 h2; intros; omega
  | succ nn ih =>
    intro m g hf hg h1 h2 hmu
    refine r_iload_n dX0_spread_83 rfl rfl ?_
    refine r_if_lt (tgt := 163) dX0_spread_84 rfl (by omega) (fun c_84 => ?_) (fun c_84 => ?_)
    · have e : m = 0 := by omega
      subst e
      exact k g hg (fun j hj => h1 j (by omega) hj)
    · obtain ⟨f, rfl⟩ : ∃ f, m = f + 1 := ⟨m - 1, by omega⟩
      rw [show ((f + 1 : Nat) : Int) - 1 = (f : Int) by omega]
      have ef : ((f : Int)).toNat = f := Int.toNat_natCast f
      have df := hD.1 f (by omega)
      have cf := h2 f (by omega)
      have cf2 : g 40 ((f : Int)).toNat = Bs f := by rw [ef]; exact cf
      refine r_iload_n dX0_spread_87 rfl rfl ?_
      refine r_bipush dX0_spread_88 (by decide +kernel) ?_
      refine r_iadd dX0_spread_90 ?_
      refine r_sipush dX0_spread_91 (by decide +kernel) ?_
      refine r_icmp_ge (tgt := 123) dX0_spread_94 rfl (by omega) ⟨by decide, by decide⟩ (fun c_94 => ?_) (fun c_94 => ?_)
      · refine sg_spread2 (f := f) (g := g) (by omega) hD (fun z => ?_) (fun g4 y1 y2 y3 y4 => ?_) 1 g (fun _ _ _ => rfl) (by rw [cf]; omega) (fun z => absurd z (by omega)) (by decide)
        · have p1 := h1 (f + 1) (by omega) (by omega)
          have := hD.1 (f + 1) (by omega)
          omega
        · refine r_iinc (L' := [_, _]) dX0_spread_157 rfl rfl (by decide) rfl ?_
          refine r_goto (tgt := 83) dX0_spread_160 rfl ?_
          rw [show (f : Int) + -1 = (f : Int) - 1 from rfl]
          refine ih f g4 (by omega) (fun a k z => (y1 a k (by omega)).trans (hg a k z)) (fun j hj hj2 => ?_) (fun j z1 => ?_) (by omega)
          · by_cases e : j = f
            · subst e
              refine ⟨y2.2, fun z => ?_, fun z => ?_, y2.1⟩
              · rw [y1 40 (j + 13) (by omega)]; exact y3 z
              · rw [y1 40 (j + 1) (by omega)]; exact y4 z
            · have p := h1 j (by omega) hj2
              rw [y1 40 j (by omega)]
              refine ⟨p.1, fun z => ?_, fun z => ?_, p.2.2.2⟩
              · rw [y1 40 (j + 13) (by omega)]; exact p.2.1 z
              · rw [y1 40 (j + 1) (by omega)]; exact p.2.2.1 z
          · rw [y1 40 j (by omega)]
            exact h2 j (by omega)
      · have eA : ((f : Int) + 13).toNat = f + 13 := by omega
        have pA := h1 (f + 13) (by omega) (by omega)
        have dA := hD.1 (f + 13) (by omega)
        have lA : D f ≤ D (f + 13) + 1 := (hD.2.1 f (by omega)).1
        have yA : g 40 ((f : Int) + 13).toNat = g 40 (f + 13) := by rw [eA]
        refine r_aload_n dX0_spread_97 rfl rfl ?_
        refine r_getR dX0_spread_98 fl_X0_37 sh_33 rfl ?_
        refine r_iload_n dX0_spread_101 rfl rfl ?_
        refine r_aload_n dX0_spread_102 rfl rfl ?_
        refine r_getR dX0_spread_103 fl_X0_37 sh_33 rfl ?_
        refine r_iload_n dX0_spread_106 rfl rfl ?_
        refine r_iald dX0_spread_107 sh_40 (by decide) (by omega) ?_
        refine r_aload_n dX0_spread_108 rfl rfl ?_
        refine r_getR dX0_spread_109 fl_X0_37 sh_33 rfl ?_
        refine r_iload_n dX0_spread_112 rfl rfl ?_
        refine r_bipush dX0_spread_113 (by decide +kernel) ?_
        refine r_iadd dX0_spread_115 ?_
        refine r_iald dX0_spread_116 sh_40 (by decide) (by omega) ?_
        refine r_iconst dX0_spread_117 ?_
        refine r_iadd dX0_spread_118 ?_
        refine r_mmin (by omega) (by omega) dX0_spread_119 ml_X0_92 (by simp [wtA]) ?_
        refine r_iast dX0_spread_122 sh_40 (by decide) (by omega) ?_
        have ev : ∀ z : Int, upH g 40 (f : Int).toNat z 40 f = z := fun z => by rw [ef]; exact up_s _ _ _ _
        refine sg_spread2 (f := f) (g := g) (by omega) hD (fun z => ?_) (fun g4 y1 y2 y3 y4 => ?_) 1 (upH g 40 (f : Int).toNat (min (g 40 (f : Int).toNat) (g 40 ((f : Int) + 13).toNat + 1))) (fun a k z => by rw [ef]; unfold upH; rw [if_neg z]) (by rw [ev, cf2]; omega) (fun z => by rw [ev, yA]; omega) (by decide)
        · have p1 := h1 (f + 1) (by omega) (by omega)
          have := hD.1 (f + 1) (by omega)
          omega
        · refine r_iinc (L' := [_, _]) dX0_spread_157 rfl rfl (by decide) rfl ?_
          refine r_goto (tgt := 83) dX0_spread_160 rfl ?_
          rw [show (f : Int) + -1 = (f : Int) - 1 from rfl]
          refine ih f g4 (by omega) (fun a k z => (y1 a k (by omega)).trans (hg a k z)) (fun j hj hj2 => ?_) (fun j z1 => ?_) (by omega)
          · by_cases e : j = f
            · subst e
              refine ⟨y2.2, fun z => ?_, fun z => ?_, y2.1⟩
              · rw [y1 40 (j + 13) (by omega)]; exact y3 z
              · rw [y1 40 (j + 1) (by omega)]; exact y4 z
            · have p := h1 j (by omega) hj2
              rw [y1 40 j (by omega)]
              refine ⟨p.1, fun z => ?_, fun z => ?_, p.2.2.2⟩
              · rw [y1 40 (j + 13) (by omega)]; exact p.2.1 z
              · rw [y1 40 (j + 1) (by omega)]; exact p.2.2.1 z
          · rw [y1 40 j (by omega)]
            exact h2 j (by omega)
theorem spD_1 {B : Nat → Int} (hB : ∀ j : Nat, j < 169 → 0 ≤ B j ∧ B j ≤ 1000000) : spD (fun j => dM B (fL j) (fR j)) B :=
  ⟨fun j hj => ⟨(dM_r (fun i hi => (hB i hi).1)).1, dM_self hj, (hB j hj).2⟩, fun j hj => ⟨dM_lip (by unfold fL fR; omega), dM_lip (by unfold fL fR; omega)⟩, fun j hj hm => ⟨dM_lip (by unfold fL fR; omega), dM_lip (by unfold fL fR; omega)⟩⟩
set_option maxRecDepth 20000 in
set_option maxHeartbeats 400000 in
theorem sp_X0_spread {d : Nat} (hd : 2 ≤ d) {h : Hp} {B : Nat → Int} (hB : ∀ j : Nat, j < 169 → 0 ≤ B j ∧ B j ≤ 1000000) (hO : ∀ j : Nat, j < 169 → h 40 j = B j) {P : Hp → Prop} (k : ∀ h' : Hp, (∀ a k, a ≠ 40 → h' a k = h a k) → (∀ j : Nat, j < 169 → h' 40 j = dM B (fL j) (fR j)) → P h') : Cl d mX0_spread [.inr (.inr 33)] h (pV P) := by
  refine Cl.of (L := [some (.inr (.inr 33)), none]) (by decide +kernel) (Nat.le_of_ble_eq_true rfl) rfl ?_
  obtain ⟨d, rfl⟩ : ∃ q, d = q + 1 := ⟨d - 1, by omega⟩
  refine r_iconst dX0_spread_0 ?_
  refine r_istore_n (L' := [_, _]) dX0_spread_1 rfl rfl (by decide) rfl ?_
  have s1 := spD_1 hB
  refine lp_spread1 s1 (fun g z1 z2 => ?_) 170 0 h (by omega) (fun _ _ _ => rfl) (fun j hj => absurd hj (Nat.not_lt_zero j)) (fun j _ y => hO j y) (by omega)
  refine r_sipush dX0_spread_79 (by decide +kernel) ?_
  refine r_istore_n (L' := [_, _]) dX0_spread_82 rfl rfl (by decide) rfl ?_
  have s2 : spD (fun j => dM B (fL j) (fR j)) (g 40) := ⟨fun j hj => ⟨(s1.1 j hj).1, (z2 j hj).2.2.2, Int.le_trans (z2 j hj).1 (hB j hj).2⟩, s1.2.1, s1.2.2⟩
  refine lp_spread2 (h := g) s2 (fun g3 y1 y2 => ?_) 170 169 g (by omega) (fun _ _ _ => rfl) (fun j hj hj2 => by omega) (fun j _ => rfl) (by omega)
  refine r_vret dX0_spread_163 rfl ?_
  refine ⟨rfl, k g3 (fun a q z => (y1 a q z).trans (z1 a q z)) ?_⟩
  exact sprd (B := B) (F := g 40) (R := g3 40) (fun f hf => (hB f hf).2) (fun f hf => (z2 f hf).1) (fun f hf => (z2 f hf).2.1) (fun f hf => (z2 f hf).2.2.1) (fun f hf => (y2 f hf).1) (fun f hf => (y2 f (by omega)).2.1 hf) (fun f hf => (y2 f hf).2.2.1) (fun f hf => (y2 f hf).2.2.2)
