/-! CROSSES, THE REFERENCE -/
set_option maxRecDepth 20000 in
set_option maxHeartbeats 400000 in
theorem sp_X12_fits {d : Nat} (hd : 5 ≤ d) {c l r q : Int} {h : Hp}  (hw : MOK h) (hn : 0 ≤ (h 49 29) ∧ (h 49 29) ≤ 150) (hxy : MXY (h 49 3) (h 49 4) (h 60) (h 61) 0 (h 49 29)) (hc : 0 ≤ c ∧ c ≤ 11) (hm : 0 ≤ h 70 c.toNat ∧ h 70 c.toNat < (h 49 29)) (hx : R32 (h 71 c.toNat) ∧ R32 (h 72 c.toNat)) (hl : -6 ≤ l ∧ l ≤ 6) (hr : -6 ≤ r ∧ r ≤ 6) (hd2 : 0 ≤ q ∧ q ≤ 999) {P : Int → Hp → Prop} (kt : (ftP (h 49 5) (h 49 3) (h 49 6) ((mL (h 49 5) (h 49 6) (h 60) (h 61)) ((h 70 c.toNat).toNat + 1) + l) ((mR (h 49 3) (h 49 5) (h 49 6) (h 60) (h 61)) ((h 70 c.toNat).toNat + 1) + r) (h 71 c.toNat) (h 72 c.toNat) q) → P 1 h) (kf : ¬ (ftP (h 49 5) (h 49 3) (h 49 6) ((mL (h 49 5) (h 49 6) (h 60) (h 61)) ((h 70 c.toNat).toNat + 1) + l) ((mR (h 49 3) (h 49 5) (h 49 6) (h 60) (h 61)) ((h 70 c.toNat).toNat + 1) + r) (h 71 c.toNat) (h 72 c.toNat) q) → P 0 h) : Cl d mX12_fits [.inr (.inr 49), .inl c, .inl l, .inl r, .inl q] h (pI P) := by
  refine Cl.of (L := [some (.inr (.inr 49)), some (.inl c), some (.inl l), some (.inl r), some (.inl q), none, none, none, none, none, none]) (by decide +kernel) (Nat.le_of_ble_eq_true rfl) rfl ?_
  obtain ⟨d, rfl⟩ : ∃ q, d = q + 1 := ⟨d - 1, by omega⟩
  have e1 : (h 70 c.toNat + 1).toNat = (h 70 c.toNat).toNat + 1 := by omega
  have hq := hxy.lr (K := (h 49 5)) (E := (h 49 6)) (by omega) (by omega) (by omega) (by omega)
  have q1 := hq ((h 70 c.toNat).toNat + 1) (by omega)
  have x1 := hxy ((h 70 c.toNat).toNat + 1) (by omega)
  rw [Nat.zero_add] at x1
  rw [← e1] at q1 x1
  rw [← e1] at kt kf
  have g1 := pX_r (K := (h 49 5)) (W := (h 49 3)) (E := (h 49 6)) (l := (mL (h 49 5) (h 49 6) (h 60) (h 61)) (h 70 c.toNat + 1).toNat + l) (r := (mR (h 49 3) (h 49 5) (h 49 6) (h 60) (h 61)) (h 70 c.toNat + 1).toNat + r) (by omega) (by omega) (by omega) (by omega) (by omega)
  have g2 := pY_r (K := (h 49 5)) (W := (h 49 3)) (E := (h 49 6)) (l := (mL (h 49 5) (h 49 6) (h 60) (h 61)) (h 70 c.toNat + 1).toNat + l) (r := (mR (h 49 3) (h 49 5) (h 49 6) (h 60) (h 61)) (h 70 c.toNat + 1).toNat + r) (by omega) (by omega) (by omega)
  refine r_aload_n dX12_fits_0 rfl rfl ?_
  refine r_aload_n dX12_fits_1 rfl rfl ?_
  refine r_getR dX12_fits_2 fl_X12_91 sh_49 rfl ?_
  refine r_iload_n dX12_fits_5 rfl rfl ?_
  refine r_iald dX12_fits_6 sh_70 (by decide) (by omega) ?_
  refine r_iconst dX12_fits_7 ?_
  refine r_iadd dX12_fits_8 ?_
  refine r_callVI (av := [_]) (M' := mX12_leftAt) dX12_fits_9 vX12_leftAt ml_X12_344 sh_49 (by decide) rfl rfl rfl rfl (by simp [wtA]) (sp_X12_leftAt (by omega) (by omega) (by omega) (by omega) (by omega) ?_)
  refine r_iload_n dX12_fits_12 rfl rfl ?_
  refine r_iadd dX12_fits_13 ?_
  refine r_istore (L' := [_, _, _, _, _, _, _, _, _, _, _]) dX12_fits_14 rfl (by decide) rfl ?_
  refine r_aload_n dX12_fits_16 rfl rfl ?_
  refine r_aload_n dX12_fits_17 rfl rfl ?_
  refine r_getR dX12_fits_18 fl_X12_91 sh_49 rfl ?_
  refine r_iload_n dX12_fits_21 rfl rfl ?_
  refine r_iald dX12_fits_22 sh_70 (by decide) (by omega) ?_
  refine r_iconst dX12_fits_23 ?_
  refine r_iadd dX12_fits_24 ?_
  refine r_callVI (av := [_]) (M' := mX12_rightAt) dX12_fits_25 vX12_rightAt ml_X12_347 sh_49 (by decide) rfl rfl rfl rfl (by simp [wtA]) (sp_X12_rightAt (by omega) (by omega) (by omega) (by omega) (by omega) ?_)
  refine r_iload_n dX12_fits_28 rfl rfl ?_
  refine r_iadd dX12_fits_29 ?_
  refine r_istore (L' := [_, _, _, _, _, _, _, _, _, _, _]) dX12_fits_30 rfl (by decide) rfl ?_
  refine r_aload_n dX12_fits_32 rfl rfl ?_
  refine r_iload dX12_fits_33 rfl ?_
  refine r_iload dX12_fits_35 rfl ?_
  refine r_callVI (av := [_, _]) (M' := mX12_placeX) dX12_fits_37 vX12_placeX ml_X12_156 sh_49 (by decide) rfl rfl rfl rfl (by simp [wtA]) (sp_X12_placeX (by omega) (by omega) (by omega) (by omega) ?_)
  refine r_i2l dX12_fits_40 (by omega) ?_
  refine r_aload_n dX12_fits_41 rfl rfl ?_
  refine r_getR dX12_fits_42 fl_X12_94 sh_49 rfl ?_
  refine r_iload_n dX12_fits_45 rfl rfl ?_
  refine r_iald dX12_fits_46 sh_71 (by decide) (by omega) ?_
  refine r_i2l dX12_fits_47 (by omega) ?_
  refine r_lsub dX12_fits_48 ?_
  refine r_lstore (L' := [_, _, _, _, _, _, _, _, _, _, _]) dX12_fits_49 rfl (by decide) rfl ?_
  refine r_aload_n dX12_fits_51 rfl rfl ?_
  refine r_iload dX12_fits_52 rfl ?_
  refine r_iload dX12_fits_54 rfl ?_
  refine r_callVI (av := [_, _]) (M' := mX12_placeY) dX12_fits_56 vX12_placeY ml_X12_195 sh_49 (by decide) rfl rfl rfl rfl (by simp [wtA]) (sp_X12_placeY (by omega) (by omega) (by omega) (by omega) ?_)
  refine r_i2l dX12_fits_59 (by omega) ?_
  refine r_aload_n dX12_fits_60 rfl rfl ?_
  refine r_getR dX12_fits_61 fl_X12_97 sh_49 rfl ?_
  refine r_iload_n dX12_fits_64 rfl rfl ?_
  refine r_iald dX12_fits_65 sh_72 (by decide) (by omega) ?_
  refine r_i2l dX12_fits_66 (by omega) ?_
  refine r_lsub dX12_fits_67 ?_
  refine r_lstore (L' := [_, _, _, _, _, _, _, _, _, _, _]) dX12_fits_68 rfl (by decide) rfl ?_
  refine r_lload dX12_fits_70 rfl ?_
  refine r_iload dX12_fits_72 rfl ?_
  refine r_i2l dX12_fits_74 (by omega) ?_
  refine r_lcmp_gt (tgt := 112) dX12_fits_75 dX12_fits_76 rfl (by omega) (by omega) (fun c_75 => ?_) (fun c_75 => ?_)
  · refine r_iconst dX12_fits_112 ?_
    refine r_zret dX12_fits_113 rfl (.inl rfl) ?_
    exact ⟨_, rfl, kf (by rintro ⟨z1, z2⟩; omega)⟩
  · refine r_lload dX12_fits_79 rfl ?_
    refine r_lneg dX12_fits_81 ?_
    refine r_iload dX12_fits_82 rfl ?_
    refine r_i2l dX12_fits_84 (by omega) ?_
    refine r_lcmp_gt (tgt := 112) dX12_fits_85 dX12_fits_86 rfl (by omega) (by omega) (fun c_85 => ?_) (fun c_85 => ?_)
    · refine r_iconst dX12_fits_112 ?_
      refine r_zret dX12_fits_113 rfl (.inl rfl) ?_
      exact ⟨_, rfl, kf (by rintro ⟨z1, z2⟩; omega)⟩
    · refine r_lload dX12_fits_89 rfl ?_
      refine r_iload dX12_fits_91 rfl ?_
      refine r_i2l dX12_fits_93 (by omega) ?_
      refine r_lcmp_gt (tgt := 112) dX12_fits_94 dX12_fits_95 rfl (by omega) (by omega) (fun c_94 => ?_) (fun c_94 => ?_)
      · refine r_iconst dX12_fits_112 ?_
        refine r_zret dX12_fits_113 rfl (.inl rfl) ?_
        exact ⟨_, rfl, kf (by rintro ⟨z1, z2⟩; omega)⟩
      · refine r_lload dX12_fits_98 rfl ?_
        refine r_lneg dX12_fits_100 ?_
        refine r_iload dX12_fits_101 rfl ?_
        refine r_i2l dX12_fits_103 (by omega) ?_
        refine r_lcmp_gt (tgt := 112) dX12_fits_104 dX12_fits_105 rfl (by omega) (by omega) (fun c_104 => ?_) (fun c_104 => ?_)
        · refine r_iconst dX12_fits_112 ?_
          refine r_zret dX12_fits_113 rfl (.inl rfl) ?_
          exact ⟨_, rfl, kf (by rintro ⟨z1, z2⟩; omega)⟩
        · refine r_iconst dX12_fits_108 ?_
          refine r_goto (tgt := 113) dX12_fits_109 rfl ?_
          refine r_zret dX12_fits_113 rfl (.inr rfl) ?_
          exact ⟨_, rfl, kt (by constructor <;> omega)⟩
set_option maxRecDepth 20000 in
set_option maxHeartbeats 400000 in
theorem lp_goesOn {d : Nat} (hd : 1 ≤ d) {P : Int → Hp → Prop} {h : Hp} {c : Nat} {l r : Int} (hc : c ≤ 11) (hl : -6 ≤ l ∧ l ≤ 6) (hr : -6 ≤ r ∧ r ≤ 6) (hB : ∀ j : Nat, j < 169 → 0 ≤ h 73 (169 * c + j) ∧ h 73 (169 * c + j) ≤ 1000000) (k : ∀ g : Hp, (∀ a k, ¬ ((a = 74 ∨ a = 75) ∧ k = c) → g a k = h a k) → (dM (fun f => h 73 (169 * c + f)) l r < 1000000 → g 74 c = fL (aM (fun f => h 73 (169 * c + f)) l r (dM (fun f => h 73 (169 * c + f)) l r)) ∧ g 75 c = fR (aM (fun f => h 73 (169 * c + f)) l r (dM (fun f => h 73 (169 * c + f)) l r))) → P (dM (fun f => h 73 (169 * c + f)) l r) g) : ∀ (nn : Nat) (f : Nat) (b : Int) (g : Hp) (o : Option AV), (f ≤ 169) → (∀ a k, ¬ ((a = 74 ∨ a = 75) ∧ k = c) → g a k = h a k) → (b = mnN 1000000 (fun f => h 73 (169 * c + f) + dN l r f) f) → (b < 1000000 → ∃ j : Nat, j < f ∧ g 74 c = fL j ∧ g 75 c = fR j ∧ dN l r j + h 73 (169 * c + j) = b ∧ ∀ i : Nat, i < j → dN l r i + h 73 (169 * c + i) ≠ b) → (¬ b < 1000000 → g 74 c = h 74 c ∧ g 75 c = h 75 c) → 169 - f < nn → WW mX12_goesOn (d + 1) (pI P) 8 [some (.inr (.inr 49)), some (.inl (c : Int)), some (.inl l), some (.inl r), some (.inl b), some (.inl (f : Int)), o] [] g := by
  intro nn
  induction nn with
  | zero => intro f b g o hf hg hb h1 h0; intros; omega
  | succ nn ih =>
    intro f b g o hf hg hb h1 h0 hmu
    have ec : ((c : Int)).toNat = c := Int.toNat_natCast c
    have mr : mnN 1000000 (fun f => h 73 (169 * c + f) + dN l r f) f ≤ 1000000 := mnN_le0 _ _ _
    have m0 : 0 ≤ mnN 1000000 (fun f => h 73 (169 * c + f) + dN l r f) f := mnN_ge (by decide) (fun i hi => by have := hB i (by omega); have := dN_r (f := i) (by omega) hl hr; show 0 ≤ h 73 (169 * c + i) + dN l r i; omega)
    refine r_iload dX12_goesOn_8 rfl ?_
    refine r_sipush dX12_goesOn_10 (by decide +kernel) ?_
    refine r_icmp_ge (tgt := 122) dX12_goesOn_13 rfl (by omega) ⟨by decide, by decide⟩ (fun c_13 => ?_) (fun c_13 => ?_)
    · refine r_iload dX12_goesOn_122 rfl ?_
      refine r_iret dX12_goesOn_124 rfl ?_
      have e : f = 169 := by omega
      subst e
      refine ⟨_, rfl, ?_⟩
      rw [hb]
      refine k g hg (fun z => ?_)
      obtain ⟨j, j1, j2, j3, j4, j5⟩ := h1 (by rw [hb]; exact z)
      have ea : aM (fun f => h 73 (169 * c + f)) l r (dM (fun f => h 73 (169 * c + f)) l r) = j := fsN_of (by rw [hb] at j4; exact j4) (Nat.zero_le _) (by omega) (fun i _ hi => by rw [hb] at j5; exact j5 i hi)
      rw [ea]
      exact ⟨j2, j3⟩
    · have lr := fLR_r (f := f) (by omega)
      have d0 := dN_r (f := f) (by omega) hl hr
      have hbf := hB f (by omega)
      have ei : (169 * (c : Int) + f).toNat = 169 * c + f := by omega
      have es : g 73 (169 * (c : Int) + f).toNat = h 73 (169 * c + f) := by rw [ei]; exact hg 73 _ (by omega)
      have em : mnN 1000000 (fun f => h 73 (169 * c + f) + dN l r f) (f + 1) = min (mnN 1000000 (fun f => h 73 (169 * c + f) + dN l r f) f) (h 73 (169 * c + f) + dN l r f) := rfl
      refine r_aload_n dX12_goesOn_16 rfl rfl ?_
      refine r_getR dX12_goesOn_17 fl_X12_100 sh_49 rfl ?_
      refine r_sipush dX12_goesOn_20 (by decide +kernel) ?_
      refine r_iload_n dX12_goesOn_23 rfl rfl ?_
      refine r_imul dX12_goesOn_24 ?_
      refine r_iload dX12_goesOn_25 rfl ?_
      refine r_iadd dX12_goesOn_27 ?_
      refine r_iald dX12_goesOn_28 sh_73 (by decide) (by omega) ?_
      refine r_nmI (fun n1 e_n1 => ?_)
      refine r_istore (L' := [_, _, _, _, _, _, _]) dX12_goesOn_29 rfl (by decide) rfl ?_
      refine r_iload dX12_goesOn_31 rfl ?_
      refine r_ldcw (z := 1000000) dX12_goesOn_33 kc_X12_394 (by decide +kernel) ?_
      refine r_icmp_lt (tgt := 42) dX12_goesOn_36 rfl (by omega) ⟨by decide, by decide⟩ (fun c_36 => ?_) (fun c_36 => ?_)
      · refine r_iload dX12_goesOn_42 rfl ?_
        refine r_iload dX12_goesOn_44 rfl ?_
        refine r_bipush dX12_goesOn_46 (by decide +kernel) ?_
        refine r_idiv dX12_goesOn_48 (by omega) ⟨by decide, by decide⟩ (by decide) ?_
        refine r_bipush dX12_goesOn_49 (by decide +kernel) ?_
        refine r_isub dX12_goesOn_51 ?_
        rw [fLe]
        refine r_iload_n dX12_goesOn_52 rfl rfl ?_
        refine r_isub dX12_goesOn_53 ?_
        refine r_callSI (av := [_]) (M' := mX12_sizeOf) dX12_goesOn_54 sX12_sizeOf ml_X12_198 rfl rfl (by simp [wtA]) (sp_X12_sizeOf (by omega) (by omega) ?_)
        refine r_iload dX12_goesOn_57 rfl ?_
        refine r_bipush dX12_goesOn_59 (by decide +kernel) ?_
        refine r_irem dX12_goesOn_61 (by omega) ⟨by decide, by decide⟩ (by decide) ?_
        refine r_bipush dX12_goesOn_62 (by decide +kernel) ?_
        refine r_isub dX12_goesOn_64 ?_
        rw [fRe]
        refine r_iload_n dX12_goesOn_65 rfl rfl ?_
        refine r_isub dX12_goesOn_66 ?_
        refine r_callSI (av := [_]) (M' := mX12_sizeOf) dX12_goesOn_67 sX12_sizeOf ml_X12_198 rfl rfl (by simp [wtA]) (sp_X12_sizeOf (by omega) (by omega) ?_)
        refine r_iadd dX12_goesOn_70 ?_
        refine r_iadd dX12_goesOn_71 ?_
        refine r_nmI (fun n2 e_n2 => ?_)
        refine r_istore (L' := [_, _, _, _, _, _, _]) dX12_goesOn_72 rfl (by decide) rfl ?_
        refine r_iload dX12_goesOn_74 rfl ?_
        refine r_iload dX12_goesOn_76 rfl ?_
        refine r_icmp_lt (tgt := 84) dX12_goesOn_78 rfl (by omega) (by omega) (fun c_78 => ?_) (fun c_78 => ?_)
        · refine r_iload dX12_goesOn_84 rfl ?_
          refine r_istore (L' := [_, _, _, _, _, _, _]) dX12_goesOn_86 rfl (by decide) rfl ?_
          refine r_aload_n dX12_goesOn_88 rfl rfl ?_
          refine r_getR dX12_goesOn_89 fl_X12_103 sh_49 rfl ?_
          refine r_iload_n dX12_goesOn_92 rfl rfl ?_
          refine r_iload dX12_goesOn_93 rfl ?_
          refine r_bipush dX12_goesOn_95 (by decide +kernel) ?_
          refine r_idiv dX12_goesOn_97 (by omega) ⟨by decide, by decide⟩ (by decide) ?_
          refine r_bipush dX12_goesOn_98 (by decide +kernel) ?_
          refine r_isub dX12_goesOn_100 ?_
          rw [fLe]
          refine r_iast dX12_goesOn_101 sh_74 (by decide) (by omega) ?_
          refine r_aload_n dX12_goesOn_102 rfl rfl ?_
          refine r_getR dX12_goesOn_103 fl_X12_106 sh_49 rfl ?_
          refine r_iload_n dX12_goesOn_106 rfl rfl ?_
          refine r_iload dX12_goesOn_107 rfl ?_
          refine r_bipush dX12_goesOn_109 (by decide +kernel) ?_
          refine r_irem dX12_goesOn_111 (by omega) ⟨by decide, by decide⟩ (by decide) ?_
          refine r_bipush dX12_goesOn_112 (by decide +kernel) ?_
          refine r_isub dX12_goesOn_114 ?_
          rw [fRe]
          refine r_iast dX12_goesOn_115 sh_75 (by decide) (by omega) ?_
          refine r_iinc (L' := [_, _, _, _, _, _, _]) dX12_goesOn_116 rfl rfl (by decide) rfl ?_
          refine r_goto (tgt := 8) dX12_goesOn_119 rfl ?_
          have dn : n2 = h 73 (169 * c + f) + dN l r f := by rw [e_n2, e_n1, es]; rfl
          rw [ec]
          refine ih (f + 1) n2 _ _ (by omega) (fun a k z => ?_) (by rw [em]; omega) (fun z => ?_) (fun z => absurd (show n2 < 1000000 by omega) z) (by omega)
          · rw [show upH (upH g 74 c (fL f)) 75 c (fR f) a k = g a k by unfold upH; rw [if_neg (by omega), if_neg (by omega)]]
            exact hg a k z
          · refine ⟨f, by omega, by rw [up_nc (by decide), up_s], up_s _ _ _ _, by omega, fun i hi e => ?_⟩
            have := mnN_le (t := 1000000) (f := fun f => h 73 (169 * c + f) + dN l r f) (n := f) (i := i) hi
            have e2 : mnN 1000000 (fun f => h 73 (169 * c + f) + dN l r f) f ≤ h 73 (169 * c + i) + dN l r i := this
            omega
        · refine r_goto (tgt := 116) dX12_goesOn_81 rfl ?_
          refine r_iinc (L' := [_, _, _, _, _, _, _]) dX12_goesOn_116 rfl rfl (by decide) rfl ?_
          refine r_goto (tgt := 8) dX12_goesOn_119 rfl ?_
          have dn : b ≤ h 73 (169 * c + f) + dN l r f := by
            first
              | (have dn : n2 = h 73 (169 * c + f) + dN l r f := by rw [e_n2, e_n1, es]; rfl
                 omega)
              | omega
          refine ih (f + 1) b g _ (by omega) hg (by rw [em]; omega) (fun z => ?_) h0 (by omega)
          obtain ⟨j, j1, j2⟩ := h1 z
          exact ⟨j, by omega, j2⟩
      · refine r_goto (tgt := 116) dX12_goesOn_39 rfl ?_
        refine r_iinc (L' := [_, _, _, _, _, _, _]) dX12_goesOn_116 rfl rfl (by decide) rfl ?_
        refine r_goto (tgt := 8) dX12_goesOn_119 rfl ?_
        have dn : b ≤ h 73 (169 * c + f) + dN l r f := by
          first
            | (have dn : n2 = h 73 (169 * c + f) + dN l r f := by rw [e_n2, e_n1, es]; rfl
               omega)
            | omega
        refine ih (f + 1) b g _ (by omega) hg (by rw [em]; omega) (fun z => ?_) h0 (by omega)
        obtain ⟨j, j1, j2⟩ := h1 z
        exact ⟨j, by omega, j2⟩
set_option maxRecDepth 20000 in
set_option maxHeartbeats 400000 in
theorem sp_X12_goesOn {d : Nat} (hd : 2 ≤ d) {l r : Int} {h : Hp} {c : Nat} (hc : c ≤ 11) (hl : -6 ≤ l ∧ l ≤ 6) (hr : -6 ≤ r ∧ r ≤ 6) (hB : ∀ j : Nat, j < 169 → 0 ≤ h 73 (169 * c + j) ∧ h 73 (169 * c + j) ≤ 1000000) {P : Int → Hp → Prop} (k : ∀ h' : Hp, (∀ a k, ¬ ((a = 74 ∨ a = 75) ∧ k = c) → h' a k = h a k) → (dM (fun f => h 73 (169 * c + f)) l r < 1000000 → h' 74 c = fL (aM (fun f => h 73 (169 * c + f)) l r (dM (fun f => h 73 (169 * c + f)) l r)) ∧ h' 75 c = fR (aM (fun f => h 73 (169 * c + f)) l r (dM (fun f => h 73 (169 * c + f)) l r))) → P (dM (fun f => h 73 (169 * c + f)) l r) h') : Cl d mX12_goesOn [.inr (.inr 49), .inl (c : Int), .inl l, .inl r] h (pI P) := by
  refine Cl.of (L := [some (.inr (.inr 49)), some (.inl (c : Int)), some (.inl l), some (.inl r), none, none, none]) (by decide +kernel) (Nat.le_of_ble_eq_true rfl) rfl ?_
  obtain ⟨d, rfl⟩ : ∃ q, d = q + 1 := ⟨d - 1, by omega⟩
  refine r_ldcw (z := 1000000) dX12_goesOn_0 kc_X12_394 (by decide +kernel) ?_
  refine r_istore (L' := [_, _, _, _, _, _, _]) dX12_goesOn_3 rfl (by decide) rfl ?_
  refine r_iconst dX12_goesOn_5 ?_
  refine r_istore (L' := [_, _, _, _, _, _, _]) dX12_goesOn_6 rfl (by decide) rfl ?_
  exact lp_goesOn (by omega) hc hl hr hB k 170 0 _ h _ (by omega) (fun _ _ _ => rfl) rfl (fun z => absurd z (by decide)) (fun _ => ⟨rfl, rfl⟩) (by omega)
