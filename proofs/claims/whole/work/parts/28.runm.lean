set_option maxRecDepth 20000 in
set_option maxHeartbeats 400000 in
theorem sp_X12_runPlace {d : Nat} (hd : 5 ≤ d) {v : Int} {h : Hp}  (hw : MOK h) (hxy : MXY (h 49 3) (h 49 4) (h 60) (h 61) 0 (h 49 29)) (hN : 0 ≤ (h 49 29) ∧ (h 49 29) ≤ 150) (hs : ∀ j : Nat, j < 300 → -9 ≤ h 69 j ∧ h 69 j ≤ 9) (hm : 0 ≤ (h 49 63) ∧ (h 49 63) ≤ (h 49 29)) (hdn : 0 ≤ (h 49 64) ∧ ((h 49 63) < (h 49 29) → (h 49 64) < (tkF (mL (h 49 5) (h 49 6) (h 60) (h 61)) (mR (h 49 3) (h 49 5) (h 49 6) (h 60) (h 61)) (h 49 63).toNat))) (hv : v = 2 ∨ v = 3) {P : Int → Hp → Prop} (k : ∀ h' : Hp, (FrM h h') → P (if v = 2 then pX (h 49 5) (h 49 3) (h 49 6) (tsF (mL (h 49 5) (h 49 6) (h 60) (h 61)) (h 69) 0 (h 49 29) (h 49 63) (h 49 64) (tkF (mL (h 49 5) (h 49 6) (h 60) (h 61)) (mR (h 49 3) (h 49 5) (h 49 6) (h 60) (h 61)) (h 49 63).toNat)) (tsF (mR (h 49 3) (h 49 5) (h 49 6) (h 60) (h 61)) (h 69) 1 (h 49 29) (h 49 63) (h 49 64) (tkF (mL (h 49 5) (h 49 6) (h 60) (h 61)) (mR (h 49 3) (h 49 5) (h 49 6) (h 60) (h 61)) (h 49 63).toNat)) else pY (h 49 5) (h 49 3) (h 49 6) (tsF (mL (h 49 5) (h 49 6) (h 60) (h 61)) (h 69) 0 (h 49 29) (h 49 63) (h 49 64) (tkF (mL (h 49 5) (h 49 6) (h 60) (h 61)) (mR (h 49 3) (h 49 5) (h 49 6) (h 60) (h 61)) (h 49 63).toNat)) (tsF (mR (h 49 3) (h 49 5) (h 49 6) (h 60) (h 61)) (h 69) 1 (h 49 29) (h 49 63) (h 49 64) (tkF (mL (h 49 5) (h 49 6) (h 60) (h 61)) (mR (h 49 3) (h 49 5) (h 49 6) (h 60) (h 61)) (h 49 63).toNat))) h') : Cl d mX12_runPlace [.inr (.inr 49), .inl v] h (pI P) := by
  refine Cl.of (L := [some (.inr (.inr 49)), some (.inl v), none, none, none, none]) (by decide +kernel) (Nat.le_of_ble_eq_true rfl) rfl ?_
  obtain ⟨d, rfl⟩ : ∃ q, d = q + 1 := ⟨d - 1, by omega⟩
  have hq := hxy.lr (K := (h 49 5)) (E := (h 49 6)) (by omega) (by omega) (by omega) (by omega)
  have y0 := (tsF_r (c := 0) hq hN hm hdn hs (by decide)).1
  have y1 := (tsF_r (c := 1) hq hN hm hdn hs (by decide)).2
  have xN := hxy (h 49 29).toNat (by omega)
  rw [Nat.zero_add] at xN
  have qN := hq (h 49 29).toNat (by omega)
  have zN0 := msN_r hs (c := 0) (by decide) (h 49 29).toNat (by omega)
  have zN1 := msN_r hs (c := 1) (by decide) (h 49 29).toNat (by omega)
  refine r_aload_n dX12_runPlace_0 rfl rfl ?_
  refine r_getI dX12_runPlace_1 fl_X12_430 sh_49 rfl ?_
  refine r_aload_n dX12_runPlace_4 rfl rfl ?_
  refine r_getI dX12_runPlace_5 fl_X12_164 sh_49 rfl ?_
  refine r_icmp_ne (tgt := 15) dX12_runPlace_8 rfl (by omega) (by omega) (fun c_8 => ?_) (fun c_8 => ?_)
  · refine r_iconst dX12_runPlace_15 ?_
    refine r_istore_n (L' := [_, _, _, _, _, _]) dX12_runPlace_16 rfl rfl (by decide) rfl ?_
    refine r_iload_n dX12_runPlace_17 rfl rfl ?_
    refine r_if_eq (tgt := 30) dX12_runPlace_18 rfl ⟨by decide, by decide⟩ (fun c_18 => ?_) (fun c_18 => absurd c_18 (by decide))
    refine r_aload_n dX12_runPlace_30 rfl rfl ?_
    refine r_getI dX12_runPlace_31 fl_X12_430 sh_49 rfl ?_
    refine r_istore_n (L' := [_, _, _, _, _, _]) dX12_runPlace_34 rfl rfl (by decide) rfl ?_
    refine r_iload_n dX12_runPlace_35 rfl rfl ?_
    refine r_if_eq (tgt := 62) dX12_runPlace_36 rfl ⟨by decide, by decide⟩ (fun c_36 => ?_) (fun c_36 => absurd c_36 (by decide))
    have q0 := hq (h 49 63).toNat (by omega)
    have q1 := hq ((h 49 63).toNat + 1) (by omega)
    have x0 := hxy (h 49 63).toNat (by omega)
    have x1 := hxy ((h 49 63).toNat + 1) (by omega)
    rw [Nat.zero_add] at x0 x1
    have e1 : ((h 49 63) + 1).toNat = (h 49 63).toNat + 1 := by omega
    rw [← e1] at q1 x1
    have d2 := hdn.2 (by omega)
    refine r_aload_n dX12_runPlace_62 rfl rfl ?_
    refine r_aload_n dX12_runPlace_63 rfl rfl ?_
    refine r_iload_n dX12_runPlace_64 rfl rfl ?_
    refine r_callVI (av := [_]) (M' := mX12_leftAt) dX12_runPlace_65 vX12_leftAt ml_X12_344 sh_49 (by decide) rfl rfl rfl rfl (by simp [wtA]) (sp_X12_leftAt (by omega) (by omega) (by omega) (by omega) (by omega) ?_)
    refine r_aload_n dX12_runPlace_68 rfl rfl ?_
    refine r_iload_n dX12_runPlace_69 rfl rfl ?_
    refine r_callVI (av := [_]) (M' := mX12_rightAt) dX12_runPlace_70 vX12_rightAt ml_X12_347 sh_49 (by decide) rfl rfl rfl rfl (by simp [wtA]) (sp_X12_rightAt (by omega) (by omega) (by omega) (by omega) (by omega) ?_)
    refine r_aload_n dX12_runPlace_73 rfl rfl ?_
    refine r_iload_n dX12_runPlace_74 rfl rfl ?_
    refine r_iconst dX12_runPlace_75 ?_
    refine r_iadd dX12_runPlace_76 ?_
    refine r_callVI (av := [_]) (M' := mX12_leftAt) dX12_runPlace_77 vX12_leftAt ml_X12_344 sh_49 (by decide) rfl rfl rfl rfl (by simp [wtA]) (sp_X12_leftAt (by omega) (by omega) (by omega) (by omega) (by omega) ?_)
    refine r_aload_n dX12_runPlace_80 rfl rfl ?_
    refine r_iload_n dX12_runPlace_81 rfl rfl ?_
    refine r_iconst dX12_runPlace_82 ?_
    refine r_iadd dX12_runPlace_83 ?_
    refine r_callVI (av := [_]) (M' := mX12_rightAt) dX12_runPlace_84 vX12_rightAt ml_X12_347 sh_49 (by decide) rfl rfl rfl rfl (by simp [wtA]) (sp_X12_rightAt (by omega) (by omega) (by omega) (by omega) (by omega) ?_)
    refine r_callVU (av := [_, _, _, _]) (M' := mX12_layWay) dX12_runPlace_87 vX12_layWay ml_X12_380 sh_49 (by decide) rfl rfl rfl rfl (by simp [wtA]) (sp_X12_layWay (by omega) (by omega) (by omega) (by omega) (by omega) ?_)
    refine r_gh (fun w ew => ?_)
    have fw : FrM h w := by rw [ew]; exact ((((FrM.rf.up rfl).up rfl).up rfl).up rfl).up rfl
    have a3 : w 49 3 = h 49 3 := by rw [ew]; rfl
    have a4 : w 49 4 = h 49 4 := by rw [ew]; rfl
    have a5 : w 49 5 = h 49 5 := by rw [ew]; rfl
    have a6 : w 49 6 = h 49 6 := by rw [ew]; rfl
    have a7 : w 49 7 = h 49 7 := by rw [ew]; rfl
    have a8 : w 49 8 = h 49 8 := by rw [ew]; rfl
    have a29 : w 49 29 = h 49 29 := by rw [ew]; rfl
    have a63 : w 49 63 = h 49 63 := by rw [ew]; rfl
    have a64 : w 49 64 = h 49 64 := by rw [ew]; rfl
    have b42 : w 49 42 = mL (h 49 5) (h 49 6) (h 60) (h 61) (h 49 63).toNat := by rw [ew]; rfl
    have b43 : w 49 43 = mR (h 49 3) (h 49 5) (h 49 6) (h 60) (h 61) (h 49 63).toNat := by rw [ew]; rfl
    have b44 : w 49 44 = mL (h 49 5) (h 49 6) (h 60) (h 61) ((h 49 63) + 1).toNat - mL (h 49 5) (h 49 6) (h 60) (h 61) (h 49 63).toNat := by rw [ew]; rfl
    have b45 : w 49 45 = mR (h 49 3) (h 49 5) (h 49 6) (h 60) (h 61) ((h 49 63) + 1).toNat - mR (h 49 3) (h 49 5) (h 49 6) (h 60) (h 61) (h 49 63).toNat := by rw [ew]; rfl
    have b46 : w 49 46 = (tkF (mL (h 49 5) (h 49 6) (h 60) (h 61)) (mR (h 49 3) (h 49 5) (h 49 6) (h 60) (h 61)) (h 49 63).toNat) := by rw [ew, e1]; rfl
    have w69 : w 69 = h 69 := funext fun j => fw 69 j rfl
    have t0 := tkF_r hq (m := (h 49 63).toNat) (by omega)
    have mw : MOK w := by omega
    have hs2 : ∀ j : Nat, j < 300 → -9 ≤ w 69 j ∧ w 69 j ≤ 9 := by rw [w69]; exact hs
    have zm0 := msN_r hs (c := 0) (by decide) ((h 49 63).toNat + 1) (by omega)
    have zm1 := msN_r hs (c := 1) (by decide) ((h 49 63).toNat + 1) (by omega)
    refine r_aload_n dX12_runPlace_90 rfl rfl ?_
    refine r_aload_n dX12_runPlace_91 rfl rfl ?_
    refine r_getI dX12_runPlace_92 fl_X12_433 sh_49 rfl ?_
    refine r_callVI (av := [_]) (M' := mX12_wayLeft) dX12_runPlace_95 vX12_wayLeft ml_X12_374 sh_49 (by decide) rfl rfl rfl rfl (by simp [wtA]) (sp_X12_wayLeft (by omega) (by omega) (by omega) (by omega) (by omega) ?_)
    refine r_istore (L' := [_, _, _, _, _, _]) dX12_runPlace_98 rfl (by decide) rfl ?_
    refine r_aload_n dX12_runPlace_100 rfl rfl ?_
    refine r_aload_n dX12_runPlace_101 rfl rfl ?_
    refine r_getI dX12_runPlace_102 fl_X12_433 sh_49 rfl ?_
    refine r_callVI (av := [_]) (M' := mX12_wayRight) dX12_runPlace_105 vX12_wayRight ml_X12_377 sh_49 (by decide) rfl rfl rfl rfl (by simp [wtA]) (sp_X12_wayRight (by omega) (by omega) (by omega) (by omega) (by omega) ?_)
    refine r_istore (L' := [_, _, _, _, _, _]) dX12_runPlace_108 rfl (by decide) rfl ?_
    refine r_iload dX12_runPlace_110 rfl ?_
    refine r_aload_n dX12_runPlace_112 rfl rfl ?_
    refine r_iload_n dX12_runPlace_113 rfl rfl ?_
    refine r_iconst dX12_runPlace_114 ?_
    refine r_callVI (av := [_, _]) (M' := mX12_moreBy) dX12_runPlace_115 vX12_moreBy ml_X12_391 sh_49 (by decide) rfl rfl rfl rfl (by simp [wtA]) (sp_X12_moreBy (by omega) (by omega) (Or.inl rfl) (by first | exact hs | exact hs2) ?_)
    refine r_iadd dX12_runPlace_118 ?_
    refine r_nmI (fun l e_l => ?_)
    refine r_istore (L' := [_, _, _, _, _, _]) dX12_runPlace_119 rfl (by decide) rfl ?_
    refine r_iload dX12_runPlace_121 rfl ?_
    refine r_aload_n dX12_runPlace_123 rfl rfl ?_
    refine r_iload_n dX12_runPlace_124 rfl rfl ?_
    refine r_iconst dX12_runPlace_125 ?_
    refine r_callVI (av := [_, _]) (M' := mX12_moreBy) dX12_runPlace_126 vX12_moreBy ml_X12_391 sh_49 (by decide) rfl rfl rfl rfl (by simp [wtA]) (sp_X12_moreBy (by omega) (by omega) (Or.inr rfl) (by first | exact hs | exact hs2) ?_)
    refine r_iadd dX12_runPlace_129 ?_
    refine r_nmI (fun r e_r => ?_)
    refine r_istore (L' := [_, _, _, _, _, _]) dX12_runPlace_130 rfl (by decide) rfl ?_
    have y_l : l = (tsF (mL (h 49 5) (h 49 6) (h 60) (h 61)) (h 69) 0 (h 49 29) (h 49 63) (h 49 64) (tkF (mL (h 49 5) (h 49 6) (h 60) (h 61)) (mR (h 49 3) (h 49 5) (h 49 6) (h 60) (h 61)) (h 49 63).toNat)) := by
      rw [e_l]
      unfold tsF
      first
        | (rw [if_pos (by omega), b42, b44, b46, w69, a64, e1, show ∀ a b : Int, a + (b - a) = b from fun a b => by omega]
           rfl)
        | (rw [if_neg (by omega), show ((h 49 29) - 1 + 1).toNat = (h 49 29).toNat by omega]
           rfl)
    have y_r : r = (tsF (mR (h 49 3) (h 49 5) (h 49 6) (h 60) (h 61)) (h 69) 1 (h 49 29) (h 49 63) (h 49 64) (tkF (mL (h 49 5) (h 49 6) (h 60) (h 61)) (mR (h 49 3) (h 49 5) (h 49 6) (h 60) (h 61)) (h 49 63).toNat)) := by
      rw [e_r]
      unfold tsF
      first
        | (rw [if_pos (by omega), b43, b45, b46, w69, a64, e1, show ∀ a b : Int, a + (b - a) = b from fun a b => by omega]
           rfl)
        | (rw [if_neg (by omega), show ((h 49 29) - 1 + 1).toNat = (h 49 29).toNat by omega]
           rfl)
    refine r_iload_n dX12_runPlace_132 rfl rfl ?_
    refine r_iconst dX12_runPlace_133 ?_
    refine r_icmp_ne (tgt := 148) dX12_runPlace_134 rfl (by omega) ⟨by decide, by decide⟩ (fun c_134 => ?_) (fun c_134 => ?_)
    · refine r_aload_n dX12_runPlace_148 rfl rfl ?_
      refine r_iload dX12_runPlace_149 rfl ?_
      refine r_iload dX12_runPlace_151 rfl ?_
      refine r_callVI (av := [_, _]) (M' := mX12_placeY) dX12_runPlace_153 vX12_placeY ml_X12_195 sh_49 (by decide) rfl rfl rfl rfl (by simp [wtA]) (sp_X12_placeY (by omega) (by omega) (by omega) (by omega) ?_)
      refine r_iret dX12_runPlace_156 rfl ?_
      first
        | (refine ⟨_, rfl, eqP (k w fw) ?_⟩
           first
             | rw [if_pos (by omega), ← y_l, ← y_r, a3, a5, a6]
             | rw [if_neg (by omega), ← y_l, ← y_r, a3, a5, a6])
        | (refine ⟨_, rfl, eqP (k h FrM.rf) ?_⟩
           first
             | rw [if_pos (by omega), ← y_l, ← y_r]
             | rw [if_neg (by omega), ← y_l, ← y_r])
    · refine r_aload_n dX12_runPlace_137 rfl rfl ?_
      refine r_iload dX12_runPlace_138 rfl ?_
      refine r_iload dX12_runPlace_140 rfl ?_
      refine r_callVI (av := [_, _]) (M' := mX12_placeX) dX12_runPlace_142 vX12_placeX ml_X12_156 sh_49 (by decide) rfl rfl rfl rfl (by simp [wtA]) (sp_X12_placeX (by omega) (by omega) (by omega) (by omega) ?_)
      refine r_goto (tgt := 156) dX12_runPlace_145 rfl ?_
      refine r_iret dX12_runPlace_156 rfl ?_
      first
        | (refine ⟨_, rfl, eqP (k w fw) ?_⟩
           first
             | rw [if_pos (by omega), ← y_l, ← y_r, a3, a5, a6]
             | rw [if_neg (by omega), ← y_l, ← y_r, a3, a5, a6])
        | (refine ⟨_, rfl, eqP (k h FrM.rf) ?_⟩
           first
             | rw [if_pos (by omega), ← y_l, ← y_r]
             | rw [if_neg (by omega), ← y_l, ← y_r])
  · refine r_iconst dX12_runPlace_11 ?_
    refine r_goto (tgt := 16) dX12_runPlace_12 rfl ?_
    refine r_istore_n (L' := [_, _, _, _, _, _]) dX12_runPlace_16 rfl rfl (by decide) rfl ?_
    refine r_iload_n dX12_runPlace_17 rfl rfl ?_
    refine r_if_eq (tgt := 30) dX12_runPlace_18 rfl ⟨by decide, by decide⟩ (fun c_18 => absurd c_18 (by decide)) (fun c_18 => ?_)
    refine r_aload_n dX12_runPlace_21 rfl rfl ?_
    refine r_getI dX12_runPlace_22 fl_X12_164 sh_49 rfl ?_
    refine r_iconst dX12_runPlace_25 ?_
    refine r_isub dX12_runPlace_26 ?_
    refine r_goto (tgt := 34) dX12_runPlace_27 rfl ?_
    refine r_istore_n (L' := [_, _, _, _, _, _]) dX12_runPlace_34 rfl rfl (by decide) rfl ?_
    refine r_iload_n dX12_runPlace_35 rfl rfl ?_
    refine r_if_eq (tgt := 62) dX12_runPlace_36 rfl ⟨by decide, by decide⟩ (fun c_36 => absurd c_36 (by decide)) (fun c_36 => ?_)
    refine r_aload_n dX12_runPlace_39 rfl rfl ?_
    refine r_aload_n dX12_runPlace_40 rfl rfl ?_
    refine r_getI dX12_runPlace_41 fl_X12_164 sh_49 rfl ?_
    refine r_callVI (av := [_]) (M' := mX12_leftAt) dX12_runPlace_44 vX12_leftAt ml_X12_344 sh_49 (by decide) rfl rfl rfl rfl (by simp [wtA]) (sp_X12_leftAt (by omega) (by omega) (by omega) (by omega) (by omega) ?_)
    refine r_istore (L' := [_, _, _, _, _, _]) dX12_runPlace_47 rfl (by decide) rfl ?_
    refine r_aload_n dX12_runPlace_49 rfl rfl ?_
    refine r_aload_n dX12_runPlace_50 rfl rfl ?_
    refine r_getI dX12_runPlace_51 fl_X12_164 sh_49 rfl ?_
    refine r_callVI (av := [_]) (M' := mX12_rightAt) dX12_runPlace_54 vX12_rightAt ml_X12_347 sh_49 (by decide) rfl rfl rfl rfl (by simp [wtA]) (sp_X12_rightAt (by omega) (by omega) (by omega) (by omega) (by omega) ?_)
    refine r_istore (L' := [_, _, _, _, _, _]) dX12_runPlace_57 rfl (by decide) rfl ?_
    refine r_goto (tgt := 110) dX12_runPlace_59 rfl ?_
    refine r_iload dX12_runPlace_110 rfl ?_
    refine r_aload_n dX12_runPlace_112 rfl rfl ?_
    refine r_iload_n dX12_runPlace_113 rfl rfl ?_
    refine r_iconst dX12_runPlace_114 ?_
    refine r_callVI (av := [_, _]) (M' := mX12_moreBy) dX12_runPlace_115 vX12_moreBy ml_X12_391 sh_49 (by decide) rfl rfl rfl rfl (by simp [wtA]) (sp_X12_moreBy (by omega) (by omega) (Or.inl rfl) (by first | exact hs | exact hs2) ?_)
    refine r_iadd dX12_runPlace_118 ?_
    refine r_nmI (fun l e_l => ?_)
    refine r_istore (L' := [_, _, _, _, _, _]) dX12_runPlace_119 rfl (by decide) rfl ?_
    refine r_iload dX12_runPlace_121 rfl ?_
    refine r_aload_n dX12_runPlace_123 rfl rfl ?_
    refine r_iload_n dX12_runPlace_124 rfl rfl ?_
    refine r_iconst dX12_runPlace_125 ?_
    refine r_callVI (av := [_, _]) (M' := mX12_moreBy) dX12_runPlace_126 vX12_moreBy ml_X12_391 sh_49 (by decide) rfl rfl rfl rfl (by simp [wtA]) (sp_X12_moreBy (by omega) (by omega) (Or.inr rfl) (by first | exact hs | exact hs2) ?_)
    refine r_iadd dX12_runPlace_129 ?_
    refine r_nmI (fun r e_r => ?_)
    refine r_istore (L' := [_, _, _, _, _, _]) dX12_runPlace_130 rfl (by decide) rfl ?_
    have y_l : l = (tsF (mL (h 49 5) (h 49 6) (h 60) (h 61)) (h 69) 0 (h 49 29) (h 49 63) (h 49 64) (tkF (mL (h 49 5) (h 49 6) (h 60) (h 61)) (mR (h 49 3) (h 49 5) (h 49 6) (h 60) (h 61)) (h 49 63).toNat)) := by
      rw [e_l]
      unfold tsF
      first
        | (rw [if_pos (by omega), b42, b44, b46, w69, a64, e1, show ∀ a b : Int, a + (b - a) = b from fun a b => by omega]
           rfl)
        | (rw [if_neg (by omega), show ((h 49 29) - 1 + 1).toNat = (h 49 29).toNat by omega]
           rfl)
    have y_r : r = (tsF (mR (h 49 3) (h 49 5) (h 49 6) (h 60) (h 61)) (h 69) 1 (h 49 29) (h 49 63) (h 49 64) (tkF (mL (h 49 5) (h 49 6) (h 60) (h 61)) (mR (h 49 3) (h 49 5) (h 49 6) (h 60) (h 61)) (h 49 63).toNat)) := by
      rw [e_r]
      unfold tsF
      first
        | (rw [if_pos (by omega), b43, b45, b46, w69, a64, e1, show ∀ a b : Int, a + (b - a) = b from fun a b => by omega]
           rfl)
        | (rw [if_neg (by omega), show ((h 49 29) - 1 + 1).toNat = (h 49 29).toNat by omega]
           rfl)
    refine r_iload_n dX12_runPlace_132 rfl rfl ?_
    refine r_iconst dX12_runPlace_133 ?_
    refine r_icmp_ne (tgt := 148) dX12_runPlace_134 rfl (by omega) ⟨by decide, by decide⟩ (fun c_134 => ?_) (fun c_134 => ?_)
    · refine r_aload_n dX12_runPlace_148 rfl rfl ?_
      refine r_iload dX12_runPlace_149 rfl ?_
      refine r_iload dX12_runPlace_151 rfl ?_
      refine r_callVI (av := [_, _]) (M' := mX12_placeY) dX12_runPlace_153 vX12_placeY ml_X12_195 sh_49 (by decide) rfl rfl rfl rfl (by simp [wtA]) (sp_X12_placeY (by omega) (by omega) (by omega) (by omega) ?_)
      refine r_iret dX12_runPlace_156 rfl ?_
      first
        | (refine ⟨_, rfl, eqP (k w fw) ?_⟩
           first
             | rw [if_pos (by omega), ← y_l, ← y_r, a3, a5, a6]
             | rw [if_neg (by omega), ← y_l, ← y_r, a3, a5, a6])
        | (refine ⟨_, rfl, eqP (k h FrM.rf) ?_⟩
           first
             | rw [if_pos (by omega), ← y_l, ← y_r]
             | rw [if_neg (by omega), ← y_l, ← y_r])
    · refine r_aload_n dX12_runPlace_137 rfl rfl ?_
      refine r_iload dX12_runPlace_138 rfl ?_
      refine r_iload dX12_runPlace_140 rfl ?_
      refine r_callVI (av := [_, _]) (M' := mX12_placeX) dX12_runPlace_142 vX12_placeX ml_X12_156 sh_49 (by decide) rfl rfl rfl rfl (by simp [wtA]) (sp_X12_placeX (by omega) (by omega) (by omega) (by omega) ?_)
      refine r_goto (tgt := 156) dX12_runPlace_145 rfl ?_
      refine r_iret dX12_runPlace_156 rfl ?_
      first
        | (refine ⟨_, rfl, eqP (k w fw) ?_⟩
           first
             | rw [if_pos (by omega), ← y_l, ← y_r, a3, a5, a6]
             | rw [if_neg (by omega), ← y_l, ← y_r, a3, a5, a6])
        | (refine ⟨_, rfl, eqP (k h FrM.rf) ?_⟩
           first
             | rw [if_pos (by omega), ← y_l, ← y_r]
             | rw [if_neg (by omega), ← y_l, ← y_r])
set_option maxRecDepth 20000 in
theorem WW_run_rest {d : Nat} (hd : 6 ≤ d + 1) {v : Int} {h : Hp} {P : Int → Hp → Prop} (hw : MOK h) (hv : R32 v) (hg : (h 49 62) = 0 ∨ (h 49 62) = 1) (hxy : MXY (h 49 3) (h 49 4) (h 60) (h 61) 0 (h 49 29)) (hN : 0 ≤ (h 49 29) ∧ (h 49 29) ≤ 150) (hs : ∀ j : Nat, j < 300 → -9 ≤ h 69 j ∧ h 69 j ≤ 9) (hm : (h 49 62) = 1 → 0 ≤ (h 49 63) ∧ (h 49 63) ≤ (h 49 29)) (hdn : (h 49 62) = 1 → 0 ≤ (h 49 64) ∧ ((h 49 63) < (h 49 29) → (h 49 64) < (tkF (mL (h 49 5) (h 49 6) (h 60) (h 61)) (mR (h 49 3) (h 49 5) (h 49 6) (h 60) (h 61)) (h 49 63).toNat))) (k : ∀ g : Hp, FrM h g → P (fnRun (h 49 3) (h 49 5) (h 49 6) (h 49 29) (h 49 63) (h 49 64) (h 49 62) v (mL (h 49 5) (h 49 6) (h 60) (h 61)) (mR (h 49 3) (h 49 5) (h 49 6) (h 60) (h 61)) (h 69)) g) : WW mX12_run (d + 1) (pI P) 5 [some (.inr (.inr 49)), some (.inl v)] [] h := by
  refine r_aload_n dX12_run_5 rfl rfl ?_
  refine r_getI dX12_run_6 fl_X12_180 sh_49 rfl ?_
  refine r_if_eq (tgt := 21) dX12_run_9 rfl (by omega) (fun c_9 => ?_) (fun c_9 => ?_)
  · refine r_ldc (z := -2147483648) dX12_run_21 kc_X12_194 (by decide +kernel) ?_
    refine r_iret dX12_run_23 rfl ?_
    refine ⟨_, rfl, eqP (k h FrM.rf) ?_⟩
    unfold fnRun
    (repeat' split) <;> first | rfl | omega
  · refine r_iload_n dX12_run_12 rfl rfl ?_
    refine r_iconst dX12_run_13 ?_
    refine r_iconst dX12_run_14 ?_
    refine r_callSI (av := [_, _, _]) (M' := mX12_isIn) dX12_run_15 sX12_isIn ml_X12_160 rfl rfl (by simp [wtA]) (sp_X12_isIn (by omega) (by omega) (by omega) (by omega) (fun b_15 => ?_) (fun b_15 => ?_))
    · refine r_if_ne (tgt := 24) dX12_run_18 rfl ⟨by decide, by decide⟩ (fun c_18 => ?_) (fun c_18 => absurd c_18 (by decide))
      refine r_iload_n dX12_run_24 rfl rfl ?_
      by_cases c0 : v = 0
      · refine r_tsIn (off := 35) (tgt := 60) dX12_run_25 c0 ⟨by decide, by decide⟩ (by decide) (by decide) (by decide +kernel) rfl ?_
        refine r_aload_n dX12_run_60 rfl rfl ?_
        refine r_getI dX12_run_61 fl_X12_430 sh_49 rfl ?_
        refine r_iret dX12_run_64 rfl ?_
        refine ⟨_, rfl, eqP (k h FrM.rf) ?_⟩
        unfold fnRun
        (repeat' split) <;> first | rfl | omega
      by_cases c1 : v = 1
      · refine r_tsIn (off := 40) (tgt := 65) dX12_run_25 c1 ⟨by decide, by decide⟩ (by decide) (by decide) (by decide +kernel) rfl ?_
        refine r_aload_n dX12_run_65 rfl rfl ?_
        refine r_getI dX12_run_66 fl_X12_433 sh_49 rfl ?_
        refine r_iret dX12_run_69 rfl ?_
        refine ⟨_, rfl, eqP (k h FrM.rf) ?_⟩
        unfold fnRun
        (repeat' split) <;> first | rfl | omega
      by_cases c4 : v = 4
      · refine r_tsIn (off := 45) (tgt := 70) dX12_run_25 c4 ⟨by decide, by decide⟩ (by decide) (by decide) (by decide +kernel) rfl ?_
        refine r_aload_n dX12_run_70 rfl rfl ?_
        refine r_getI dX12_run_71 fl_X12_430 sh_49 rfl ?_
        refine r_aload_n dX12_run_74 rfl rfl ?_
        refine r_getI dX12_run_75 fl_X12_164 sh_49 rfl ?_
        refine r_icmp_ne (tgt := 85) dX12_run_78 rfl (by omega) (by omega) (fun c_78 => ?_) (fun c_78 => ?_)
        · refine r_iconst dX12_run_85 ?_
          refine r_iret dX12_run_86 rfl ?_
          refine ⟨_, rfl, eqP (k h FrM.rf) ?_⟩
          unfold fnRun
          (repeat' split) <;> first | rfl | omega
        · refine r_iconst dX12_run_81 ?_
          refine r_goto (tgt := 86) dX12_run_82 rfl ?_
          refine r_iret dX12_run_86 rfl ?_
          refine ⟨_, rfl, eqP (k h FrM.rf) ?_⟩
          unfold fnRun
          (repeat' split) <;> first | rfl | omega
      by_cases c2 : v = 2
      · refine r_tsIn (off := 62) (tgt := 87) dX12_run_25 c2 ⟨by decide, by decide⟩ (by decide) (by decide) (by decide +kernel) rfl ?_
        refine r_aload_n dX12_run_87 rfl rfl ?_
        refine r_iload_n dX12_run_88 rfl rfl ?_
        refine r_callVI (av := [_]) (M' := mX12_runPlace) dX12_run_89 vX12_runPlace ml_X12_443 sh_49 (by decide) rfl rfl rfl rfl (by simp [wtA]) (sp_X12_runPlace (by omega) hw hxy hN hs (hm (by omega)) (hdn (by omega)) (by omega) (fun h_89 f0_89 => ?_))
        refine r_iret dX12_run_92 rfl ?_
        refine ⟨_, rfl, eqP (k _ f0_89) ?_⟩
        unfold fnRun
        rw [if_pos (by omega)]
        (repeat' split) <;> first | rfl | omega
      · refine r_tsIn (v := 3) (off := 62) (tgt := 87) dX12_run_25 (by omega) ⟨by decide, by decide⟩ (by decide) (by decide) (by decide +kernel) rfl ?_
        refine r_aload_n dX12_run_87 rfl rfl ?_
        refine r_iload_n dX12_run_88 rfl rfl ?_
        refine r_callVI (av := [_]) (M' := mX12_runPlace) dX12_run_89 vX12_runPlace ml_X12_443 sh_49 (by decide) rfl rfl rfl rfl (by simp [wtA]) (sp_X12_runPlace (by omega) hw hxy hN hs (hm (by omega)) (hdn (by omega)) (by omega) (fun h_89 f0_89 => ?_))
        refine r_iret dX12_run_92 rfl ?_
        refine ⟨_, rfl, eqP (k _ f0_89) ?_⟩
        unfold fnRun
        rw [if_pos (by omega)]
        (repeat' split) <;> first | rfl | omega
    · refine r_if_ne (tgt := 24) dX12_run_18 rfl ⟨by decide, by decide⟩ (fun c_18 => absurd c_18 (by decide)) (fun c_18 => ?_)
      refine r_ldc (z := -2147483648) dX12_run_21 kc_X12_194 (by decide +kernel) ?_
      refine r_iret dX12_run_23 rfl ?_
      refine ⟨_, rfl, eqP (k h FrM.rf) ?_⟩
      unfold fnRun
      (repeat' split) <;> first | rfl | omega
set_option maxRecDepth 20000 in
set_option maxHeartbeats 400000 in
theorem sp_X12_run {d : Nat} (hd : 6 ≤ d) {v : Int} {h : Hp}  (hw : MOK h) (hv : R32 v) (hg : (h 49 62) = 0 ∨ (h 49 62) = 1) (hxy : MXY (h 49 3) (h 49 4) (h 60) (h 61) 0 (h 49 29)) (hN : 0 ≤ (h 49 29) ∧ (h 49 29) ≤ 150) (hs : ∀ j : Nat, j < 300 → -9 ≤ h 69 j ∧ h 69 j ≤ 9) (hm : (h 49 62) = 1 → 0 ≤ (h 49 63) ∧ (h 49 63) ≤ (h 49 29)) (hdn : (h 49 62) = 1 → 0 ≤ (h 49 64) ∧ ((h 49 63) < (h 49 29) → (h 49 64) < (tkF (mL (h 49 5) (h 49 6) (h 60) (h 61)) (mR (h 49 3) (h 49 5) (h 49 6) (h 60) (h 61)) (h 49 63).toNat))) {P : Int → Hp → Prop} (k : ∀ g : Hp, FrM h g → P (fnRun (h 49 3) (h 49 5) (h 49 6) (h 49 29) (h 49 63) (h 49 64) (h 49 62) v (mL (h 49 5) (h 49 6) (h 60) (h 61)) (mR (h 49 3) (h 49 5) (h 49 6) (h 60) (h 61)) (h 69)) g) : Cl d mX12_run [.inr (.inr 49), .inl v] h (pI P) := by
  refine Cl.of (L := [some (.inr (.inr 49)), some (.inl v)]) (by decide +kernel) (Nat.le_of_ble_eq_true rfl) rfl ?_
  obtain ⟨d, rfl⟩ : ∃ q, d = q + 1 := ⟨d - 1, by omega⟩
  refine r_aload_n dX12_run_0 rfl rfl ?_
  refine r_iconst dX12_run_1 ?_
  refine r_putI dX12_run_2 fl_X12_127 sh_49 rfl ?_
  refine r_gh (fun g eg => ?_)
  have f : FrM h g := by rw [eg]; exact FrM.rf.up rfl
  have e3 : g 49 3 = h 49 3 := f 49 3 rfl
  have e4 : g 49 4 = h 49 4 := f 49 4 rfl
  have e5 : g 49 5 = h 49 5 := f 49 5 rfl
  have e6 : g 49 6 = h 49 6 := f 49 6 rfl
  have e7 : g 49 7 = h 49 7 := f 49 7 rfl
  have e8 : g 49 8 = h 49 8 := f 49 8 rfl
  have e29 : g 49 29 = h 49 29 := f 49 29 rfl
  have e62 : g 49 62 = h 49 62 := f 49 62 rfl
  have e63 : g 49 63 = h 49 63 := f 49 63 rfl
  have e64 : g 49 64 = h 49 64 := f 49 64 rfl
  have ea60 : g 60 = h 60 := funext fun j => f 60 j rfl
  have ea61 : g 61 = h 61 := funext fun j => f 61 j rfl
  have ea69 : g 69 = h 69 := funext fun j => f 69 j rfl
  have w : MOK g := by omega
  have k0 := k
  have k : ∀ g2 : Hp, FrM g g2 → P (fnRun (g 49 3) (g 49 5) (g 49 6) (g 49 29) (g 49 63) (g 49 64) (g 49 62) v (mL (g 49 5) (g 49 6) (g 60) (g 61)) (mR (g 49 3) (g 49 5) (g 49 6) (g 60) (g 61)) (g 69)) g2 := fun g2 f2 => by
    rw [e3, e5, e6, e29, e63, e64, e62, ea60, ea61, ea69]
    exact k g2 (f.tr f2)
  rw [← e62] at hg
  rw [← e3, ← e4, ← e29, ← ea60, ← ea61] at hxy
  rw [← e29] at hN
  rw [← ea69] at hs
  rw [← e62, ← e63, ← e29] at hm
  rw [← e62, ← e63, ← e64, ← e29, ← e3, ← e5, ← e6, ← ea60, ← ea61] at hdn
  clear k0 e3 e4 e5 e6 e7 e8 e29 e62 e63 e64 ea60 ea61 ea69 eg
  refine WW_run_rest hd w hv hg hxy hN hs hm hdn k
