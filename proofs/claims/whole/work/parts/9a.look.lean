/-! LOOK: the answers -/
noncomputable def lkC (h : Hp) (m : Nat) (w : Int) : Int := if w = 0 then h 17 (m + 1) else if w = 1 then h 18 (m + 1) else if w = 2 then (if h 19 (m + 1) = 0 then 0 else 1) else if w = 3 then tkF (h 20) (h 21) m else if w = 4 then h 20 (m + 1) else h 21 (m + 1)
noncomputable def lkM (h : Hp) (m : Nat) (w : Int) : Int := if w = 0 then h 60 (m + 1) else if w = 1 then h 61 (m + 1) else if w = 2 then (if h 62 (m + 1) = 0 then 0 else 1) else if w = 3 then tkF (mL (h 49 5) (h 49 6) (h 60) (h 61)) (mR (h 49 3) (h 49 5) (h 49 6) (h 60) (h 61)) m else if w = 4 then mL (h 49 5) (h 49 6) (h 60) (h 61) (m + 1) else mR (h 49 3) (h 49 5) (h 49 6) (h 60) (h 61) (m + 1)
set_option maxRecDepth 20000 in
set_option maxHeartbeats 400000 in
theorem sp_X11_look {d : Nat} (hd : 4 ≤ d) {m w : Int} {h : Hp}  (hm32 : R32 m) (hm : 0 ≤ m ∧ m < h 16 0) (hn : 0 ≤ h 16 0 ∧ h 16 0 ≤ 150) (hw : 0 ≤ w ∧ w ≤ 5) (hlr : LR (h 20) (h 21) (h 16 0)) (hdn : h 19 (m + 1).toNat = 0 ∨ h 19 (m + 1).toNat = 1) {P : Int → Hp → Prop} (k : P (lkC h m.toNat w) (h)) : Cl d mX11_look [.inr (.inr 0), .inl m, .inl w] h (pI P) := by
  refine Cl.of (L := [some (.inr (.inr 0)), some (.inl m), some (.inl w)]) (by decide +kernel) (Nat.le_of_ble_eq_true rfl) rfl ?_
  obtain ⟨d, rfl⟩ : ∃ q, d = q + 1 := ⟨d - 1, by omega⟩
  refine r_aload_n dX11_look_0 rfl rfl ?_
  refine r_getR dX11_look_1 fl_X11_44 sh_0 rfl ?_
  refine r_iload_n dX11_look_4 rfl rfl ?_
  refine r_callVI (av := [_]) (M' := mX2_has) dX11_look_5 vX2_has ml_X11_164 sh_16 (by decide) rfl rfl rfl rfl (by simp [wtA]) (sp_X2_has_16 (by omega) hm32 ⟨hn.1, hn.2⟩ (fun _ => ?_) (fun q => absurd hm q))
  · refine r_if_ne (tgt := 21) dX11_look_8 rfl ⟨by decide, by decide⟩ (fun c_8 => ?_) (fun c_8 => absurd c_8 (by decide))
    refine r_iload_n dX11_look_21 rfl rfl ?_
    by_cases c_22_0 : w = 0
    · refine r_tsIn (off := 38) (tgt := 60) dX11_look_22 c_22_0 ⟨by decide, by decide⟩ (by decide) (by decide) (by decide +kernel) rfl ?_
      refine r_aload_n dX11_look_60 rfl rfl ?_
      refine r_getR dX11_look_61 fl_X11_44 sh_0 rfl ?_
      refine r_getR dX11_look_64 fl_X11_174 sh_16 rfl ?_
      refine r_iload_n dX11_look_67 rfl rfl ?_
      refine r_iconst dX11_look_68 ?_
      refine r_iadd dX11_look_69 ?_
      refine r_iald dX11_look_70 sh_17 (by decide) (by omega) ?_
      refine r_iret dX11_look_71 rfl ?_
      rw [show (m + 1).toNat = m.toNat + 1 by omega]
      have ek := k
      rw [c_22_0] at ek
      exact ⟨_, rfl, ek⟩
    by_cases c_22_1 : w = 1
    · refine r_tsIn (off := 50) (tgt := 72) dX11_look_22 c_22_1 ⟨by decide, by decide⟩ (by decide) (by decide) (by decide +kernel) rfl ?_
      refine r_aload_n dX11_look_72 rfl rfl ?_
      refine r_getR dX11_look_73 fl_X11_44 sh_0 rfl ?_
      refine r_getR dX11_look_76 fl_X11_178 sh_16 rfl ?_
      refine r_iload_n dX11_look_79 rfl rfl ?_
      refine r_iconst dX11_look_80 ?_
      refine r_iadd dX11_look_81 ?_
      refine r_iald dX11_look_82 sh_18 (by decide) (by omega) ?_
      refine r_iret dX11_look_83 rfl ?_
      rw [show (m + 1).toNat = m.toNat + 1 by omega]
      have ek := k
      rw [c_22_1] at ek
      exact ⟨_, rfl, ek⟩
    by_cases c_22_2 : w = 2
    · refine r_tsIn (off := 62) (tgt := 84) dX11_look_22 c_22_2 ⟨by decide, by decide⟩ (by decide) (by decide) (by decide +kernel) rfl ?_
      refine r_aload_n dX11_look_84 rfl rfl ?_
      refine r_getR dX11_look_85 fl_X11_44 sh_0 rfl ?_
      refine r_getR dX11_look_88 fl_X11_181 sh_16 rfl ?_
      refine r_iload_n dX11_look_91 rfl rfl ?_
      refine r_iconst dX11_look_92 ?_
      refine r_iadd dX11_look_93 ?_
      refine r_zald dX11_look_94 sh_19 (by decide) (by omega) ?_
      refine r_if_eq (tgt := 102) dX11_look_95 rfl (by have := hdn; omega) (fun c_95 => ?_) (fun c_95 => ?_)
      · refine r_iconst dX11_look_102 ?_
        refine r_iret dX11_look_103 rfl ?_
        have ek := k
        rw [c_22_2] at ek
        have e2 : lkC h m.toNat 2 = 0 := by
          show (if h 19 (m.toNat + 1) = 0 then (0 : Int) else 1) = 0
          rw [show m.toNat + 1 = (m + 1).toNat by omega]
          exact if_pos c_95
        rw [e2] at ek
        exact ⟨_, rfl, ek⟩
      · refine r_iconst dX11_look_98 ?_
        refine r_goto (tgt := 103) dX11_look_99 rfl ?_
        refine r_iret dX11_look_103 rfl ?_
        have ek := k
        rw [c_22_2] at ek
        have e2 : lkC h m.toNat 2 = 1 := by
          show (if h 19 (m.toNat + 1) = 0 then (0 : Int) else 1) = 1
          rw [show m.toNat + 1 = (m + 1).toNat by omega]
          exact if_neg c_95
        rw [e2] at ek
        exact ⟨_, rfl, ek⟩
    by_cases c_22_3 : w = 3
    · refine r_tsIn (off := 82) (tgt := 104) dX11_look_22 c_22_3 ⟨by decide, by decide⟩ (by decide) (by decide) (by decide +kernel) rfl ?_
      refine r_aload_n dX11_look_104 rfl rfl ?_
      refine r_getR dX11_look_105 fl_X11_44 sh_0 rfl ?_
      refine r_iload_n dX11_look_108 rfl rfl ?_
      refine r_callVI (av := [_]) (M' := mX2_ticksOf) dX11_look_109 vX2_ticksOf ml_X11_185 sh_16 (by decide) rfl rfl rfl rfl (by simp [wtA]) (sp_X2_ticksOf_16 (n := h 16 0) (by omega) hm hn.2 hlr ?_)
      refine r_iret dX11_look_112 rfl ?_
      have ek := k
      rw [c_22_3] at ek
      exact ⟨_, rfl, ek⟩
    by_cases c_22_4 : w = 4
    · refine r_tsIn (off := 91) (tgt := 113) dX11_look_22 c_22_4 ⟨by decide, by decide⟩ (by decide) (by decide) (by decide +kernel) rfl ?_
      refine r_aload_n dX11_look_113 rfl rfl ?_
      refine r_getR dX11_look_114 fl_X11_44 sh_0 rfl ?_
      refine r_getR dX11_look_117 fl_X11_189 sh_16 rfl ?_
      refine r_iload_n dX11_look_120 rfl rfl ?_
      refine r_iconst dX11_look_121 ?_
      refine r_iadd dX11_look_122 ?_
      refine r_iald dX11_look_123 sh_20 (by decide) (by omega) ?_
      refine r_iret dX11_look_124 rfl ?_
      rw [show (m + 1).toNat = m.toNat + 1 by omega]
      have ek := k
      rw [c_22_4] at ek
      exact ⟨_, rfl, ek⟩
    by_cases c_22_5 : w = 5
    · refine r_tsIn (off := 103) (tgt := 125) dX11_look_22 c_22_5 ⟨by decide, by decide⟩ (by decide) (by decide) (by decide +kernel) rfl ?_
      refine r_aload_n dX11_look_125 rfl rfl ?_
      refine r_getR dX11_look_126 fl_X11_44 sh_0 rfl ?_
      refine r_getR dX11_look_129 fl_X11_192 sh_16 rfl ?_
      refine r_iload_n dX11_look_132 rfl rfl ?_
      refine r_iconst dX11_look_133 ?_
      refine r_iadd dX11_look_134 ?_
      refine r_iald dX11_look_135 sh_21 (by decide) (by omega) ?_
      refine r_iret dX11_look_136 rfl ?_
      rw [show (m + 1).toNat = m.toNat + 1 by omega]
      have ek := k
      rw [c_22_5] at ek
      exact ⟨_, rfl, ek⟩
    refine r_tsOut (tgt := 137) dX11_look_22 (by omega) (by omega) rfl ?_
    exact absurd hw (by omega)
set_option maxRecDepth 20000 in
set_option maxHeartbeats 400000 in
theorem sp_X12_fails {d : Nat} (hd : 1 ≤ d) {w : Int} {h : Hp}   {P : Int → Hp → Prop} (k : P (0) (upH h 49 2 w)) : Cl d mX12_fails [.inr (.inr 49), .inl w] h (pI P) := by
  refine Cl.of (L := [some (.inr (.inr 49)), some (.inl w)]) (by decide +kernel) (Nat.le_of_ble_eq_true rfl) rfl ?_
  refine r_aload_n dX12_fails_0 rfl rfl ?_
  refine r_iload_n dX12_fails_1 rfl rfl ?_
  refine r_putI dX12_fails_2 fl_X12_127 sh_49 rfl ?_
  refine r_iconst dX12_fails_5 ?_
  refine r_iret dX12_fails_6 rfl ?_
  exact ⟨_, rfl, k⟩
set_option maxRecDepth 20000 in
set_option maxHeartbeats 400000 in
theorem sp_X12_thrown {d : Nat} (hd : 1 ≤ d) {h : Hp}   {P : Int → Hp → Prop} (k : P (h 49 2) (h)) : Cl d mX12_thrown [.inr (.inr 49)] h (pI P) := by
  refine Cl.of (L := [some (.inr (.inr 49))]) (by decide +kernel) (Nat.le_of_ble_eq_true rfl) rfl ?_
  refine r_aload_n dX12_thrown_0 rfl rfl ?_
  refine r_getI dX12_thrown_1 fl_X12_127 sh_49 rfl ?_
  refine r_iret dX12_thrown_4 rfl ?_
  exact ⟨_, rfl, k⟩
set_option maxRecDepth 20000 in
set_option maxHeartbeats 400000 in
theorem sp_X12_look {d : Nat} (hd : 6 ≤ d) {m w : Int} {h : Hp}  (hM : MOK h) (hm32 : R32 m) (hw32 : R32 w) (hn : 0 ≤ h 49 29 ∧ h 49 29 ≤ 150) (hxy : MXY (h 49 3) (h 49 4) (h 60) (h 61) 0 (h 49 29)) (hdn : ∀ p : Nat, (p : Int) ≤ h 49 29 → h 62 p = 0 ∨ h 62 p = 1) {P : Int → Hp → Prop} (k1 : ¬ (0 ≤ m ∧ m < h 49 29) → ∀ g : Hp, g = upH h 49 2 0 → P 0 (upH g 49 2 1)) (k2 : (0 ≤ m ∧ m < h 49 29) → ¬ (0 ≤ w ∧ w ≤ 5) → ∀ g : Hp, g = upH h 49 2 0 → P 0 (upH g 49 2 2)) (k0 : (0 ≤ m ∧ m < h 49 29) → (0 ≤ w ∧ w ≤ 5) → ∀ g : Hp, g = upH h 49 2 0 → P (lkM g m.toNat w) g) : Cl d mX12_look [.inr (.inr 49), .inl m, .inl w] h (pI P) := by
  refine Cl.of (L := [some (.inr (.inr 49)), some (.inl m), some (.inl w)]) (by decide +kernel) (Nat.le_of_ble_eq_true rfl) rfl ?_
  obtain ⟨d, rfl⟩ : ∃ q, d = q + 1 := ⟨d - 1, by omega⟩
  refine r_aload_n dX12_look_0 rfl rfl ?_
  refine r_iconst dX12_look_1 ?_
  refine r_putI dX12_look_2 fl_X12_127 sh_49 rfl ?_
  refine r_gh (fun g eg => ?_)
  have gq : ∀ a k, ¬ (a = 49 ∧ k = 2) → g a k = h a k := fun a k z => by
    rw [eg]
    unfold upH
    rw [if_neg z]
  have g29 := gq 49 29 (by decide)
  have g60 : g 60 = h 60 := funext fun j => gq 60 j (by omega)
  have g61 : g 61 = h 61 := funext fun j => gq 61 j (by omega)
  have g62 : g 62 = h 62 := funext fun j => gq 62 j (by omega)
  have g3 := gq 49 3 (by decide)
  have g4 := gq 49 4 (by decide)
  have gm : MOK g := by
    unfold MOK
    rw [g3, g4, gq 49 5 (by decide), gq 49 6 (by decide), gq 49 7 (by decide), gq 49 8 (by decide)]
    exact hM
  refine r_aload_n dX12_look_5 rfl rfl ?_
  refine r_iload_n dX12_look_6 rfl rfl ?_
  refine r_callVI (av := [_]) (M' := mX12_isMove) dX12_look_7 vX12_isMove ml_X12_350 sh_49 (by decide) rfl rfl rfl rfl (by simp [wtA]) (sp_X12_isMove (by omega) hm32 (by rw [g29]; exact hn) (fun b => ?_) (fun b => ?_))
  · refine r_if_ne (tgt := 19) dX12_look_10 rfl ⟨by decide, by decide⟩ (fun c_10 => ?_) (fun c_10 => absurd c_10 (by decide))
    refine r_iload_n dX12_look_19 rfl rfl ?_
    by_cases c_20_0 : w = 0
    · refine r_tsIn (off := 40) (tgt := 60) dX12_look_20 c_20_0 ⟨by decide, by decide⟩ (by decide) (by decide) (by decide +kernel) rfl ?_
      rw [g29] at b
      have hx1 := hxy (m.toNat + 1) (by omega)
      rw [Nat.zero_add] at hx1
      refine r_aload_n dX12_look_60 rfl rfl ?_
      refine r_getR dX12_look_61 fl_X12_59 sh_49 rfl ?_
      refine r_iload_n dX12_look_64 rfl rfl ?_
      refine r_iconst dX12_look_65 ?_
      refine r_iadd dX12_look_66 ?_
      refine r_iald dX12_look_67 sh_60 (by decide) (by omega) ?_
      refine r_iret dX12_look_68 rfl ?_
      rw [show (m + 1).toNat = m.toNat + 1 by omega]
      have ek := k0 (by omega) (by omega) g eg
      rw [c_20_0] at ek
      exact ⟨_, rfl, ek⟩
    by_cases c_20_1 : w = 1
    · refine r_tsIn (off := 49) (tgt := 69) dX12_look_20 c_20_1 ⟨by decide, by decide⟩ (by decide) (by decide) (by decide +kernel) rfl ?_
      rw [g29] at b
      refine r_aload_n dX12_look_69 rfl rfl ?_
      refine r_getR dX12_look_70 fl_X12_62 sh_49 rfl ?_
      refine r_iload_n dX12_look_73 rfl rfl ?_
      refine r_iconst dX12_look_74 ?_
      refine r_iadd dX12_look_75 ?_
      refine r_iald dX12_look_76 sh_61 (by decide) (by omega) ?_
      refine r_iret dX12_look_77 rfl ?_
      rw [show (m + 1).toNat = m.toNat + 1 by omega]
      have ek := k0 (by omega) (by omega) g eg
      rw [c_20_1] at ek
      exact ⟨_, rfl, ek⟩
    by_cases c_20_2 : w = 2
    · refine r_tsIn (off := 58) (tgt := 78) dX12_look_20 c_20_2 ⟨by decide, by decide⟩ (by decide) (by decide) (by decide +kernel) rfl ?_
      rw [g29] at b
      have hd1 := hdn (m + 1).toNat (by omega)
      rw [← g62] at hd1
      refine r_aload_n dX12_look_78 rfl rfl ?_
      refine r_getR dX12_look_79 fl_X12_65 sh_49 rfl ?_
      refine r_iload_n dX12_look_82 rfl rfl ?_
      refine r_iconst dX12_look_83 ?_
      refine r_iadd dX12_look_84 ?_
      refine r_zald dX12_look_85 sh_62 (by decide) (by omega) ?_
      refine r_if_eq (tgt := 93) dX12_look_86 rfl (by omega) (fun c_86 => ?_) (fun c_86 => ?_)
      · refine r_iconst dX12_look_93 ?_
        refine r_iret dX12_look_94 rfl ?_
        have ek := k0 (by omega) (by omega) g eg
        rw [c_20_2] at ek
        have e2 : lkM g m.toNat 2 = 0 := by
          show (if g 62 (m.toNat + 1) = 0 then (0 : Int) else 1) = 0
          rw [show m.toNat + 1 = (m + 1).toNat by omega]
          exact if_pos c_86
        rw [e2] at ek
        exact ⟨_, rfl, ek⟩
      · refine r_iconst dX12_look_89 ?_
        refine r_goto (tgt := 94) dX12_look_90 rfl ?_
        refine r_iret dX12_look_94 rfl ?_
        have ek := k0 (by omega) (by omega) g eg
        rw [c_20_2] at ek
        have e2 : lkM g m.toNat 2 = 1 := by
          show (if g 62 (m.toNat + 1) = 0 then (0 : Int) else 1) = 1
          rw [show m.toNat + 1 = (m + 1).toNat by omega]
          exact if_neg c_86
        rw [e2] at ek
        exact ⟨_, rfl, ek⟩
    by_cases c_20_3 : w = 3
    · refine r_tsIn (off := 75) (tgt := 95) dX12_look_20 c_20_3 ⟨by decide, by decide⟩ (by decide) (by decide) (by decide +kernel) rfl ?_
      rw [g29] at b
      have hx0 := hxy m.toNat (by omega)
      have hx1 := hxy (m.toNat + 1) (by omega)
      rw [Nat.zero_add] at hx0 hx1
      refine r_aload_n dX12_look_95 rfl rfl ?_
      refine r_iload_n dX12_look_96 rfl rfl ?_
      refine r_callVI (av := [_]) (M' := mX12_ticksOf) dX12_look_97 vX12_ticksOf ml_X12_356 sh_49 (by decide) rfl rfl rfl rfl (by simp [wtA]) (sp_X12_ticksOf (h := g) (by omega) gm (by omega) (fun p hp => by rw [g60, g61, g3, g4]; exact hp.elim (fun z => by rw [z]; exact hx0) (fun z => by rw [z]; exact hx1)) ?_)
      refine r_iret dX12_look_100 rfl ?_
      have ek := k0 (by omega) (by omega) g eg
      rw [c_20_3] at ek
      exact ⟨_, rfl, ek⟩
    by_cases c_20_4 : w = 4
    · refine r_tsIn (off := 81) (tgt := 101) dX12_look_20 c_20_4 ⟨by decide, by decide⟩ (by decide) (by decide) (by decide +kernel) rfl ?_
      rw [g29] at b
      have hx1 := hxy (m.toNat + 1) (by omega)
      rw [Nat.zero_add] at hx1
      refine r_aload_n dX12_look_101 rfl rfl ?_
      refine r_iload_n dX12_look_102 rfl rfl ?_
      refine r_iconst dX12_look_103 ?_
      refine r_iadd dX12_look_104 ?_
      refine r_callVI (av := [_]) (M' := mX12_leftAt) dX12_look_105 vX12_leftAt ml_X12_344 sh_49 (by decide) rfl rfl rfl rfl (by simp [wtA]) (sp_X12_leftAt (h := g) (by omega) gm (by omega) (by rw [g60, g3, show (m + 1).toNat = m.toNat + 1 by omega]; exact ⟨hx1.1, hx1.2.1⟩) (by rw [g61, g4, show (m + 1).toNat = m.toNat + 1 by omega]; exact hx1.2.2) ?_)
      refine r_iret dX12_look_108 rfl ?_
      rw [show (m + 1).toNat = m.toNat + 1 by omega]
      have ek := k0 (by omega) (by omega) g eg
      rw [c_20_4] at ek
      exact ⟨_, rfl, ek⟩
    by_cases c_20_5 : w = 5
    · refine r_tsIn (off := 89) (tgt := 109) dX12_look_20 c_20_5 ⟨by decide, by decide⟩ (by decide) (by decide) (by decide +kernel) rfl ?_
      rw [g29] at b
      have hx1 := hxy (m.toNat + 1) (by omega)
      rw [Nat.zero_add] at hx1
      refine r_aload_n dX12_look_109 rfl rfl ?_
      refine r_iload_n dX12_look_110 rfl rfl ?_
      refine r_iconst dX12_look_111 ?_
      refine r_iadd dX12_look_112 ?_
      refine r_callVI (av := [_]) (M' := mX12_rightAt) dX12_look_113 vX12_rightAt ml_X12_347 sh_49 (by decide) rfl rfl rfl rfl (by simp [wtA]) (sp_X12_rightAt (h := g) (by omega) gm (by omega) (by rw [g60, g3, show (m + 1).toNat = m.toNat + 1 by omega]; exact ⟨hx1.1, hx1.2.1⟩) (by rw [g61, g4, show (m + 1).toNat = m.toNat + 1 by omega]; exact hx1.2.2) ?_)
      refine r_iret dX12_look_116 rfl ?_
      rw [show (m + 1).toNat = m.toNat + 1 by omega]
      have ek := k0 (by omega) (by omega) g eg
      rw [c_20_5] at ek
      exact ⟨_, rfl, ek⟩
    refine r_tsOut (tgt := 117) dX12_look_20 hw32 (by omega) rfl ?_
    refine r_aload_n dX12_look_117 rfl rfl ?_
    refine r_iconst dX12_look_118 ?_
    refine r_callVI (av := [_]) (M' := mX12_fails) dX12_look_119 vX12_fails ml_X12_353 sh_49 (by decide) rfl rfl rfl rfl (by simp [wtA]) (sp_X12_fails (by omega) ?_)
    refine r_iret dX12_look_122 rfl ?_
    exact ⟨_, rfl, k2 (by rw [← g29]; exact b) (by omega) g eg⟩
  · refine r_if_ne (tgt := 19) dX12_look_10 rfl ⟨by decide, by decide⟩ (fun c_10 => absurd c_10 (by decide)) (fun c_10 => ?_)
    refine r_aload_n dX12_look_13 rfl rfl ?_
    refine r_iconst dX12_look_14 ?_
    refine r_callVI (av := [_]) (M' := mX12_fails) dX12_look_15 vX12_fails ml_X12_353 sh_49 (by decide) rfl rfl rfl rfl (by simp [wtA]) (sp_X12_fails (by omega) ?_)
    refine r_iret dX12_look_18 rfl ?_
    exact ⟨_, rfl, k1 (by rw [← g29]; exact b) g eg⟩
theorem REL.lk {h : Hp} (r : REL h) {m : Nat} {w : Int} (hm : (m : Int) < h 16 0) : lkC h m w = lkM h m w := by
  have n1 := r.n
  have t0 := r.tk (i := m) (by omega)
  have t1 := r.tk (i := m + 1) (by omega)
  have x1 := (r.2.2.2.1.2.2.2 (m + 1) (by omega))
  have x2 := x1.2.2.2.2.2.2.2.1
  have x3 := x1.2.2.2.2.2.2.2.2.1
  rw [Nat.zero_add] at x2 x3
  unfold lkC lkM tkF
  rw [t0.1, t0.2.1, t1.1, t1.2.1, t1.2.2, x2, x3]
theorem REL.th {h : Hp} (r : REL h) {z : Int} : REL (upH h 49 2 z) := FrM.rel (FrM.up FrM.rf rfl) r
