/-! SET -/
def keepS (a k : Nat) : Bool := !(a == 1 && (k == 3 || k == 8)) && !(a == 20) && !(a == 21) && !(a == 27) && !(a == 28) && !(a == 22) && !(a == 33 && k == 0) && !(a == 48 && k == 0)
def SETC (h g : Hp) (n : Int) : Prop := (∀ a k, keepS a k = true → g a k = h a k) ∧ g 1 3 = n ∧ g 1 8 = -1 ∧ (∀ p : Nat, (p : Int) ≤ h 16 0 → g 20 p = stF (h 1 2) n (100 * h 17 p) (100 * h 18 p) ∧ g 21 p = stF (h 1 2) n (100 * h 1 0 - 100 * h 17 p) (100 * h 18 p)) ∧ (∀ p : Nat, (p : Int) ≤ h 23 0 → g 27 p = stF (h 1 2) n (100 * h 24 p) (100 * h 25 p) ∧ g 28 p = stF (h 1 2) n (100 * h 1 0 - 100 * h 24 p) (100 * h 25 p)) ∧ (∀ p : Nat, p < 300 → g 22 p = 0) ∧ g 33 0 = 0 ∧ g 48 0 = 0
def okS (w n : Int) : Prop := (w = 0 ∧ 0 ≤ n ∧ n ≤ 99) ∨ (w = 1 ∧ 1 ≤ n ∧ n ≤ 99) ∨ (w = 2 ∧ 1 ≤ n ∧ n ≤ 9999)
set_option maxRecDepth 20000 in
set_option maxHeartbeats 400000 in
theorem sp_X11_set {d : Nat} (hd : 6 ≤ d) {w n : Int} {h : Hp}  (ho : WOK h) (hw : R32 w) (hn : R32 n) (hm : 0 ≤ (h 16 0) ∧ (h 16 0) ≤ 150) (hq : 0 ≤ (h 23 0) ∧ (h 23 0) ≤ 150) (h1 : ∀ p : Nat, (p : Int) ≤ (h 16 0) → 0 ≤ h 17 p ∧ h 17 p ≤ (h 1 0) ∧ 0 ≤ h 18 p ∧ h 18 p ≤ (h 1 1)) (h2 : ∀ p : Nat, (p : Int) ≤ (h 23 0) → 0 ≤ h 24 p ∧ h 24 p ≤ (h 1 0) ∧ 0 ≤ h 25 p ∧ h 25 p ≤ (h 1 1)) {P : Int → Hp → Prop} (k0 : (w = 0 ∧ 0 ≤ n ∧ n ≤ 99) → ∀ g : Hp, SETC h g n → P 1 g) (k1 : (w = 1 ∧ 1 ≤ n ∧ n ≤ 99) → P 1 (upH (upH h 1 4 n) 1 8 (-1))) (k2 : (w = 2 ∧ 1 ≤ n ∧ n ≤ 9999) → P 1 (upH (upH h 1 5 n) 1 8 (-1))) (kf : ¬ ((w = 0 ∧ 0 ≤ n ∧ n ≤ 99) ∨ (w = 1 ∧ 1 ≤ n ∧ n ≤ 99) ∨ (w = 2 ∧ 1 ≤ n ∧ n ≤ 9999)) → P 0 h) : Cl d mX11_set [.inr (.inr 0), .inl w, .inl n] h (pI P) := by
  refine Cl.of (L := [some (.inr (.inr 0)), some (.inl w), some (.inl n)]) (by decide +kernel) (Nat.le_of_ble_eq_true rfl) rfl ?_
  obtain ⟨d, rfl⟩ : ∃ q, d = q + 1 := ⟨d - 1, by omega⟩
  refine r_iload_n dX11_set_0 rfl rfl ?_
  refine r_if_ne (tgt := 43) dX11_set_1 rfl (by omega) (fun c_1 => ?_) (fun c_1 => ?_)
  · refine r_iload_n dX11_set_43 rfl rfl ?_
    refine r_iconst dX11_set_44 ?_
    refine r_icmp_ne (tgt := 69) dX11_set_45 rfl (by omega) ⟨by decide, by decide⟩ (fun c_45 => ?_) (fun c_45 => ?_)
    · refine r_iload_n dX11_set_69 rfl rfl ?_
      refine r_iconst dX11_set_70 ?_
      refine r_icmp_ne (tgt := 96) dX11_set_71 rfl (by omega) ⟨by decide, by decide⟩ (fun c_71 => ?_) (fun c_71 => ?_)
      · refine r_iconst dX11_set_96 ?_
        refine r_zret dX11_set_97 rfl (.inl rfl) ?_
        exact ⟨_, rfl, kf (by omega)⟩
      · refine r_iload_n dX11_set_74 rfl rfl ?_
        refine r_iconst dX11_set_75 ?_
        refine r_sipush dX11_set_76 (by decide +kernel) ?_
        refine r_callSI (av := [_, _, _]) (M' := mX11_isWithin) dX11_set_79 sX11_isWithin ml_X11_116 rfl rfl (by simp [wtA]) (sp_X11_isWithin (by omega) (by omega) (by omega) (by omega) (fun b_79 => ?_) (fun b_79 => ?_))
        · refine r_if_eq (tgt := 96) dX11_set_82 rfl ⟨by decide, by decide⟩ (fun c_82 => absurd c_82 (by decide)) (fun c_82 => ?_)
          refine r_aload_n dX11_set_85 rfl rfl ?_
          refine r_getR dX11_set_86 fl_X11_10 sh_0 rfl ?_
          refine r_iload_n dX11_set_89 rfl rfl ?_
          refine r_putI dX11_set_90 fl_X11_144 sh_1 rfl ?_
          refine r_goto (tgt := 98) dX11_set_93 rfl ?_
          refine r_aload_n dX11_set_98 rfl rfl ?_
          refine r_getR dX11_set_99 fl_X11_10 sh_0 rfl ?_
          refine r_callVU (av := []) (M' := mX10_forgetReach) dX11_set_102 vX10_forgetReach ml_X11_129 sh_1 (by decide) rfl rfl rfl rfl (by simp [wtA]) (sp_X10_forgetReach (by omega) ?_)
          refine r_iconst dX11_set_105 ?_
          refine r_zret dX11_set_106 rfl (.inr rfl) ?_
          first
            | exact ⟨_, rfl, k1 (by omega)⟩
            | exact ⟨_, rfl, k2 (by omega)⟩
            | (refine ⟨_, rfl, k0 (by omega) _ ⟨fun a q hq => ?_, ?_, rfl, fun p hp => ?_, fun p hp => ?_, ?_, ?_, ?_⟩⟩
               · have n0 : ∀ c j, keepS c j = false → ¬ (a = c ∧ q = j) := by
                   rintro c j hc ⟨rfl, rfl⟩
                   rw [hc] at hq
                   cases hq
                 have m1 : ∀ c, (∀ j, keepS c j = false) → a ≠ c := by
                   rintro c hc rfl
                   rw [hc] at hq
                   cases hq
                 have e1 : upH h_37 1 8 (-1) a q = h_37 a q := by unfold upH; rw [if_neg (n0 1 8 rfl)]
                 rw [e1, f0_37 a q (m1 22 (fun _ => rfl)) (n0 33 0 rfl) (n0 48 0 rfl), f0_33 a q (m1 27 (fun _ => rfl)) (m1 28 (fun _ => rfl)), f0_26 a q (m1 20 (fun _ => rfl)) (m1 21 (fun _ => rfl)), eg]
                 unfold upH
                 rw [if_neg (n0 1 3 rfl)]
               · show h_37 1 3 = n
                 rw [f0_37 1 3 (by decide) (by decide) (by decide), f0_33 1 3 (by decide) (by decide), f0_26 1 3 (by decide) (by decide), eg]
                 rfl
               · have z := f1_26 p hp
                 rw [eg] at z
                 show h_37 20 p = _ ∧ h_37 21 p = _
                 rw [f0_37 20 p (by decide) (by omega) (by omega), f0_33 20 p (by decide) (by decide), f0_37 21 p (by decide) (by omega) (by omega), f0_33 21 p (by decide) (by decide)]
                 exact z
               · have z := f1_33 p hp
                 rw [f0_26 1 0 (by decide) (by decide), f0_26 1 2 (by decide) (by decide), f0_26 1 3 (by decide) (by decide), f0_26 24 p (by decide) (by decide), f0_26 25 p (by decide) (by decide), eg] at z
                 show h_37 27 p = _ ∧ h_37 28 p = _
                 rw [f0_37 27 p (by decide) (by omega) (by omega), f0_37 28 p (by decide) (by omega) (by omega)]
                 exact z
               · exact f1_37
               · exact f2_37
               · exact f3_37)
        · refine r_if_eq (tgt := 96) dX11_set_82 rfl ⟨by decide, by decide⟩ (fun c_82 => ?_) (fun c_82 => absurd c_82 (by decide))
          refine r_iconst dX11_set_96 ?_
          refine r_zret dX11_set_97 rfl (.inl rfl) ?_
          exact ⟨_, rfl, kf (by omega)⟩
    · refine r_iload_n dX11_set_48 rfl rfl ?_
      refine r_iconst dX11_set_49 ?_
      refine r_bipush dX11_set_50 (by decide +kernel) ?_
      refine r_callSI (av := [_, _, _]) (M' := mX11_isWithin) dX11_set_52 sX11_isWithin ml_X11_116 rfl rfl (by simp [wtA]) (sp_X11_isWithin (by omega) (by omega) (by omega) (by omega) (fun b_52 => ?_) (fun b_52 => ?_))
      · refine r_if_eq (tgt := 69) dX11_set_55 rfl ⟨by decide, by decide⟩ (fun c_55 => absurd c_55 (by decide)) (fun c_55 => ?_)
        refine r_aload_n dX11_set_58 rfl rfl ?_
        refine r_getR dX11_set_59 fl_X11_10 sh_0 rfl ?_
        refine r_iload_n dX11_set_62 rfl rfl ?_
        refine r_putI dX11_set_63 fl_X11_141 sh_1 rfl ?_
        refine r_goto (tgt := 98) dX11_set_66 rfl ?_
        refine r_aload_n dX11_set_98 rfl rfl ?_
        refine r_getR dX11_set_99 fl_X11_10 sh_0 rfl ?_
        refine r_callVU (av := []) (M' := mX10_forgetReach) dX11_set_102 vX10_forgetReach ml_X11_129 sh_1 (by decide) rfl rfl rfl rfl (by simp [wtA]) (sp_X10_forgetReach (by omega) ?_)
        refine r_iconst dX11_set_105 ?_
        refine r_zret dX11_set_106 rfl (.inr rfl) ?_
        first
          | exact ⟨_, rfl, k1 (by omega)⟩
          | exact ⟨_, rfl, k2 (by omega)⟩
          | (refine ⟨_, rfl, k0 (by omega) _ ⟨fun a q hq => ?_, ?_, rfl, fun p hp => ?_, fun p hp => ?_, ?_, ?_, ?_⟩⟩
             · have n0 : ∀ c j, keepS c j = false → ¬ (a = c ∧ q = j) := by
                 rintro c j hc ⟨rfl, rfl⟩
                 rw [hc] at hq
                 cases hq
               have m1 : ∀ c, (∀ j, keepS c j = false) → a ≠ c := by
                 rintro c hc rfl
                 rw [hc] at hq
                 cases hq
               have e1 : upH h_37 1 8 (-1) a q = h_37 a q := by unfold upH; rw [if_neg (n0 1 8 rfl)]
               rw [e1, f0_37 a q (m1 22 (fun _ => rfl)) (n0 33 0 rfl) (n0 48 0 rfl), f0_33 a q (m1 27 (fun _ => rfl)) (m1 28 (fun _ => rfl)), f0_26 a q (m1 20 (fun _ => rfl)) (m1 21 (fun _ => rfl)), eg]
               unfold upH
               rw [if_neg (n0 1 3 rfl)]
             · show h_37 1 3 = n
               rw [f0_37 1 3 (by decide) (by decide) (by decide), f0_33 1 3 (by decide) (by decide), f0_26 1 3 (by decide) (by decide), eg]
               rfl
             · have z := f1_26 p hp
               rw [eg] at z
               show h_37 20 p = _ ∧ h_37 21 p = _
               rw [f0_37 20 p (by decide) (by omega) (by omega), f0_33 20 p (by decide) (by decide), f0_37 21 p (by decide) (by omega) (by omega), f0_33 21 p (by decide) (by decide)]
               exact z
             · have z := f1_33 p hp
               rw [f0_26 1 0 (by decide) (by decide), f0_26 1 2 (by decide) (by decide), f0_26 1 3 (by decide) (by decide), f0_26 24 p (by decide) (by decide), f0_26 25 p (by decide) (by decide), eg] at z
               show h_37 27 p = _ ∧ h_37 28 p = _
               rw [f0_37 27 p (by decide) (by omega) (by omega), f0_37 28 p (by decide) (by omega) (by omega)]
               exact z
             · exact f1_37
             · exact f2_37
             · exact f3_37)
      · refine r_if_eq (tgt := 69) dX11_set_55 rfl ⟨by decide, by decide⟩ (fun c_55 => ?_) (fun c_55 => absurd c_55 (by decide))
        refine r_iload_n dX11_set_69 rfl rfl ?_
        refine r_iconst dX11_set_70 ?_
        refine r_icmp_ne (tgt := 96) dX11_set_71 rfl (by omega) ⟨by decide, by decide⟩ (fun c_71 => ?_) (fun c_71 => ?_)
        · refine r_iconst dX11_set_96 ?_
          refine r_zret dX11_set_97 rfl (.inl rfl) ?_
          exact ⟨_, rfl, kf (by omega)⟩
        · refine r_iload_n dX11_set_74 rfl rfl ?_
          refine r_iconst dX11_set_75 ?_
          refine r_sipush dX11_set_76 (by decide +kernel) ?_
          refine r_callSI (av := [_, _, _]) (M' := mX11_isWithin) dX11_set_79 sX11_isWithin ml_X11_116 rfl rfl (by simp [wtA]) (sp_X11_isWithin (by omega) (by omega) (by omega) (by omega) (fun b_79 => ?_) (fun b_79 => ?_))
          · refine r_if_eq (tgt := 96) dX11_set_82 rfl ⟨by decide, by decide⟩ (fun c_82 => absurd c_82 (by decide)) (fun c_82 => ?_)
            refine r_aload_n dX11_set_85 rfl rfl ?_
            refine r_getR dX11_set_86 fl_X11_10 sh_0 rfl ?_
            refine r_iload_n dX11_set_89 rfl rfl ?_
            refine r_putI dX11_set_90 fl_X11_144 sh_1 rfl ?_
            refine r_goto (tgt := 98) dX11_set_93 rfl ?_
            refine r_aload_n dX11_set_98 rfl rfl ?_
            refine r_getR dX11_set_99 fl_X11_10 sh_0 rfl ?_
            refine r_callVU (av := []) (M' := mX10_forgetReach) dX11_set_102 vX10_forgetReach ml_X11_129 sh_1 (by decide) rfl rfl rfl rfl (by simp [wtA]) (sp_X10_forgetReach (by omega) ?_)
            refine r_iconst dX11_set_105 ?_
            refine r_zret dX11_set_106 rfl (.inr rfl) ?_
            first
              | exact ⟨_, rfl, k1 (by omega)⟩
              | exact ⟨_, rfl, k2 (by omega)⟩
              | (refine ⟨_, rfl, k0 (by omega) _ ⟨fun a q hq => ?_, ?_, rfl, fun p hp => ?_, fun p hp => ?_, ?_, ?_, ?_⟩⟩
                 · have n0 : ∀ c j, keepS c j = false → ¬ (a = c ∧ q = j) := by
                     rintro c j hc ⟨rfl, rfl⟩
                     rw [hc] at hq
                     cases hq
                   have m1 : ∀ c, (∀ j, keepS c j = false) → a ≠ c := by
                     rintro c hc rfl
                     rw [hc] at hq
                     cases hq
                   have e1 : upH h_37 1 8 (-1) a q = h_37 a q := by unfold upH; rw [if_neg (n0 1 8 rfl)]
                   rw [e1, f0_37 a q (m1 22 (fun _ => rfl)) (n0 33 0 rfl) (n0 48 0 rfl), f0_33 a q (m1 27 (fun _ => rfl)) (m1 28 (fun _ => rfl)), f0_26 a q (m1 20 (fun _ => rfl)) (m1 21 (fun _ => rfl)), eg]
                   unfold upH
                   rw [if_neg (n0 1 3 rfl)]
                 · show h_37 1 3 = n
                   rw [f0_37 1 3 (by decide) (by decide) (by decide), f0_33 1 3 (by decide) (by decide), f0_26 1 3 (by decide) (by decide), eg]
                   rfl
                 · have z := f1_26 p hp
                   rw [eg] at z
                   show h_37 20 p = _ ∧ h_37 21 p = _
                   rw [f0_37 20 p (by decide) (by omega) (by omega), f0_33 20 p (by decide) (by decide), f0_37 21 p (by decide) (by omega) (by omega), f0_33 21 p (by decide) (by decide)]
                   exact z
                 · have z := f1_33 p hp
                   rw [f0_26 1 0 (by decide) (by decide), f0_26 1 2 (by decide) (by decide), f0_26 1 3 (by decide) (by decide), f0_26 24 p (by decide) (by decide), f0_26 25 p (by decide) (by decide), eg] at z
                   show h_37 27 p = _ ∧ h_37 28 p = _
                   rw [f0_37 27 p (by decide) (by omega) (by omega), f0_37 28 p (by decide) (by omega) (by omega)]
                   exact z
                 · exact f1_37
                 · exact f2_37
                 · exact f3_37)
          · refine r_if_eq (tgt := 96) dX11_set_82 rfl ⟨by decide, by decide⟩ (fun c_82 => ?_) (fun c_82 => absurd c_82 (by decide))
            refine r_iconst dX11_set_96 ?_
            refine r_zret dX11_set_97 rfl (.inl rfl) ?_
            exact ⟨_, rfl, kf (by omega)⟩
  · refine r_iload_n dX11_set_4 rfl rfl ?_
    refine r_iconst dX11_set_5 ?_
    refine r_bipush dX11_set_6 (by decide +kernel) ?_
    refine r_callSI (av := [_, _, _]) (M' := mX11_isWithin) dX11_set_8 sX11_isWithin ml_X11_116 rfl rfl (by simp [wtA]) (sp_X11_isWithin (by omega) (by omega) (by omega) (by omega) (fun b_8 => ?_) (fun b_8 => ?_))
    · refine r_if_eq (tgt := 43) dX11_set_11 rfl ⟨by decide, by decide⟩ (fun c_11 => absurd c_11 (by decide)) (fun c_11 => ?_)
      refine r_aload_n dX11_set_14 rfl rfl ?_
      refine r_getR dX11_set_15 fl_X11_10 sh_0 rfl ?_
      refine r_iload_n dX11_set_18 rfl rfl ?_
      refine r_putI dX11_set_19 fl_X11_135 sh_1 rfl ?_
      refine r_gh (fun g eg => ?_)
      have wg : WOK g := by
        have a0 : g 1 0 = h 1 0 := by rw [eg]; rfl
        have a1 : g 1 1 = h 1 1 := by rw [eg]; rfl
        have a2 : g 1 2 = h 1 2 := by rw [eg]; rfl
        have a3 : g 1 3 = n := by rw [eg]; rfl
        have a4 : g 1 4 = h 1 4 := by rw [eg]; rfl
        have a5 : g 1 5 = h 1 5 := by rw [eg]; rfl
        have a7 : g 1 7 = h 1 7 := by rw [eg]; rfl
        omega
      refine r_aload_n dX11_set_22 rfl rfl ?_
      refine r_getR dX11_set_23 fl_X11_44 sh_0 rfl ?_
      refine r_callVU (av := []) (M' := mX2_measure) dX11_set_26 vX2_measure ml_X11_138 sh_16 (by decide) rfl rfl rfl rfl (by simp [wtA]) (sp_X2_measure_16 (by omega) wg (n := (h 16 0)) (by rw [eg]; exact ⟨rfl, hm.1, hm.2⟩) (by rw [eg]; exact h1) (fun h_26 f0_26 f1_26 => ?_))
      have wg2 : WOK h_26 := by
        have a0 := f0_26 1 0 (by decide) (by decide)
        have a1 := f0_26 1 1 (by decide) (by decide)
        have a2 := f0_26 1 2 (by decide) (by decide)
        have a3 := f0_26 1 3 (by decide) (by decide)
        have a4 := f0_26 1 4 (by decide) (by decide)
        have a5 := f0_26 1 5 (by decide) (by decide)
        have a7 := f0_26 1 7 (by decide) (by decide)
        omega
      refine r_aload_n dX11_set_29 rfl rfl ?_
      refine r_getR dX11_set_30 fl_X11_48 sh_0 rfl ?_
      refine r_callVU (av := []) (M' := mX2_measure) dX11_set_33 vX2_measure ml_X11_138 sh_23 (by decide) rfl rfl rfl rfl (by simp [wtA]) (sp_X2_measure_23 (by omega) wg2 (n := (h 23 0)) (by rw [f0_26 23 0 (by decide) (by decide), eg]; exact ⟨rfl, hq.1, hq.2⟩) (by rw [f0_26 1 0 (by decide) (by decide), f0_26 1 1 (by decide) (by decide), (show h_26 24 = g 24 from funext fun j => f0_26 24 j (by decide) (by decide)), (show h_26 25 = g 25 from funext fun j => f0_26 25 j (by decide) (by decide)), eg]; exact h2) (fun h_33 f0_33 f1_33 => ?_))
      refine r_aload_n dX11_set_36 rfl rfl ?_
      refine r_callVU (av := []) (M' := mX11_dropWhatHangsOnMoves) dX11_set_37 vX11_dropWhatHangsOnMoves ml_X11_132 sh_0 (by decide) rfl rfl rfl rfl (by simp [wtA]) (sp_X11_dropWhatHangsOnMoves (by omega) (fun h_37 f0_37 f1_37 f2_37 f3_37 => ?_))
      refine r_goto (tgt := 98) dX11_set_40 rfl ?_
      refine r_aload_n dX11_set_98 rfl rfl ?_
      refine r_getR dX11_set_99 fl_X11_10 sh_0 rfl ?_
      refine r_callVU (av := []) (M' := mX10_forgetReach) dX11_set_102 vX10_forgetReach ml_X11_129 sh_1 (by decide) rfl rfl rfl rfl (by simp [wtA]) (sp_X10_forgetReach (by omega) ?_)
      refine r_iconst dX11_set_105 ?_
      refine r_zret dX11_set_106 rfl (.inr rfl) ?_
      first
        | exact ⟨_, rfl, k1 (by omega)⟩
        | exact ⟨_, rfl, k2 (by omega)⟩
        | (refine ⟨_, rfl, k0 (by omega) _ ⟨fun a q hq => ?_, ?_, rfl, fun p hp => ?_, fun p hp => ?_, ?_, ?_, ?_⟩⟩
           · have n0 : ∀ c j, keepS c j = false → ¬ (a = c ∧ q = j) := by
               rintro c j hc ⟨rfl, rfl⟩
               rw [hc] at hq
               cases hq
             have m1 : ∀ c, (∀ j, keepS c j = false) → a ≠ c := by
               rintro c hc rfl
               rw [hc] at hq
               cases hq
             have e1 : upH h_37 1 8 (-1) a q = h_37 a q := by unfold upH; rw [if_neg (n0 1 8 rfl)]
             rw [e1, f0_37 a q (m1 22 (fun _ => rfl)) (n0 33 0 rfl) (n0 48 0 rfl), f0_33 a q (m1 27 (fun _ => rfl)) (m1 28 (fun _ => rfl)), f0_26 a q (m1 20 (fun _ => rfl)) (m1 21 (fun _ => rfl)), eg]
             unfold upH
             rw [if_neg (n0 1 3 rfl)]
           · show h_37 1 3 = n
             rw [f0_37 1 3 (by decide) (by decide) (by decide), f0_33 1 3 (by decide) (by decide), f0_26 1 3 (by decide) (by decide), eg]
             rfl
           · have z := f1_26 p hp
             rw [eg] at z
             show h_37 20 p = _ ∧ h_37 21 p = _
             rw [f0_37 20 p (by decide) (by omega) (by omega), f0_33 20 p (by decide) (by decide), f0_37 21 p (by decide) (by omega) (by omega), f0_33 21 p (by decide) (by decide)]
             exact z
           · have z := f1_33 p hp
             rw [f0_26 1 0 (by decide) (by decide), f0_26 1 2 (by decide) (by decide), f0_26 1 3 (by decide) (by decide), f0_26 24 p (by decide) (by decide), f0_26 25 p (by decide) (by decide), eg] at z
             show h_37 27 p = _ ∧ h_37 28 p = _
             rw [f0_37 27 p (by decide) (by omega) (by omega), f0_37 28 p (by decide) (by omega) (by omega)]
             exact z
           · exact f1_37
           · exact f2_37
           · exact f3_37)
    · refine r_if_eq (tgt := 43) dX11_set_11 rfl ⟨by decide, by decide⟩ (fun c_11 => ?_) (fun c_11 => absurd c_11 (by decide))
      refine r_iload_n dX11_set_43 rfl rfl ?_
      refine r_iconst dX11_set_44 ?_
      refine r_icmp_ne (tgt := 69) dX11_set_45 rfl (by omega) ⟨by decide, by decide⟩ (fun c_45 => ?_) (fun c_45 => ?_)
      · refine r_iload_n dX11_set_69 rfl rfl ?_
        refine r_iconst dX11_set_70 ?_
        refine r_icmp_ne (tgt := 96) dX11_set_71 rfl (by omega) ⟨by decide, by decide⟩ (fun c_71 => ?_) (fun c_71 => ?_)
        · refine r_iconst dX11_set_96 ?_
          refine r_zret dX11_set_97 rfl (.inl rfl) ?_
          exact ⟨_, rfl, kf (by omega)⟩
        · refine r_iload_n dX11_set_74 rfl rfl ?_
          refine r_iconst dX11_set_75 ?_
          refine r_sipush dX11_set_76 (by decide +kernel) ?_
          refine r_callSI (av := [_, _, _]) (M' := mX11_isWithin) dX11_set_79 sX11_isWithin ml_X11_116 rfl rfl (by simp [wtA]) (sp_X11_isWithin (by omega) (by omega) (by omega) (by omega) (fun b_79 => ?_) (fun b_79 => ?_))
          · refine r_if_eq (tgt := 96) dX11_set_82 rfl ⟨by decide, by decide⟩ (fun c_82 => absurd c_82 (by decide)) (fun c_82 => ?_)
            refine r_aload_n dX11_set_85 rfl rfl ?_
            refine r_getR dX11_set_86 fl_X11_10 sh_0 rfl ?_
            refine r_iload_n dX11_set_89 rfl rfl ?_
            refine r_putI dX11_set_90 fl_X11_144 sh_1 rfl ?_
            refine r_goto (tgt := 98) dX11_set_93 rfl ?_
            refine r_aload_n dX11_set_98 rfl rfl ?_
            refine r_getR dX11_set_99 fl_X11_10 sh_0 rfl ?_
            refine r_callVU (av := []) (M' := mX10_forgetReach) dX11_set_102 vX10_forgetReach ml_X11_129 sh_1 (by decide) rfl rfl rfl rfl (by simp [wtA]) (sp_X10_forgetReach (by omega) ?_)
            refine r_iconst dX11_set_105 ?_
            refine r_zret dX11_set_106 rfl (.inr rfl) ?_
            first
              | exact ⟨_, rfl, k1 (by omega)⟩
              | exact ⟨_, rfl, k2 (by omega)⟩
              | (refine ⟨_, rfl, k0 (by omega) _ ⟨fun a q hq => ?_, ?_, rfl, fun p hp => ?_, fun p hp => ?_, ?_, ?_, ?_⟩⟩
                 · have n0 : ∀ c j, keepS c j = false → ¬ (a = c ∧ q = j) := by
                     rintro c j hc ⟨rfl, rfl⟩
                     rw [hc] at hq
                     cases hq
                   have m1 : ∀ c, (∀ j, keepS c j = false) → a ≠ c := by
                     rintro c hc rfl
                     rw [hc] at hq
                     cases hq
                   have e1 : upH h_37 1 8 (-1) a q = h_37 a q := by unfold upH; rw [if_neg (n0 1 8 rfl)]
                   rw [e1, f0_37 a q (m1 22 (fun _ => rfl)) (n0 33 0 rfl) (n0 48 0 rfl), f0_33 a q (m1 27 (fun _ => rfl)) (m1 28 (fun _ => rfl)), f0_26 a q (m1 20 (fun _ => rfl)) (m1 21 (fun _ => rfl)), eg]
                   unfold upH
                   rw [if_neg (n0 1 3 rfl)]
                 · show h_37 1 3 = n
                   rw [f0_37 1 3 (by decide) (by decide) (by decide), f0_33 1 3 (by decide) (by decide), f0_26 1 3 (by decide) (by decide), eg]
                   rfl
                 · have z := f1_26 p hp
                   rw [eg] at z
                   show h_37 20 p = _ ∧ h_37 21 p = _
                   rw [f0_37 20 p (by decide) (by omega) (by omega), f0_33 20 p (by decide) (by decide), f0_37 21 p (by decide) (by omega) (by omega), f0_33 21 p (by decide) (by decide)]
                   exact z
                 · have z := f1_33 p hp
                   rw [f0_26 1 0 (by decide) (by decide), f0_26 1 2 (by decide) (by decide), f0_26 1 3 (by decide) (by decide), f0_26 24 p (by decide) (by decide), f0_26 25 p (by decide) (by decide), eg] at z
                   show h_37 27 p = _ ∧ h_37 28 p = _
                   rw [f0_37 27 p (by decide) (by omega) (by omega), f0_37 28 p (by decide) (by omega) (by omega)]
                   exact z
                 · exact f1_37
                 · exact f2_37
                 · exact f3_37)
          · refine r_if_eq (tgt := 96) dX11_set_82 rfl ⟨by decide, by decide⟩ (fun c_82 => ?_) (fun c_82 => absurd c_82 (by decide))
            refine r_iconst dX11_set_96 ?_
            refine r_zret dX11_set_97 rfl (.inl rfl) ?_
            exact ⟨_, rfl, kf (by omega)⟩
      · refine r_iload_n dX11_set_48 rfl rfl ?_
        refine r_iconst dX11_set_49 ?_
        refine r_bipush dX11_set_50 (by decide +kernel) ?_
        refine r_callSI (av := [_, _, _]) (M' := mX11_isWithin) dX11_set_52 sX11_isWithin ml_X11_116 rfl rfl (by simp [wtA]) (sp_X11_isWithin (by omega) (by omega) (by omega) (by omega) (fun b_52 => ?_) (fun b_52 => ?_))
        · refine r_if_eq (tgt := 69) dX11_set_55 rfl ⟨by decide, by decide⟩ (fun c_55 => absurd c_55 (by decide)) (fun c_55 => ?_)
          refine r_aload_n dX11_set_58 rfl rfl ?_
          refine r_getR dX11_set_59 fl_X11_10 sh_0 rfl ?_
          refine r_iload_n dX11_set_62 rfl rfl ?_
          refine r_putI dX11_set_63 fl_X11_141 sh_1 rfl ?_
          refine r_goto (tgt := 98) dX11_set_66 rfl ?_
          refine r_aload_n dX11_set_98 rfl rfl ?_
          refine r_getR dX11_set_99 fl_X11_10 sh_0 rfl ?_
          refine r_callVU (av := []) (M' := mX10_forgetReach) dX11_set_102 vX10_forgetReach ml_X11_129 sh_1 (by decide) rfl rfl rfl rfl (by simp [wtA]) (sp_X10_forgetReach (by omega) ?_)
          refine r_iconst dX11_set_105 ?_
          refine r_zret dX11_set_106 rfl (.inr rfl) ?_
          first
            | exact ⟨_, rfl, k1 (by omega)⟩
            | exact ⟨_, rfl, k2 (by omega)⟩
            | (refine ⟨_, rfl, k0 (by omega) _ ⟨fun a q hq => ?_, ?_, rfl, fun p hp => ?_, fun p hp => ?_, ?_, ?_, ?_⟩⟩
               · have n0 : ∀ c j, keepS c j = false → ¬ (a = c ∧ q = j) := by
                   rintro c j hc ⟨rfl, rfl⟩
                   rw [hc] at hq
                   cases hq
                 have m1 : ∀ c, (∀ j, keepS c j = false) → a ≠ c := by
                   rintro c hc rfl
                   rw [hc] at hq
                   cases hq
                 have e1 : upH h_37 1 8 (-1) a q = h_37 a q := by unfold upH; rw [if_neg (n0 1 8 rfl)]
                 rw [e1, f0_37 a q (m1 22 (fun _ => rfl)) (n0 33 0 rfl) (n0 48 0 rfl), f0_33 a q (m1 27 (fun _ => rfl)) (m1 28 (fun _ => rfl)), f0_26 a q (m1 20 (fun _ => rfl)) (m1 21 (fun _ => rfl)), eg]
                 unfold upH
                 rw [if_neg (n0 1 3 rfl)]
               · show h_37 1 3 = n
                 rw [f0_37 1 3 (by decide) (by decide) (by decide), f0_33 1 3 (by decide) (by decide), f0_26 1 3 (by decide) (by decide), eg]
                 rfl
               · have z := f1_26 p hp
                 rw [eg] at z
                 show h_37 20 p = _ ∧ h_37 21 p = _
                 rw [f0_37 20 p (by decide) (by omega) (by omega), f0_33 20 p (by decide) (by decide), f0_37 21 p (by decide) (by omega) (by omega), f0_33 21 p (by decide) (by decide)]
                 exact z
               · have z := f1_33 p hp
                 rw [f0_26 1 0 (by decide) (by decide), f0_26 1 2 (by decide) (by decide), f0_26 1 3 (by decide) (by decide), f0_26 24 p (by decide) (by decide), f0_26 25 p (by decide) (by decide), eg] at z
                 show h_37 27 p = _ ∧ h_37 28 p = _
                 rw [f0_37 27 p (by decide) (by omega) (by omega), f0_37 28 p (by decide) (by omega) (by omega)]
                 exact z
               · exact f1_37
               · exact f2_37
               · exact f3_37)
        · refine r_if_eq (tgt := 69) dX11_set_55 rfl ⟨by decide, by decide⟩ (fun c_55 => ?_) (fun c_55 => absurd c_55 (by decide))
          refine r_iload_n dX11_set_69 rfl rfl ?_
          refine r_iconst dX11_set_70 ?_
          refine r_icmp_ne (tgt := 96) dX11_set_71 rfl (by omega) ⟨by decide, by decide⟩ (fun c_71 => ?_) (fun c_71 => ?_)
          · refine r_iconst dX11_set_96 ?_
            refine r_zret dX11_set_97 rfl (.inl rfl) ?_
            exact ⟨_, rfl, kf (by omega)⟩
          · refine r_iload_n dX11_set_74 rfl rfl ?_
            refine r_iconst dX11_set_75 ?_
            refine r_sipush dX11_set_76 (by decide +kernel) ?_
            refine r_callSI (av := [_, _, _]) (M' := mX11_isWithin) dX11_set_79 sX11_isWithin ml_X11_116 rfl rfl (by simp [wtA]) (sp_X11_isWithin (by omega) (by omega) (by omega) (by omega) (fun b_79 => ?_) (fun b_79 => ?_))
            · refine r_if_eq (tgt := 96) dX11_set_82 rfl ⟨by decide, by decide⟩ (fun c_82 => absurd c_82 (by decide)) (fun c_82 => ?_)
              refine r_aload_n dX11_set_85 rfl rfl ?_
              refine r_getR dX11_set_86 fl_X11_10 sh_0 rfl ?_
              refine r_iload_n dX11_set_89 rfl rfl ?_
              refine r_putI dX11_set_90 fl_X11_144 sh_1 rfl ?_
              refine r_goto (tgt := 98) dX11_set_93 rfl ?_
              refine r_aload_n dX11_set_98 rfl rfl ?_
              refine r_getR dX11_set_99 fl_X11_10 sh_0 rfl ?_
              refine r_callVU (av := []) (M' := mX10_forgetReach) dX11_set_102 vX10_forgetReach ml_X11_129 sh_1 (by decide) rfl rfl rfl rfl (by simp [wtA]) (sp_X10_forgetReach (by omega) ?_)
              refine r_iconst dX11_set_105 ?_
              refine r_zret dX11_set_106 rfl (.inr rfl) ?_
              first
                | exact ⟨_, rfl, k1 (by omega)⟩
                | exact ⟨_, rfl, k2 (by omega)⟩
                | (refine ⟨_, rfl, k0 (by omega) _ ⟨fun a q hq => ?_, ?_, rfl, fun p hp => ?_, fun p hp => ?_, ?_, ?_, ?_⟩⟩
                   · have n0 : ∀ c j, keepS c j = false → ¬ (a = c ∧ q = j) := by
                       rintro c j hc ⟨rfl, rfl⟩
                       rw [hc] at hq
                       cases hq
                     have m1 : ∀ c, (∀ j, keepS c j = false) → a ≠ c := by
                       rintro c hc rfl
                       rw [hc] at hq
                       cases hq
                     have e1 : upH h_37 1 8 (-1) a q = h_37 a q := by unfold upH; rw [if_neg (n0 1 8 rfl)]
                     rw [e1, f0_37 a q (m1 22 (fun _ => rfl)) (n0 33 0 rfl) (n0 48 0 rfl), f0_33 a q (m1 27 (fun _ => rfl)) (m1 28 (fun _ => rfl)), f0_26 a q (m1 20 (fun _ => rfl)) (m1 21 (fun _ => rfl)), eg]
                     unfold upH
                     rw [if_neg (n0 1 3 rfl)]
                   · show h_37 1 3 = n
                     rw [f0_37 1 3 (by decide) (by decide) (by decide), f0_33 1 3 (by decide) (by decide), f0_26 1 3 (by decide) (by decide), eg]
                     rfl
                   · have z := f1_26 p hp
                     rw [eg] at z
                     show h_37 20 p = _ ∧ h_37 21 p = _
                     rw [f0_37 20 p (by decide) (by omega) (by omega), f0_33 20 p (by decide) (by decide), f0_37 21 p (by decide) (by omega) (by omega), f0_33 21 p (by decide) (by decide)]
                     exact z
                   · have z := f1_33 p hp
                     rw [f0_26 1 0 (by decide) (by decide), f0_26 1 2 (by decide) (by decide), f0_26 1 3 (by decide) (by decide), f0_26 24 p (by decide) (by decide), f0_26 25 p (by decide) (by decide), eg] at z
                     show h_37 27 p = _ ∧ h_37 28 p = _
                     rw [f0_37 27 p (by decide) (by omega) (by omega), f0_37 28 p (by decide) (by omega) (by omega)]
                     exact z
                   · exact f1_37
                   · exact f2_37
                   · exact f3_37)
            · refine r_if_eq (tgt := 96) dX11_set_82 rfl ⟨by decide, by decide⟩ (fun c_82 => ?_) (fun c_82 => absurd c_82 (by decide))
              refine r_iconst dX11_set_96 ?_
              refine r_zret dX11_set_97 rfl (.inl rfl) ?_
              exact ⟨_, rfl, kf (by omega)⟩
def SETM (h g : Hp) (n : Int) : Prop := (∀ a k, a ≠ 69 → ¬ (a = 49 ∧ (k = 48 ∨ k = 62 ∨ k = 6)) → g a k = h a k) ∧ g 49 6 = n ∧ (∀ p : Nat, p < 300 → g 69 p = 0) ∧ g 49 48 = 0 ∧ g 49 62 = 0
set_option maxRecDepth 20000 in
set_option maxHeartbeats 400000 in
theorem sp_X12_set {d : Nat} (hd : 2 ≤ d) {w n : Int} {h : Hp}  (ho : MOK h) (hw : R32 w) (hn : R32 n) {P : Int → Hp → Prop} (k0 : (w = 0 ∧ 0 ≤ n ∧ n ≤ 99) → ∀ g : Hp, (∃ g0, FrM h g0 ∧ SETM g0 g n) → P 1 g) (k1 : (w = 1 ∧ 1 ≤ n ∧ n ≤ 99) → ∀ g : Hp, FrM (upH h 49 7 n) g → P 1 g) (k2 : (w = 2 ∧ 1 ≤ n ∧ n ≤ 9999) → ∀ g : Hp, FrM (upH h 49 8 n) g → P 1 g) (kf : ¬ ((w = 0 ∧ 0 ≤ n ∧ n ≤ 99) ∨ (w = 1 ∧ 1 ≤ n ∧ n ≤ 99) ∨ (w = 2 ∧ 1 ≤ n ∧ n ≤ 9999)) → ∀ g : Hp, FrM h g → P 0 g) : Cl d mX12_set [.inr (.inr 49), .inl w, .inl n] h (pI P) := by
  refine Cl.of (L := [some (.inr (.inr 49)), some (.inl w), some (.inl n)]) (by decide +kernel) (Nat.le_of_ble_eq_true rfl) rfl ?_
  obtain ⟨d, rfl⟩ : ∃ q, d = q + 1 := ⟨d - 1, by omega⟩
  refine r_aload_n dX12_set_0 rfl rfl ?_
  refine r_iconst dX12_set_1 ?_
  refine r_putI dX12_set_2 fl_X12_127 sh_49 rfl ?_
  refine r_gh (fun g eg => ?_)
  have f : FrM h g := by rw [eg]; exact FrM.rf.up rfl
  have e3 : g 49 3 = h 49 3 := f 49 3 rfl
  have e4 : g 49 4 = h 49 4 := f 49 4 rfl
  have e5 : g 49 5 = h 49 5 := f 49 5 rfl
  have e6 : g 49 6 = h 49 6 := f 49 6 rfl
  have e7 : g 49 7 = h 49 7 := f 49 7 rfl
  have e8 : g 49 8 = h 49 8 := f 49 8 rfl
  have wo : MOK g := by omega
  refine r_iload_n dX12_set_5 rfl rfl ?_
  refine r_if_ne (tgt := 22) dX12_set_6 rfl (by omega) (fun c_6 => ?_) (fun c_6 => ?_)
  · refine r_iload_n dX12_set_22 rfl rfl ?_
    refine r_iconst dX12_set_23 ?_
    refine r_icmp_ne (tgt := 40) dX12_set_24 rfl (by omega) ⟨by decide, by decide⟩ (fun c_24 => ?_) (fun c_24 => ?_)
    · refine r_iload_n dX12_set_40 rfl rfl ?_
      refine r_iconst dX12_set_41 ?_
      refine r_icmp_ne (tgt := 56) dX12_set_42 rfl (by omega) ⟨by decide, by decide⟩ (fun c_42 => ?_) (fun c_42 => ?_)
      · refine r_iconst dX12_set_56 ?_
        refine r_zret dX12_set_57 rfl (.inl rfl) ?_
        exact ⟨_, rfl, kf (by omega) _ f⟩
      · refine r_iload_n dX12_set_45 rfl rfl ?_
        refine r_iconst dX12_set_46 ?_
        refine r_sipush dX12_set_47 (by decide +kernel) ?_
        refine r_callSI (av := [_, _, _]) (M' := mX12_isIn) dX12_set_50 sX12_isIn ml_X12_160 rfl rfl (by simp [wtA]) (sp_X12_isIn (by omega) (by omega) (by omega) (by omega) (fun b_50 => ?_) (fun b_50 => ?_))
        · refine r_if_ne (tgt := 58) dX12_set_53 rfl ⟨by decide, by decide⟩ (fun c_53 => ?_) (fun c_53 => absurd c_53 (by decide))
          refine r_iload_n dX12_set_58 rfl rfl ?_
          refine r_if_ne (tgt := 74) dX12_set_59 rfl (by omega) (fun c_59 => ?_) (fun c_59 => ?_)
          · refine r_iload_n dX12_set_74 rfl rfl ?_
            refine r_iconst dX12_set_75 ?_
            refine r_icmp_ne (tgt := 87) dX12_set_76 rfl (by omega) ⟨by decide, by decide⟩ (fun c_76 => ?_) (fun c_76 => ?_)
            · refine r_aload_n dX12_set_87 rfl rfl ?_
              refine r_iload_n dX12_set_88 rfl rfl ?_
              refine r_putI dX12_set_89 fl_X12_26 sh_49 rfl ?_
              refine r_iconst dX12_set_92 ?_
              refine r_zret dX12_set_93 rfl (.inr rfl) ?_
              first
                | exact absurd c_59 (by omega)
                | exact ⟨_, rfl, k1 (by omega) _ f.cg⟩
                | exact ⟨_, rfl, k2 (by omega) _ f.cg⟩
                | (refine ⟨_, rfl, k0 (by omega) _ ⟨g, f, ⟨fun a q h1 h2 => ?_, ?_, f1_68, f2_68, f3_68⟩⟩⟩
                   · rw [f0_68 a q h1 (by omega)]
                     unfold upH
                     rw [if_neg (by omega)]
                   · rw [f0_68 49 6 (by decide) (by decide)]
                     rfl)
                | exact absurd c_76 (by omega)
                | (exfalso; omega)
            · refine r_aload_n dX12_set_79 rfl rfl ?_
              refine r_iload_n dX12_set_80 rfl rfl ?_
              refine r_putI dX12_set_81 fl_X12_23 sh_49 rfl ?_
              refine r_goto (tgt := 92) dX12_set_84 rfl ?_
              refine r_iconst dX12_set_92 ?_
              refine r_zret dX12_set_93 rfl (.inr rfl) ?_
              first
                | exact absurd c_59 (by omega)
                | exact ⟨_, rfl, k1 (by omega) _ f.cg⟩
                | exact ⟨_, rfl, k2 (by omega) _ f.cg⟩
                | (refine ⟨_, rfl, k0 (by omega) _ ⟨g, f, ⟨fun a q h1 h2 => ?_, ?_, f1_68, f2_68, f3_68⟩⟩⟩
                   · rw [f0_68 a q h1 (by omega)]
                     unfold upH
                     rw [if_neg (by omega)]
                   · rw [f0_68 49 6 (by decide) (by decide)]
                     rfl)
                | exact absurd c_76 (by omega)
                | (exfalso; omega)
          · refine r_aload_n dX12_set_62 rfl rfl ?_
            refine r_iload_n dX12_set_63 rfl rfl ?_
            refine r_putI dX12_set_64 fl_X12_135 sh_49 rfl ?_
            refine r_aload_n dX12_set_67 rfl rfl ?_
            refine r_callVU (av := []) (M' := mX12_forgets) dX12_set_68 vX12_forgets ml_X12_174 sh_49 (by decide) rfl rfl rfl rfl (by simp [wtA]) (sp_X12_forgets (by omega) (fun h_68 f0_68 f1_68 f2_68 f3_68 => ?_))
            refine r_goto (tgt := 92) dX12_set_71 rfl ?_
            refine r_iconst dX12_set_92 ?_
            refine r_zret dX12_set_93 rfl (.inr rfl) ?_
            first
              | exact absurd c_59 (by omega)
              | exact ⟨_, rfl, k1 (by omega) _ f.cg⟩
              | exact ⟨_, rfl, k2 (by omega) _ f.cg⟩
              | (refine ⟨_, rfl, k0 (by omega) _ ⟨g, f, ⟨fun a q h1 h2 => ?_, ?_, f1_68, f2_68, f3_68⟩⟩⟩
                 · rw [f0_68 a q h1 (by omega)]
                   unfold upH
                   rw [if_neg (by omega)]
                 · rw [f0_68 49 6 (by decide) (by decide)]
                   rfl)
              | exact absurd c_76 (by omega)
              | (exfalso; omega)
        · refine r_if_ne (tgt := 58) dX12_set_53 rfl ⟨by decide, by decide⟩ (fun c_53 => absurd c_53 (by decide)) (fun c_53 => ?_)
          refine r_iconst dX12_set_56 ?_
          refine r_zret dX12_set_57 rfl (.inl rfl) ?_
          exact ⟨_, rfl, kf (by omega) _ f⟩
    · refine r_iload_n dX12_set_27 rfl rfl ?_
      refine r_iconst dX12_set_28 ?_
      refine r_bipush dX12_set_29 (by decide +kernel) ?_
      refine r_callSI (av := [_, _, _]) (M' := mX12_isIn) dX12_set_31 sX12_isIn ml_X12_160 rfl rfl (by simp [wtA]) (sp_X12_isIn (by omega) (by omega) (by omega) (by omega) (fun b_31 => ?_) (fun b_31 => ?_))
      · refine r_if_ne (tgt := 58) dX12_set_34 rfl ⟨by decide, by decide⟩ (fun c_34 => ?_) (fun c_34 => absurd c_34 (by decide))
        refine r_iload_n dX12_set_58 rfl rfl ?_
        refine r_if_ne (tgt := 74) dX12_set_59 rfl (by omega) (fun c_59 => ?_) (fun c_59 => ?_)
        · refine r_iload_n dX12_set_74 rfl rfl ?_
          refine r_iconst dX12_set_75 ?_
          refine r_icmp_ne (tgt := 87) dX12_set_76 rfl (by omega) ⟨by decide, by decide⟩ (fun c_76 => ?_) (fun c_76 => ?_)
          · refine r_aload_n dX12_set_87 rfl rfl ?_
            refine r_iload_n dX12_set_88 rfl rfl ?_
            refine r_putI dX12_set_89 fl_X12_26 sh_49 rfl ?_
            refine r_iconst dX12_set_92 ?_
            refine r_zret dX12_set_93 rfl (.inr rfl) ?_
            first
              | exact absurd c_59 (by omega)
              | exact ⟨_, rfl, k1 (by omega) _ f.cg⟩
              | exact ⟨_, rfl, k2 (by omega) _ f.cg⟩
              | (refine ⟨_, rfl, k0 (by omega) _ ⟨g, f, ⟨fun a q h1 h2 => ?_, ?_, f1_68, f2_68, f3_68⟩⟩⟩
                 · rw [f0_68 a q h1 (by omega)]
                   unfold upH
                   rw [if_neg (by omega)]
                 · rw [f0_68 49 6 (by decide) (by decide)]
                   rfl)
              | exact absurd c_76 (by omega)
              | (exfalso; omega)
          · refine r_aload_n dX12_set_79 rfl rfl ?_
            refine r_iload_n dX12_set_80 rfl rfl ?_
            refine r_putI dX12_set_81 fl_X12_23 sh_49 rfl ?_
            refine r_goto (tgt := 92) dX12_set_84 rfl ?_
            refine r_iconst dX12_set_92 ?_
            refine r_zret dX12_set_93 rfl (.inr rfl) ?_
            first
              | exact absurd c_59 (by omega)
              | exact ⟨_, rfl, k1 (by omega) _ f.cg⟩
              | exact ⟨_, rfl, k2 (by omega) _ f.cg⟩
              | (refine ⟨_, rfl, k0 (by omega) _ ⟨g, f, ⟨fun a q h1 h2 => ?_, ?_, f1_68, f2_68, f3_68⟩⟩⟩
                 · rw [f0_68 a q h1 (by omega)]
                   unfold upH
                   rw [if_neg (by omega)]
                 · rw [f0_68 49 6 (by decide) (by decide)]
                   rfl)
              | exact absurd c_76 (by omega)
              | (exfalso; omega)
        · refine r_aload_n dX12_set_62 rfl rfl ?_
          refine r_iload_n dX12_set_63 rfl rfl ?_
          refine r_putI dX12_set_64 fl_X12_135 sh_49 rfl ?_
          refine r_aload_n dX12_set_67 rfl rfl ?_
          refine r_callVU (av := []) (M' := mX12_forgets) dX12_set_68 vX12_forgets ml_X12_174 sh_49 (by decide) rfl rfl rfl rfl (by simp [wtA]) (sp_X12_forgets (by omega) (fun h_68 f0_68 f1_68 f2_68 f3_68 => ?_))
          refine r_goto (tgt := 92) dX12_set_71 rfl ?_
          refine r_iconst dX12_set_92 ?_
          refine r_zret dX12_set_93 rfl (.inr rfl) ?_
          first
            | exact absurd c_59 (by omega)
            | exact ⟨_, rfl, k1 (by omega) _ f.cg⟩
            | exact ⟨_, rfl, k2 (by omega) _ f.cg⟩
            | (refine ⟨_, rfl, k0 (by omega) _ ⟨g, f, ⟨fun a q h1 h2 => ?_, ?_, f1_68, f2_68, f3_68⟩⟩⟩
               · rw [f0_68 a q h1 (by omega)]
                 unfold upH
                 rw [if_neg (by omega)]
               · rw [f0_68 49 6 (by decide) (by decide)]
                 rfl)
            | exact absurd c_76 (by omega)
            | (exfalso; omega)
      · refine r_if_ne (tgt := 58) dX12_set_34 rfl ⟨by decide, by decide⟩ (fun c_34 => absurd c_34 (by decide)) (fun c_34 => ?_)
        refine r_goto (tgt := 56) dX12_set_37 rfl ?_
        refine r_iconst dX12_set_56 ?_
        refine r_zret dX12_set_57 rfl (.inl rfl) ?_
        exact ⟨_, rfl, kf (by omega) _ f⟩
  · refine r_iload_n dX12_set_9 rfl rfl ?_
    refine r_iconst dX12_set_10 ?_
    refine r_bipush dX12_set_11 (by decide +kernel) ?_
    refine r_callSI (av := [_, _, _]) (M' := mX12_isIn) dX12_set_13 sX12_isIn ml_X12_160 rfl rfl (by simp [wtA]) (sp_X12_isIn (by omega) (by omega) (by omega) (by omega) (fun b_13 => ?_) (fun b_13 => ?_))
    · refine r_if_ne (tgt := 58) dX12_set_16 rfl ⟨by decide, by decide⟩ (fun c_16 => ?_) (fun c_16 => absurd c_16 (by decide))
      refine r_iload_n dX12_set_58 rfl rfl ?_
      refine r_if_ne (tgt := 74) dX12_set_59 rfl (by omega) (fun c_59 => ?_) (fun c_59 => ?_)
      · refine r_iload_n dX12_set_74 rfl rfl ?_
        refine r_iconst dX12_set_75 ?_
        refine r_icmp_ne (tgt := 87) dX12_set_76 rfl (by omega) ⟨by decide, by decide⟩ (fun c_76 => ?_) (fun c_76 => ?_)
        · refine r_aload_n dX12_set_87 rfl rfl ?_
          refine r_iload_n dX12_set_88 rfl rfl ?_
          refine r_putI dX12_set_89 fl_X12_26 sh_49 rfl ?_
          refine r_iconst dX12_set_92 ?_
          refine r_zret dX12_set_93 rfl (.inr rfl) ?_
          first
            | exact absurd c_59 (by omega)
            | exact ⟨_, rfl, k1 (by omega) _ f.cg⟩
            | exact ⟨_, rfl, k2 (by omega) _ f.cg⟩
            | (refine ⟨_, rfl, k0 (by omega) _ ⟨g, f, ⟨fun a q h1 h2 => ?_, ?_, f1_68, f2_68, f3_68⟩⟩⟩
               · rw [f0_68 a q h1 (by omega)]
                 unfold upH
                 rw [if_neg (by omega)]
               · rw [f0_68 49 6 (by decide) (by decide)]
                 rfl)
            | exact absurd c_76 (by omega)
            | (exfalso; omega)
        · refine r_aload_n dX12_set_79 rfl rfl ?_
          refine r_iload_n dX12_set_80 rfl rfl ?_
          refine r_putI dX12_set_81 fl_X12_23 sh_49 rfl ?_
          refine r_goto (tgt := 92) dX12_set_84 rfl ?_
          refine r_iconst dX12_set_92 ?_
          refine r_zret dX12_set_93 rfl (.inr rfl) ?_
          first
            | exact absurd c_59 (by omega)
            | exact ⟨_, rfl, k1 (by omega) _ f.cg⟩
            | exact ⟨_, rfl, k2 (by omega) _ f.cg⟩
            | (refine ⟨_, rfl, k0 (by omega) _ ⟨g, f, ⟨fun a q h1 h2 => ?_, ?_, f1_68, f2_68, f3_68⟩⟩⟩
               · rw [f0_68 a q h1 (by omega)]
                 unfold upH
                 rw [if_neg (by omega)]
               · rw [f0_68 49 6 (by decide) (by decide)]
                 rfl)
            | exact absurd c_76 (by omega)
            | (exfalso; omega)
      · refine r_aload_n dX12_set_62 rfl rfl ?_
        refine r_iload_n dX12_set_63 rfl rfl ?_
        refine r_putI dX12_set_64 fl_X12_135 sh_49 rfl ?_
        refine r_aload_n dX12_set_67 rfl rfl ?_
        refine r_callVU (av := []) (M' := mX12_forgets) dX12_set_68 vX12_forgets ml_X12_174 sh_49 (by decide) rfl rfl rfl rfl (by simp [wtA]) (sp_X12_forgets (by omega) (fun h_68 f0_68 f1_68 f2_68 f3_68 => ?_))
        refine r_goto (tgt := 92) dX12_set_71 rfl ?_
        refine r_iconst dX12_set_92 ?_
        refine r_zret dX12_set_93 rfl (.inr rfl) ?_
        first
          | exact absurd c_59 (by omega)
          | exact ⟨_, rfl, k1 (by omega) _ f.cg⟩
          | exact ⟨_, rfl, k2 (by omega) _ f.cg⟩
          | (refine ⟨_, rfl, k0 (by omega) _ ⟨g, f, ⟨fun a q h1 h2 => ?_, ?_, f1_68, f2_68, f3_68⟩⟩⟩
             · rw [f0_68 a q h1 (by omega)]
               unfold upH
               rw [if_neg (by omega)]
             · rw [f0_68 49 6 (by decide) (by decide)]
               rfl)
          | exact absurd c_76 (by omega)
          | (exfalso; omega)
    · refine r_if_ne (tgt := 58) dX12_set_16 rfl ⟨by decide, by decide⟩ (fun c_16 => absurd c_16 (by decide)) (fun c_16 => ?_)
      refine r_goto (tgt := 56) dX12_set_19 rfl ?_
      refine r_iconst dX12_set_56 ?_
      refine r_zret dX12_set_57 rfl (.inl rfl) ?_
      exact ⟨_, rfl, kf (by omega) _ f⟩
theorem RMv.newE {W H K E E2 n : Int} {x y dn lf rg lf2 rg2 mx my md : Nat → Int} {b : Nat} (h : RMv W H K E n x y dn lf rg mx my md b) (hq : ∀ p : Nat, (p : Int) ≤ n → lf2 p = stF K E2 (100 * x p) (100 * y p) ∧ rg2 p = stF K E2 (100 * W - 100 * x p) (100 * y p)) : RMv W H K E2 n x y dn lf2 rg2 mx my md b := by
  refine ⟨h.1, h.2.1, fun p hp => ?_⟩
  obtain ⟨h1, h2, h3, h4, h5, h6, h7, h8⟩ := h.2.2 p hp
  obtain ⟨q1, q2⟩ := hq p hp
  exact ⟨h1, h2, h3, h4, h5, q1, q2, h8⟩
theorem REL.set0 {h g g0 g2 : Hp} (r : REL h) {n : Int} (hn : 0 ≤ n ∧ n ≤ 99) (C : SETC h g n) (f : FrM g g0) (D : SETM g0 g2 n) : REL g2 := by
  obtain ⟨c1, c2, c3, c4, c5, c6, c7, c8⟩ := C
  obtain ⟨d1, d2, d3, d4, d5⟩ := D
  have L : ∀ a k, a < 49 → g2 a k = g a k := fun a k ha => by
    rw [d1 a k (by omega) (by omega)]
    exact f a k (by simp [scrM]; omega)
  have K : ∀ a k, 49 ≤ a → a ≠ 69 → ¬ (a = 49 ∧ (k = 48 ∨ k = 62 ∨ k = 6)) → keepS a k = true → scrM a k = false → g2 a k = h a k := fun a k h0 h1 h2 h3 h4 => by rw [d1 a k h1 h2, f a k h4, c1 a k h3]
  have J : ∀ a k, a < 49 → keepS a k = true → g2 a k = h a k := fun a k h1 h2 => by rw [L a k h1, c1 a k h2]
  have F : ∀ a, a < 49 → g2 a = g a := fun a ha => funext fun k => L a k ha
  have G : ∀ a, a < 49 → (∀ k, keepS a k = true) → g2 a = h a := fun a ha hk => funext fun k => J a k ha (hk k)
  have A : ∀ a, 49 < a → a ≠ 69 → (∀ k, keepS a k = true) → (∀ k, scrM a k = false) → g2 a = h a := fun a h0 h1 h2 h3 => funext fun k => K a k (by omega) h1 (by omega) (h2 k) (h3 k)
  obtain ⟨r1, r2, r3, r4, r5, r6, r7, r8, r9, r10⟩ := r
  refine ⟨?_, ?_, ?_, ?_, ?_, ?_, ?_, ?_, ?_, ?_⟩
  · have := J 1 0 (by decide) rfl
    have := J 1 1 (by decide) rfl
    have := J 1 2 (by decide) rfl
    have := L 1 3 (by decide)
    have := J 1 4 (by decide) rfl
    have := J 1 5 (by decide) rfl
    have := J 1 7 (by decide) rfl
    have := K 49 3 (by decide) (by decide) (by decide) rfl rfl
    have := K 49 4 (by decide) (by decide) (by decide) rfl rfl
    have := K 49 5 (by decide) (by decide) (by decide) rfl rfl
    have := K 49 7 (by decide) (by decide) (by decide) rfl rfl
    have := K 49 8 (by decide) (by decide) (by decide) rfl rfl
    omega
  · simp only [RT, J 2 0 (by decide) rfl, K 49 1 (by decide) (by decide) (by decide) rfl rfl, G 3 (by decide) (fun _ => rfl), A 50 (by decide) (by decide) (fun _ => rfl) (fun _ => rfl)]
    exact r2
  · simp only [RF, J 14 2 (by decide) rfl, J 14 3 (by decide) rfl, J 0 12 (by decide) rfl, K 49 10 (by decide) (by decide) (by decide) rfl rfl, K 49 11 (by decide) (by decide) (by decide) rfl rfl, K 49 12 (by decide) (by decide) (by decide) rfl rfl]
    exact r3
  · refine ⟨by rw [K 49 29 (by decide) (by decide) (by decide) rfl rfl, J 16 0 (by decide) rfl]; exact r4.1, ?_⟩
    rw [J 1 0 (by decide) rfl, J 1 1 (by decide) rfl, J 1 2 (by decide) rfl, L 1 3 (by decide), c2, J 16 0 (by decide) rfl, G 17 (by decide) (fun _ => rfl), G 18 (by decide) (fun _ => rfl), G 19 (by decide) (fun _ => rfl), F 20 (by decide), F 21 (by decide), A 60 (by decide) (by decide) (fun _ => rfl) (fun _ => rfl), A 61 (by decide) (by decide) (fun _ => rfl) (fun _ => rfl), A 62 (by decide) (by decide) (fun _ => rfl) (fun _ => rfl)]
    exact r4.2.newE c4
  · refine ⟨by rw [K 49 30 (by decide) (by decide) (by decide) rfl rfl, J 23 0 (by decide) rfl]; exact r5.1, ?_⟩
    rw [J 1 0 (by decide) rfl, J 1 1 (by decide) rfl, J 1 2 (by decide) rfl, L 1 3 (by decide), c2, J 23 0 (by decide) rfl, G 24 (by decide) (fun _ => rfl), G 25 (by decide) (fun _ => rfl), G 26 (by decide) (fun _ => rfl), F 27 (by decide), F 28 (by decide), A 60 (by decide) (by decide) (fun _ => rfl) (fun _ => rfl), A 61 (by decide) (by decide) (fun _ => rfl) (fun _ => rfl), A 62 (by decide) (by decide) (fun _ => rfl) (fun _ => rfl)]
    exact r5.2.newE c5
  · intro j hj
    rw [d3 j hj, L 22 j (by decide), c6 j hj]
    omega
  · have e0 : g2 33 0 = 0 := by rw [L 33 0 (by decide), c7]
    refine ⟨by rw [d4, e0], by omega, by omega, ?_, ?_⟩
    · intro k hk
      omega
    · intro k hk
      omega
  · simp only [RP, J 45 0 (by decide) rfl, K 49 60 (by decide) (by decide) (by decide) rfl rfl, G 46 (by decide) (fun _ => rfl), G 47 (by decide) (fun _ => rfl), A 80 (by decide) (by decide) (fun _ => rfl) (fun _ => rfl)]
    exact r8
  · have e0 : g2 48 0 = 0 := by rw [L 48 0 (by decide), c8]
    refine ⟨by rw [d5, e0], Or.inl e0, fun z => ?_⟩
    omega
  · refine ⟨Or.inl (by rw [L 1 8 (by decide), c3]), fun j hj => ?_⟩
    rw [A 51 (by decide) (by decide) (fun _ => rfl) (fun _ => rfl)]
    exact r10.2 j hj
theorem REL.set1 {h : Hp} (r : REL h) {n : Int} (hn : 1 ≤ n ∧ n ≤ 99) : REL (upH (upH (upH h 1 4 n) 1 8 (-1)) 49 7 n) := by
  obtain ⟨r1, r2, r3, r4, r5, r6, r7, r8, r9, r10⟩ := r
  refine ⟨?_, r2, r3, r4, r5, r6, r7, r8, r9, ⟨Or.inl rfl, r10.2⟩⟩
  obtain ⟨⟨a1, a2, a3, a4, a5, a6, a7, a8, a9, a10, a11, a12, a13, a14⟩, ⟨b1, b2, b3, b4, b5, b6, b7, b8, b9, b10, b11, b12⟩, c1, c2, c3, c4, c5, c6⟩ := r1
  exact ⟨⟨a1, a2, a3, a4, a5, a6, a7, a8, hn.1, hn.2, a11, a12, a13, a14⟩, ⟨b1, b2, b3, b4, b5, b6, b7, b8, hn.1, hn.2, b11, b12⟩, c1, c2, c3, c4, rfl, c6⟩
theorem REL.set2 {h : Hp} (r : REL h) {n : Int} (hn : 1 ≤ n ∧ n ≤ 9999) : REL (upH (upH (upH h 1 5 n) 1 8 (-1)) 49 8 n) := by
  obtain ⟨r1, r2, r3, r4, r5, r6, r7, r8, r9, r10⟩ := r
  refine ⟨?_, r2, r3, r4, r5, r6, r7, r8, r9, ⟨Or.inl rfl, r10.2⟩⟩
  obtain ⟨⟨a1, a2, a3, a4, a5, a6, a7, a8, a9, a10, a11, a12, a13, a14⟩, ⟨b1, b2, b3, b4, b5, b6, b7, b8, b9, b10, b11, b12⟩, c1, c2, c3, c4, c5, c6⟩ := r1
  exact ⟨⟨a1, a2, a3, a4, a5, a6, a7, a8, a9, a10, hn.1, hn.2, a13, a14⟩, ⟨b1, b2, b3, b4, b5, b6, b7, b8, b9, b10, hn.1, hn.2⟩, c1, c2, c3, c4, c5, rfl⟩
theorem RMv.xy {W H K E n : Int} {x y dn lf rg mx my md : Nat → Int} {b : Nat} (h : RMv W H K E n x y dn lf rg mx my md b) : ∀ p : Nat, (p : Int) ≤ n → 0 ≤ x p ∧ x p ≤ W ∧ 0 ≤ y p ∧ y p ≤ H := fun p hp => by
  have := h.2.2 p hp
  omega
theorem pr_set {d : Nat} (hd : 20 ≤ d) {w n : Int} (hw : R32 w) (hn : R32 n) : PR d mX11_set mX12_set [.inl w, .inl n] := by
  intro h r
  have r4 := r.2.2.2.1.2
  have r5 := r.2.2.2.2.1.2
  refine sp_X11_set (by omega) r.1.1 hw hn ⟨r4.1, r4.2.1⟩ ⟨r5.1, r5.2.1⟩ r4.xy r5.xy (fun C g S => ?_) (fun C => ?_) (fun C => ?_) (fun C => ?_)
  · have m : MOK g := by
      have q := S.1
      have := q 49 3 rfl
      have := q 49 4 rfl
      have := q 49 5 rfl
      have := q 49 6 rfl
      have := q 49 7 rfl
      have := q 49 8 rfl
      have := r.1
      omega
    exact sp_X12_set (by omega) m hw hn (fun _ g2 ⟨g0, f, D⟩ => ⟨rfl, r.set0 C.2 S f D⟩) (fun D => by omega) (fun D => by omega) (fun D => absurd (Or.inl C) D)
  · exact sp_X12_set (h := upH (upH h 1 4 n) 1 8 (-1)) (by omega) r.1.2.1 hw hn (fun D => by omega) (fun _ g f => ⟨rfl, f.rel (r.set1 C.2)⟩) (fun D => by omega) (fun D => absurd (Or.inr (Or.inl C)) D)
  · exact sp_X12_set (h := upH (upH h 1 5 n) 1 8 (-1)) (by omega) r.1.2.1 hw hn (fun D => by omega) (fun D => by omega) (fun _ g f => ⟨rfl, f.rel (r.set2 C.2)⟩) (fun D => absurd (Or.inr (Or.inr C)) D)
  · exact sp_X12_set (by omega) r.1.2.1 hw hn (fun D => absurd (Or.inl D) C) (fun D => absurd (Or.inr (Or.inl D)) C) (fun D => absurd (Or.inr (Or.inr D)) C) (fun _ g f => ⟨rfl, f.rel r⟩)
