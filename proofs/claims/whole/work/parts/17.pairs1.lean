set_option maxRecDepth 20000 in
set_option maxHeartbeats 400000 in
theorem sp_X11_pull {d : Nat} (hd : 7 ≤ d) {x y v : Int} {h : Hp}  (hw : WOK h) (hx : R32 x) (hy : R32 y) (hv : R32 v) {P : Int → Hp → Prop} (k : ∀ h' : Hp, (FrC h h') → P (fnPull (h 1 0) (h 1 1) (h 1 4) (h 1 2) (h 1 3) (h 1 5) x y v) h') : Cl d mX11_pull [.inr (.inr 0), .inl x, .inl y, .inl v] h (pI P) := by
  refine Cl.of (L := [some (.inr (.inr 0)), some (.inl x), some (.inl y), some (.inl v)]) (by decide +kernel) (Nat.le_of_ble_eq_true rfl) rfl ?_
  obtain ⟨d, rfl⟩ : ∃ q, d = q + 1 := ⟨d - 1, by omega⟩
  refine r_iload_n dX11_pull_0 rfl rfl ?_
  refine r_iconst dX11_pull_1 ?_
  refine r_aload_n dX11_pull_2 rfl rfl ?_
  refine r_getR dX11_pull_3 fl_X11_10 sh_0 rfl ?_
  refine r_getI dX11_pull_6 fl_X11_120 sh_1 rfl ?_
  refine r_callSI (av := [_, _, _]) (M' := mX11_isWithin) dX11_pull_9 sX11_isWithin ml_X11_116 rfl rfl (by simp [wtA]) (sp_X11_isWithin (by omega) (by omega) (by omega) (by omega) (fun b_9 => ?_) (fun b_9 => ?_))
  · refine r_if_eq (tgt := 30) dX11_pull_12 rfl ⟨by decide, by decide⟩ (fun c_12 => absurd c_12 (by decide)) (fun c_12 => ?_)
    refine r_iload_n dX11_pull_15 rfl rfl ?_
    refine r_iconst dX11_pull_16 ?_
    refine r_aload_n dX11_pull_17 rfl rfl ?_
    refine r_getR dX11_pull_18 fl_X11_10 sh_0 rfl ?_
    refine r_getI dX11_pull_21 fl_X11_123 sh_1 rfl ?_
    refine r_callSI (av := [_, _, _]) (M' := mX11_isWithin) dX11_pull_24 sX11_isWithin ml_X11_116 rfl rfl (by simp [wtA]) (sp_X11_isWithin (by omega) (by omega) (by omega) (by omega) (fun b_24 => ?_) (fun b_24 => ?_))
    · refine r_if_ne (tgt := 32) dX11_pull_27 rfl ⟨by decide, by decide⟩ (fun c_27 => ?_) (fun c_27 => absurd c_27 (by decide))
      refine r_iload_n dX11_pull_32 rfl rfl ?_
      by_cases c_33_0 : v = 0
      · refine r_tsIn (off := 27) (tgt := 60) dX11_pull_33 c_33_0 ⟨by decide, by decide⟩ (by decide) (by decide) (by decide +kernel) rfl ?_
        refine r_aload_n dX11_pull_60 rfl rfl ?_
        refine r_getR dX11_pull_61 fl_X11_10 sh_0 rfl ?_
        refine r_iload_n dX11_pull_64 rfl rfl ?_
        refine r_iload_n dX11_pull_65 rfl rfl ?_
        refine r_callVI (av := [_, _]) (M' := mX10_leftPull) dX11_pull_66 vX10_leftPull ml_X11_226 sh_1 (by decide) rfl rfl rfl rfl (by simp [wtA]) (sp_X10_leftPull (by omega) (by omega) (by omega) (by omega) ?_)
        refine r_iret dX11_pull_69 rfl ?_
        refine ⟨_, rfl, eqP (k h (FrC.rf hw)) ?_⟩
        unfold fnPull mayN
        (repeat' split) <;> first | rfl | omega
      by_cases c_33_1 : v = 1
      · refine r_tsIn (off := 37) (tgt := 70) dX11_pull_33 c_33_1 ⟨by decide, by decide⟩ (by decide) (by decide) (by decide +kernel) rfl ?_
        refine r_aload_n dX11_pull_70 rfl rfl ?_
        refine r_getR dX11_pull_71 fl_X11_10 sh_0 rfl ?_
        refine r_iload_n dX11_pull_74 rfl rfl ?_
        refine r_iload_n dX11_pull_75 rfl rfl ?_
        refine r_callVI (av := [_, _]) (M' := mX10_rightPull) dX11_pull_76 vX10_rightPull ml_X11_229 sh_1 (by decide) rfl rfl rfl rfl (by simp [wtA]) (sp_X10_rightPull (by omega) (by omega) (by omega) (by omega) ?_)
        refine r_iret dX11_pull_79 rfl ?_
        refine ⟨_, rfl, eqP (k h (FrC.rf hw)) ?_⟩
        unfold fnPull mayN
        (repeat' split) <;> first | rfl | omega
      by_cases c_33_2 : v = 2
      · refine r_tsIn (off := 47) (tgt := 80) dX11_pull_33 c_33_2 ⟨by decide, by decide⟩ (by decide) (by decide) (by decide +kernel) rfl ?_
        refine r_aload_n dX11_pull_80 rfl rfl ?_
        refine r_getR dX11_pull_81 fl_X11_10 sh_0 rfl ?_
        refine r_iload_n dX11_pull_84 rfl rfl ?_
        refine r_iload_n dX11_pull_85 rfl rfl ?_
        refine r_callVI (av := [_, _]) (M' := mX10_bears) dX11_pull_86 vX10_bears ml_X11_232 sh_1 (by decide) rfl rfl rfl rfl (by simp [wtA]) (sp_X10_bears (by omega) (by omega) (by omega) (by omega) (fun b_86 => ?_) (fun b_86 => ?_))
        · refine r_if_eq (tgt := 96) dX11_pull_89 rfl ⟨by decide, by decide⟩ (fun c_89 => absurd c_89 (by decide)) (fun c_89 => ?_)
          refine r_iconst dX11_pull_92 ?_
          refine r_goto (tgt := 97) dX11_pull_93 rfl ?_
          refine r_iret dX11_pull_97 rfl ?_
          refine ⟨_, rfl, eqP (k h (FrC.rf hw)) ?_⟩
          unfold fnPull mayN
          (repeat' split) <;> first | rfl | omega
        · refine r_if_eq (tgt := 96) dX11_pull_89 rfl ⟨by decide, by decide⟩ (fun c_89 => ?_) (fun c_89 => absurd c_89 (by decide))
          refine r_iconst dX11_pull_96 ?_
          refine r_iret dX11_pull_97 rfl ?_
          refine ⟨_, rfl, eqP (k h (FrC.rf hw)) ?_⟩
          unfold fnPull mayN
          (repeat' split) <;> first | rfl | omega
      refine r_tsOut (tgt := 98) dX11_pull_33 (by omega) (by omega) rfl ?_
      refine r_iconst dX11_pull_98 ?_
      refine r_iret dX11_pull_99 rfl ?_
      refine ⟨_, rfl, eqP (k h (FrC.rf hw)) ?_⟩
      unfold fnPull mayN
      (repeat' split) <;> first | rfl | omega
    · refine r_if_ne (tgt := 32) dX11_pull_27 rfl ⟨by decide, by decide⟩ (fun c_27 => absurd c_27 (by decide)) (fun c_27 => ?_)
      refine r_iconst dX11_pull_30 ?_
      refine r_iret dX11_pull_31 rfl ?_
      refine ⟨_, rfl, eqP (k h (FrC.rf hw)) ?_⟩
      unfold fnPull mayN
      (repeat' split) <;> first | rfl | omega
  · refine r_if_eq (tgt := 30) dX11_pull_12 rfl ⟨by decide, by decide⟩ (fun c_12 => ?_) (fun c_12 => absurd c_12 (by decide))
    refine r_iconst dX11_pull_30 ?_
    refine r_iret dX11_pull_31 rfl ?_
    refine ⟨_, rfl, eqP (k h (FrC.rf hw)) ?_⟩
    unfold fnPull mayN
    (repeat' split) <;> first | rfl | omega
set_option maxRecDepth 20000 in
set_option maxHeartbeats 400000 in
theorem sp_X12_pull {d : Nat} (hd : 7 ≤ d) {x y v : Int} {h : Hp}  (hw : MOK h) (hx : R32 x) (hy : R32 y) (hv : R32 v) {P : Int → Hp → Prop} (k : ∀ h' : Hp, (FrM h h') → P (fnPull (h 49 3) (h 49 4) (h 49 7) (h 49 5) (h 49 6) (h 49 8) x y v) h') : Cl d mX12_pull [.inr (.inr 49), .inl x, .inl y, .inl v] h (pI P) := by
  refine Cl.of (L := [some (.inr (.inr 49)), some (.inl x), some (.inl y), some (.inl v)]) (by decide +kernel) (Nat.le_of_ble_eq_true rfl) rfl ?_
  obtain ⟨d, rfl⟩ : ∃ q, d = q + 1 := ⟨d - 1, by omega⟩
  refine r_aload_n dX12_pull_0 rfl rfl ?_
  refine r_iconst dX12_pull_1 ?_
  refine r_putI dX12_pull_2 fl_X12_127 sh_49 rfl ?_
  refine r_gh (fun g eg => ?_)
  have f : FrM h g := by rw [eg]; exact FrM.rf.up rfl
  have e3 : g 49 3 = h 49 3 := f 49 3 rfl
  have e4 : g 49 4 = h 49 4 := f 49 4 rfl
  have e5 : g 49 5 = h 49 5 := f 49 5 rfl
  have e6 : g 49 6 = h 49 6 := f 49 6 rfl
  have e7 : g 49 7 = h 49 7 := f 49 7 rfl
  have e8 : g 49 8 = h 49 8 := f 49 8 rfl
  have e29 : g 49 29 = h 49 29 := f 49 29 rfl
  have k := k g f
  try simp only [← e3, ← e4, ← e5, ← e6, ← e7, ← e8, ← e29] at k
  have w : MOK g := by omega
  refine r_iload_n dX12_pull_5 rfl rfl ?_
  refine r_iconst dX12_pull_6 ?_
  refine r_aload_n dX12_pull_7 rfl rfl ?_
  refine r_getI dX12_pull_8 fl_X12_13 sh_49 rfl ?_
  refine r_callSI (av := [_, _, _]) (M' := mX12_isIn) dX12_pull_11 sX12_isIn ml_X12_160 rfl rfl (by simp [wtA]) (sp_X12_isIn (by omega) (by omega) (by omega) (by omega) (fun b_11 => ?_) (fun b_11 => ?_))
  · refine r_if_eq (tgt := 38) dX12_pull_14 rfl ⟨by decide, by decide⟩ (fun c_14 => absurd c_14 (by decide)) (fun c_14 => ?_)
    refine r_iload_n dX12_pull_17 rfl rfl ?_
    refine r_iconst dX12_pull_18 ?_
    refine r_aload_n dX12_pull_19 rfl rfl ?_
    refine r_getI dX12_pull_20 fl_X12_17 sh_49 rfl ?_
    refine r_callSI (av := [_, _, _]) (M' := mX12_isIn) dX12_pull_23 sX12_isIn ml_X12_160 rfl rfl (by simp [wtA]) (sp_X12_isIn (by omega) (by omega) (by omega) (by omega) (fun b_23 => ?_) (fun b_23 => ?_))
    · refine r_if_eq (tgt := 38) dX12_pull_26 rfl ⟨by decide, by decide⟩ (fun c_26 => absurd c_26 (by decide)) (fun c_26 => ?_)
      refine r_iload_n dX12_pull_29 rfl rfl ?_
      refine r_iconst dX12_pull_30 ?_
      refine r_iconst dX12_pull_31 ?_
      refine r_callSI (av := [_, _, _]) (M' := mX12_isIn) dX12_pull_32 sX12_isIn ml_X12_160 rfl rfl (by simp [wtA]) (sp_X12_isIn (by omega) (by omega) (by omega) (by omega) (fun b_32 => ?_) (fun b_32 => ?_))
      · refine r_if_ne (tgt := 40) dX12_pull_35 rfl ⟨by decide, by decide⟩ (fun c_35 => ?_) (fun c_35 => absurd c_35 (by decide))
        refine r_iload_n dX12_pull_40 rfl rfl ?_
        refine r_iconst dX12_pull_41 ?_
        refine r_icmp_ge (tgt := 55) dX12_pull_42 rfl (by omega) ⟨by decide, by decide⟩ (fun c_42 => ?_) (fun c_42 => ?_)
        · refine r_aload_n dX12_pull_55 rfl rfl ?_
          refine r_iload_n dX12_pull_56 rfl rfl ?_
          refine r_iload_n dX12_pull_57 rfl rfl ?_
          refine r_callVI (av := [_, _]) (M' := mX12_mayDraw) dX12_pull_58 vX12_mayDraw ml_X12_210 sh_49 (by decide) rfl rfl rfl rfl (by simp [wtA]) (sp_X12_mayDraw (by omega) (by omega) (by omega) (by omega) (fun b_58 => ?_) (fun b_58 => ?_))
          · refine r_if_eq (tgt := 68) dX12_pull_61 rfl ⟨by decide, by decide⟩ (fun c_61 => absurd c_61 (by decide)) (fun c_61 => ?_)
            refine r_iconst dX12_pull_64 ?_
            refine r_goto (tgt := 69) dX12_pull_65 rfl ?_
            refine r_iret dX12_pull_69 rfl ?_
            refine ⟨_, rfl, eqP k ?_⟩
            unfold fnPull mayN
            (repeat' split) <;> first | rfl | omega
          · refine r_if_eq (tgt := 68) dX12_pull_61 rfl ⟨by decide, by decide⟩ (fun c_61 => ?_) (fun c_61 => absurd c_61 (by decide))
            refine r_iconst dX12_pull_68 ?_
            refine r_iret dX12_pull_69 rfl ?_
            refine ⟨_, rfl, eqP k ?_⟩
            unfold fnPull mayN
            (repeat' split) <;> first | rfl | omega
        · refine r_aload_n dX12_pull_45 rfl rfl ?_
          refine r_iload_n dX12_pull_46 rfl rfl ?_
          refine r_iload_n dX12_pull_47 rfl rfl ?_
          refine r_iload_n dX12_pull_48 rfl rfl ?_
          refine r_callVI (av := [_, _, _]) (M' := mX12_pullOf) dX12_pull_49 vX12_pullOf ml_X12_206 sh_49 (by decide) rfl rfl rfl rfl (by simp [wtA]) (sp_X12_pullOf (by omega) (by omega) (by omega) (by omega) (by omega) ?_)
          refine r_goto (tgt := 69) dX12_pull_52 rfl ?_
          refine r_iret dX12_pull_69 rfl ?_
          refine ⟨_, rfl, eqP k ?_⟩
          unfold fnPull mayN
          (repeat' split) <;> first | rfl | omega
      · refine r_if_ne (tgt := 40) dX12_pull_35 rfl ⟨by decide, by decide⟩ (fun c_35 => absurd c_35 (by decide)) (fun c_35 => ?_)
        refine r_iconst dX12_pull_38 ?_
        refine r_iret dX12_pull_39 rfl ?_
        refine ⟨_, rfl, eqP k ?_⟩
        unfold fnPull mayN
        (repeat' split) <;> first | rfl | omega
    · refine r_if_eq (tgt := 38) dX12_pull_26 rfl ⟨by decide, by decide⟩ (fun c_26 => ?_) (fun c_26 => absurd c_26 (by decide))
      refine r_iconst dX12_pull_38 ?_
      refine r_iret dX12_pull_39 rfl ?_
      refine ⟨_, rfl, eqP k ?_⟩
      unfold fnPull mayN
      (repeat' split) <;> first | rfl | omega
  · refine r_if_eq (tgt := 38) dX12_pull_14 rfl ⟨by decide, by decide⟩ (fun c_14 => ?_) (fun c_14 => absurd c_14 (by decide))
    refine r_iconst dX12_pull_38 ?_
    refine r_iret dX12_pull_39 rfl ?_
    refine ⟨_, rfl, eqP k ?_⟩
    unfold fnPull mayN
    (repeat' split) <;> first | rfl | omega
set_option maxRecDepth 20000 in
set_option maxHeartbeats 400000 in
theorem sp_X11_reach {d : Nat} (hd : 7 ≤ d) {h : Hp}  (hw : WOK h) (hr : (h 1 8) = -1 ∨ (h 1 8) = rchF (h 1 4) (h 1 2) (h 1 3) (h 1 0) (h 1 1) (h 1 5)) (hr2 : R32 (h 1 8)) {P : Int → Hp → Prop} (k : P (rchF (h 1 4) (h 1 2) (h 1 3) (h 1 0) (h 1 1) (h 1 5)) (upH h 1 8 (rchF (h 1 4) (h 1 2) (h 1 3) (h 1 0) (h 1 1) (h 1 5)))) : Cl d mX11_reach [.inr (.inr 0)] h (pI P) := by
  refine Cl.of (L := [some (.inr (.inr 0))]) (by decide +kernel) (Nat.le_of_ble_eq_true rfl) rfl ?_
  obtain ⟨d, rfl⟩ : ∃ q, d = q + 1 := ⟨d - 1, by omega⟩
  refine r_aload_n dX11_reach_0 rfl rfl ?_
  refine r_getR dX11_reach_1 fl_X11_10 sh_0 rfl ?_
  refine r_callVI (av := []) (M' := mX10_countReach) dX11_reach_4 vX10_countReach ml_X11_235 sh_1 (by decide) rfl rfl rfl rfl (by simp [wtA]) (sp_X10_countReach (by omega) (by omega) hr (by omega) ?_)
  refine r_iret dX11_reach_7 rfl ?_
  exact ⟨_, rfl, k⟩
set_option maxRecDepth 20000 in
set_option maxHeartbeats 400000 in
theorem sp_X12_reach {d : Nat} (hd : 6 ≤ d) {h : Hp}  (hw : MOK h) {P : Int → Hp → Prop} (k : ∀ h' : Hp, (FrM h h') → P (rchF (h 49 7) (h 49 5) (h 49 6) (h 49 3) (h 49 4) (h 49 8)) h') : Cl d mX12_reach [.inr (.inr 49)] h (pI P) := by
  refine Cl.of (L := [some (.inr (.inr 49)), none, none, none]) (by decide +kernel) (Nat.le_of_ble_eq_true rfl) rfl ?_
  obtain ⟨d, rfl⟩ : ∃ q, d = q + 1 := ⟨d - 1, by omega⟩
  refine r_aload_n dX12_reach_0 rfl rfl ?_
  refine r_iconst dX12_reach_1 ?_
  refine r_putI dX12_reach_2 fl_X12_127 sh_49 rfl ?_
  refine r_gh (fun g eg => ?_)
  have f : FrM h g := by rw [eg]; exact FrM.rf.up rfl
  have e3 : g 49 3 = h 49 3 := f 49 3 rfl
  have e4 : g 49 4 = h 49 4 := f 49 4 rfl
  have e5 : g 49 5 = h 49 5 := f 49 5 rfl
  have e6 : g 49 6 = h 49 6 := f 49 6 rfl
  have e7 : g 49 7 = h 49 7 := f 49 7 rfl
  have e8 : g 49 8 = h 49 8 := f 49 8 rfl
  have e29 : g 49 29 = h 49 29 := f 49 29 rfl
  have k := k g f
  try simp only [← e3, ← e4, ← e5, ← e6, ← e7, ← e8, ← e29] at k
  have w : MOK g := by omega
  refine r_iconst dX12_reach_5 ?_
  refine r_istore_n (L' := [_, _, _, _]) dX12_reach_6 rfl rfl (by decide) rfl ?_
  refine r_iconst dX12_reach_7 ?_
  refine r_istore_n (L' := [_, _, _, _]) dX12_reach_8 rfl rfl (by decide) rfl ?_
  refine lp_mreach2 (by omega) w (fun o o2 => ?_) ((g 49 4).toNat + 1) 0 0 _ (by omega) (by simp [sumN]) (by omega)
  refine r_iload_n dX12_reach_56 rfl rfl ?_
  refine r_iret dX12_reach_57 rfl ?_
  exact ⟨_, rfl, k⟩
noncomputable def fnCount (a0 a1 a2 a3 a4 a5 a6 a7 a8 a9 v : Int) : Int := if v = 0 then a0 else if v = 1 then a1 else if v = 2 then a2 else if v = 3 then a3 else if v = 4 then a4 else if v = 5 then a5 else if v = 6 then a6 else if v = 7 then a7 else if v = 8 then a8 else if v = 9 then a9 else -1
set_option maxRecDepth 20000 in
set_option maxHeartbeats 400000 in
theorem sp_X11_count {d : Nat} (hd : 1 ≤ d) {v : Int} {h : Hp}  (hw : WOK h) (hv : R32 v) {P : Int → Hp → Prop} (k : ∀ h' : Hp, (FrC h h') → P (fnCount (h 1 0) (h 1 1) (h 1 2) (h 1 3) (h 1 4) (h 1 5) (h 16 0) (h 23 0) (h 33 0) (h 45 0) v) h') : Cl d mX11_count [.inr (.inr 0), .inl v] h (pI P) := by
  refine Cl.of (L := [some (.inr (.inr 0)), some (.inl v)]) (by decide +kernel) (Nat.le_of_ble_eq_true rfl) rfl ?_
  refine r_iload_n dX11_count_0 rfl rfl ?_
  by_cases c_1_0 : v = 0
  · refine r_tsIn (off := 55) (tgt := 56) dX11_count_1 c_1_0 ⟨by decide, by decide⟩ (by decide) (by decide) (by decide +kernel) rfl ?_
    refine r_aload_n dX11_count_56 rfl rfl ?_
    refine r_getR dX11_count_57 fl_X11_10 sh_0 rfl ?_
    refine r_getI dX11_count_60 fl_X11_120 sh_1 rfl ?_
    refine r_iret dX11_count_63 rfl ?_
    refine ⟨_, rfl, eqP (k h (FrC.rf hw)) ?_⟩
    unfold fnCount
    (repeat' split) <;> first | rfl | omega
  by_cases c_1_1 : v = 1
  · refine r_tsIn (off := 63) (tgt := 64) dX11_count_1 c_1_1 ⟨by decide, by decide⟩ (by decide) (by decide) (by decide +kernel) rfl ?_
    refine r_aload_n dX11_count_64 rfl rfl ?_
    refine r_getR dX11_count_65 fl_X11_10 sh_0 rfl ?_
    refine r_getI dX11_count_68 fl_X11_123 sh_1 rfl ?_
    refine r_iret dX11_count_71 rfl ?_
    refine ⟨_, rfl, eqP (k h (FrC.rf hw)) ?_⟩
    unfold fnCount
    (repeat' split) <;> first | rfl | omega
  by_cases c_1_2 : v = 2
  · refine r_tsIn (off := 71) (tgt := 72) dX11_count_1 c_1_2 ⟨by decide, by decide⟩ (by decide) (by decide) (by decide +kernel) rfl ?_
    refine r_aload_n dX11_count_72 rfl rfl ?_
    refine r_getR dX11_count_73 fl_X11_10 sh_0 rfl ?_
    refine r_getI dX11_count_76 fl_X11_126 sh_1 rfl ?_
    refine r_iret dX11_count_79 rfl ?_
    refine ⟨_, rfl, eqP (k h (FrC.rf hw)) ?_⟩
    unfold fnCount
    (repeat' split) <;> first | rfl | omega
  by_cases c_1_3 : v = 3
  · refine r_tsIn (off := 79) (tgt := 80) dX11_count_1 c_1_3 ⟨by decide, by decide⟩ (by decide) (by decide) (by decide +kernel) rfl ?_
    refine r_aload_n dX11_count_80 rfl rfl ?_
    refine r_getR dX11_count_81 fl_X11_10 sh_0 rfl ?_
    refine r_getI dX11_count_84 fl_X11_135 sh_1 rfl ?_
    refine r_iret dX11_count_87 rfl ?_
    refine ⟨_, rfl, eqP (k h (FrC.rf hw)) ?_⟩
    unfold fnCount
    (repeat' split) <;> first | rfl | omega
  by_cases c_1_4 : v = 4
  · refine r_tsIn (off := 87) (tgt := 88) dX11_count_1 c_1_4 ⟨by decide, by decide⟩ (by decide) (by decide) (by decide +kernel) rfl ?_
    refine r_aload_n dX11_count_88 rfl rfl ?_
    refine r_getR dX11_count_89 fl_X11_10 sh_0 rfl ?_
    refine r_getI dX11_count_92 fl_X11_141 sh_1 rfl ?_
    refine r_iret dX11_count_95 rfl ?_
    refine ⟨_, rfl, eqP (k h (FrC.rf hw)) ?_⟩
    unfold fnCount
    (repeat' split) <;> first | rfl | omega
  by_cases c_1_5 : v = 5
  · refine r_tsIn (off := 95) (tgt := 96) dX11_count_1 c_1_5 ⟨by decide, by decide⟩ (by decide) (by decide) (by decide +kernel) rfl ?_
    refine r_aload_n dX11_count_96 rfl rfl ?_
    refine r_getR dX11_count_97 fl_X11_10 sh_0 rfl ?_
    refine r_getI dX11_count_100 fl_X11_144 sh_1 rfl ?_
    refine r_iret dX11_count_103 rfl ?_
    refine ⟨_, rfl, eqP (k h (FrC.rf hw)) ?_⟩
    unfold fnCount
    (repeat' split) <;> first | rfl | omega
  by_cases c_1_6 : v = 6
  · refine r_tsIn (off := 103) (tgt := 104) dX11_count_1 c_1_6 ⟨by decide, by decide⟩ (by decide) (by decide) (by decide +kernel) rfl ?_
    refine r_aload_n dX11_count_104 rfl rfl ?_
    refine r_getR dX11_count_105 fl_X11_44 sh_0 rfl ?_
    refine r_getI dX11_count_108 fl_X11_155 sh_16 rfl ?_
    refine r_iret dX11_count_111 rfl ?_
    refine ⟨_, rfl, eqP (k h (FrC.rf hw)) ?_⟩
    unfold fnCount
    (repeat' split) <;> first | rfl | omega
  by_cases c_1_7 : v = 7
  · refine r_tsIn (off := 111) (tgt := 112) dX11_count_1 c_1_7 ⟨by decide, by decide⟩ (by decide) (by decide) (by decide +kernel) rfl ?_
    refine r_aload_n dX11_count_112 rfl rfl ?_
    refine r_getR dX11_count_113 fl_X11_48 sh_0 rfl ?_
    refine r_getI dX11_count_116 fl_X11_155 sh_23 rfl ?_
    refine r_iret dX11_count_119 rfl ?_
    refine ⟨_, rfl, eqP (k h (FrC.rf hw)) ?_⟩
    unfold fnCount
    (repeat' split) <;> first | rfl | omega
  by_cases c_1_8 : v = 8
  · refine r_tsIn (off := 119) (tgt := 120) dX11_count_1 c_1_8 ⟨by decide, by decide⟩ (by decide) (by decide) (by decide +kernel) rfl ?_
    refine r_aload_n dX11_count_120 rfl rfl ?_
    refine r_getR dX11_count_121 fl_X11_72 sh_0 rfl ?_
    refine r_getI dX11_count_124 fl_X11_260 sh_33 rfl ?_
    refine r_iret dX11_count_127 rfl ?_
    refine ⟨_, rfl, eqP (k h (FrC.rf hw)) ?_⟩
    unfold fnCount
    (repeat' split) <;> first | rfl | omega
  by_cases c_1_9 : v = 9
  · refine r_tsIn (off := 127) (tgt := 128) dX11_count_1 c_1_9 ⟨by decide, by decide⟩ (by decide) (by decide) (by decide +kernel) rfl ?_
    refine r_aload_n dX11_count_128 rfl rfl ?_
    refine r_getR dX11_count_129 fl_X11_88 sh_0 rfl ?_
    refine r_getI dX11_count_132 fl_X11_338 sh_45 rfl ?_
    refine r_iret dX11_count_135 rfl ?_
    refine ⟨_, rfl, eqP (k h (FrC.rf hw)) ?_⟩
    unfold fnCount
    (repeat' split) <;> first | rfl | omega
  refine r_tsOut (tgt := 136) dX11_count_1 (by omega) (by omega) rfl ?_
  refine r_iconst dX11_count_136 ?_
  refine r_iret dX11_count_137 rfl ?_
  refine ⟨_, rfl, eqP (k h (FrC.rf hw)) ?_⟩
  unfold fnCount
  (repeat' split) <;> first | rfl | omega
set_option maxRecDepth 20000 in
set_option maxHeartbeats 400000 in
theorem sp_X12_count {d : Nat} (hd : 1 ≤ d) {v : Int} {h : Hp}  (hw : MOK h) (hv : R32 v) {P : Int → Hp → Prop} (k : ∀ h' : Hp, (FrM h h') → P (fnCount (h 49 3) (h 49 4) (h 49 5) (h 49 6) (h 49 7) (h 49 8) (h 49 29) (h 49 30) (h 49 48) (h 49 60) v) h') : Cl d mX12_count [.inr (.inr 49), .inl v] h (pI P) := by
  refine Cl.of (L := [some (.inr (.inr 49)), some (.inl v)]) (by decide +kernel) (Nat.le_of_ble_eq_true rfl) rfl ?_
  refine r_aload_n dX12_count_0 rfl rfl ?_
  refine r_iconst dX12_count_1 ?_
  refine r_putI dX12_count_2 fl_X12_127 sh_49 rfl ?_
  refine r_gh (fun g eg => ?_)
  have f : FrM h g := by rw [eg]; exact FrM.rf.up rfl
  have e3 : g 49 3 = h 49 3 := f 49 3 rfl
  have e4 : g 49 4 = h 49 4 := f 49 4 rfl
  have e5 : g 49 5 = h 49 5 := f 49 5 rfl
  have e6 : g 49 6 = h 49 6 := f 49 6 rfl
  have e7 : g 49 7 = h 49 7 := f 49 7 rfl
  have e8 : g 49 8 = h 49 8 := f 49 8 rfl
  have e29 : g 49 29 = h 49 29 := f 49 29 rfl
  have e30 : g 49 30 = h 49 30 := f 49 30 rfl
  have e48 : g 49 48 = h 49 48 := f 49 48 rfl
  have e60 : g 49 60 = h 49 60 := f 49 60 rfl
  have k := k g f
  try simp only [← e3, ← e4, ← e5, ← e6, ← e7, ← e8, ← e29, ← e30, ← e48, ← e60] at k
  have w : MOK g := by omega
  refine r_iload_n dX12_count_5 rfl rfl ?_
  by_cases c_6_0 : v = 0
  · refine r_tsIn (off := 54) (tgt := 60) dX12_count_6 c_6_0 ⟨by decide, by decide⟩ (by decide) (by decide) (by decide +kernel) rfl ?_
    refine r_aload_n dX12_count_60 rfl rfl ?_
    refine r_getI dX12_count_61 fl_X12_13 sh_49 rfl ?_
    refine r_iret dX12_count_64 rfl ?_
    refine ⟨_, rfl, eqP k ?_⟩
    unfold fnCount
    (repeat' split) <;> first | rfl | omega
  by_cases c_6_1 : v = 1
  · refine r_tsIn (off := 59) (tgt := 65) dX12_count_6 c_6_1 ⟨by decide, by decide⟩ (by decide) (by decide) (by decide +kernel) rfl ?_
    refine r_aload_n dX12_count_65 rfl rfl ?_
    refine r_getI dX12_count_66 fl_X12_17 sh_49 rfl ?_
    refine r_iret dX12_count_69 rfl ?_
    refine ⟨_, rfl, eqP k ?_⟩
    unfold fnCount
    (repeat' split) <;> first | rfl | omega
  by_cases c_6_2 : v = 2
  · refine r_tsIn (off := 64) (tgt := 70) dX12_count_6 c_6_2 ⟨by decide, by decide⟩ (by decide) (by decide) (by decide +kernel) rfl ?_
    refine r_aload_n dX12_count_70 rfl rfl ?_
    refine r_getI dX12_count_71 fl_X12_20 sh_49 rfl ?_
    refine r_iret dX12_count_74 rfl ?_
    refine ⟨_, rfl, eqP k ?_⟩
    unfold fnCount
    (repeat' split) <;> first | rfl | omega
  by_cases c_6_3 : v = 3
  · refine r_tsIn (off := 69) (tgt := 75) dX12_count_6 c_6_3 ⟨by decide, by decide⟩ (by decide) (by decide) (by decide +kernel) rfl ?_
    refine r_aload_n dX12_count_75 rfl rfl ?_
    refine r_getI dX12_count_76 fl_X12_135 sh_49 rfl ?_
    refine r_iret dX12_count_79 rfl ?_
    refine ⟨_, rfl, eqP k ?_⟩
    unfold fnCount
    (repeat' split) <;> first | rfl | omega
  by_cases c_6_4 : v = 4
  · refine r_tsIn (off := 74) (tgt := 80) dX12_count_6 c_6_4 ⟨by decide, by decide⟩ (by decide) (by decide) (by decide +kernel) rfl ?_
    refine r_aload_n dX12_count_80 rfl rfl ?_
    refine r_getI dX12_count_81 fl_X12_23 sh_49 rfl ?_
    refine r_iret dX12_count_84 rfl ?_
    refine ⟨_, rfl, eqP k ?_⟩
    unfold fnCount
    (repeat' split) <;> first | rfl | omega
  by_cases c_6_5 : v = 5
  · refine r_tsIn (off := 79) (tgt := 85) dX12_count_6 c_6_5 ⟨by decide, by decide⟩ (by decide) (by decide) (by decide +kernel) rfl ?_
    refine r_aload_n dX12_count_85 rfl rfl ?_
    refine r_getI dX12_count_86 fl_X12_26 sh_49 rfl ?_
    refine r_iret dX12_count_89 rfl ?_
    refine ⟨_, rfl, eqP k ?_⟩
    unfold fnCount
    (repeat' split) <;> first | rfl | omega
  by_cases c_6_6 : v = 6
  · refine r_tsIn (off := 84) (tgt := 90) dX12_count_6 c_6_6 ⟨by decide, by decide⟩ (by decide) (by decide) (by decide +kernel) rfl ?_
    refine r_aload_n dX12_count_90 rfl rfl ?_
    refine r_getI dX12_count_91 fl_X12_164 sh_49 rfl ?_
    refine r_iret dX12_count_94 rfl ?_
    refine ⟨_, rfl, eqP k ?_⟩
    unfold fnCount
    (repeat' split) <;> first | rfl | omega
  by_cases c_6_7 : v = 7
  · refine r_tsIn (off := 89) (tgt := 95) dX12_count_6 c_6_7 ⟨by decide, by decide⟩ (by decide) (by decide) (by decide +kernel) rfl ?_
    refine r_aload_n dX12_count_95 rfl rfl ?_
    refine r_getI dX12_count_96 fl_X12_171 sh_49 rfl ?_
    refine r_iret dX12_count_99 rfl ?_
    refine ⟨_, rfl, eqP k ?_⟩
    unfold fnCount
    (repeat' split) <;> first | rfl | omega
  by_cases c_6_8 : v = 8
  · refine r_tsIn (off := 94) (tgt := 100) dX12_count_6 c_6_8 ⟨by decide, by decide⟩ (by decide) (by decide) (by decide +kernel) rfl ?_
    refine r_aload_n dX12_count_100 rfl rfl ?_
    refine r_getI dX12_count_101 fl_X12_177 sh_49 rfl ?_
    refine r_iret dX12_count_104 rfl ?_
    refine ⟨_, rfl, eqP k ?_⟩
    unfold fnCount
    (repeat' split) <;> first | rfl | omega
  by_cases c_6_9 : v = 9
  · refine r_tsIn (off := 99) (tgt := 105) dX12_count_6 c_6_9 ⟨by decide, by decide⟩ (by decide) (by decide) (by decide +kernel) rfl ?_
    refine r_aload_n dX12_count_105 rfl rfl ?_
    refine r_getI dX12_count_106 fl_X12_424 sh_49 rfl ?_
    refine r_iret dX12_count_109 rfl ?_
    refine ⟨_, rfl, eqP k ?_⟩
    unfold fnCount
    (repeat' split) <;> first | rfl | omega
  refine r_tsOut (tgt := 110) dX12_count_6 (by omega) (by omega) rfl ?_
  refine r_iconst dX12_count_110 ?_
  refine r_iret dX12_count_111 rfl ?_
  refine ⟨_, rfl, eqP k ?_⟩
  unfold fnCount
  (repeat' split) <;> first | rfl | omega
theorem REL.wf {h g : Hp} (r : REL g) (f : FrC h g) : g 49 3 = h 1 0 ∧ g 49 4 = h 1 1 ∧ g 49 5 = h 1 2 ∧ g 49 6 = h 1 3 ∧ g 49 7 = h 1 4 ∧ g 49 8 = h 1 5 ∧ g 49 29 = h 16 0 ∧ g 49 30 = h 23 0 ∧ g 49 48 = h 33 0 ∧ g 49 60 = h 45 0 := by
  have q := f.1
  have := r.1
  have := r.2.2.2.1.1
  have := r.2.2.2.2.1.1
  have := r.2.2.2.2.2.2.1.1
  have := r.2.2.2.2.2.2.2.1.1
  have a0 := q 1 0 rfl
  have a1 := q 1 1 rfl
  have a2 := q 1 2 rfl
  have a3 := q 1 3 rfl
  have a4 := q 1 4 rfl
  have a5 := q 1 5 rfl
  have a6 := q 16 0 rfl
  have a7 := q 23 0 rfl
  have a8 := q 33 0 rfl
  have a9 := q 45 0 rfl
  omega
/-- a new reach is known -/
theorem REL.rch {h : Hp} (r : REL h) : REL (upH h 1 8 (rchF (h 1 4) (h 1 2) (h 1 3) (h 1 0) (h 1 1) (h 1 5))) := by
  obtain ⟨r1, r2, r3, r4, r5, r6, r7, r8, r9, r10⟩ := r
  exact ⟨r1, r2, r3, r4, r5, r6, r7, r8, r9, ⟨Or.inr rfl, r10.2⟩⟩
theorem rchF_r {G K E W H lim : Int} (hW : 20 ≤ W ∧ W ≤ 200) (hH : 20 ≤ H ∧ H ≤ 200) : 0 ≤ rchF G K E W H lim ∧ rchF G K E W H lim ≤ 40200 := by
  have := sumN_r (f := fun j : Nat => rowN G K E W lim ((j : Int) + 1)) (B := 201) H.toNat (fun i _ => rowN_r hW)
  unfold rchF
  omega
theorem pr_steps {d : Nat} (hd : 20 ≤ d) {x y v : Int} (hx : R32 x) (hy : R32 y) (hv : R32 v) : PR d mX11_steps mX12_steps [.inl x, .inl y, .inl v] := by
  intro h r
  refine sp_X11_steps (by omega) r.1.1 hx hy hv (fun h1 f => ?_)
  have r1 := f.rel r
  refine sp_X12_steps (by omega) r1.1.2.1 hx hy hv (fun h2 f2 => ⟨?_, f2.rel r1⟩)
  obtain ⟨a, b, c, e0, e1, e2, e3, e4, e5, e6⟩ := r1.wf f
  simp only [a, b, c, e0, e1, e2, e3, e4, e5, e6]
theorem pr_place {d : Nat} (hd : 20 ≤ d) {l r0 a0 : Int} (hl : R32 l) (hr : R32 r0) (ha : R32 a0) : PR d mX11_place mX12_place [.inl l, .inl r0, .inl a0] := by
  intro h r
  refine sp_X11_place (by omega) r.1.1 hl hr ha (fun h1 f => ?_)
  have r1 := f.rel r
  refine sp_X12_place (by omega) r1.1.2.1 hl hr ha (fun h2 f2 => ⟨?_, f2.rel r1⟩)
  obtain ⟨a, b, c, e0, e1, e2, e3, e4, e5, e6⟩ := r1.wf f
  simp only [a, b, c, e0, e1, e2, e3, e4, e5, e6]
theorem pr_grain {d : Nat} (hd : 20 ≤ d) {x y : Int} (hx : R32 x) (hy : R32 y) : PR d mX11_grain mX12_grain [.inl x, .inl y] := by
  intro h r
  refine sp_X11_grain (by omega) r.1.1 hx hy (fun h1 f => ?_)
  have r1 := f.rel r
  refine sp_X12_grain (by omega) r1.1.2.1 hx hy (fun h2 f2 => ⟨?_, f2.rel r1⟩)
  obtain ⟨a, b, c, e0, e1, e2, e3, e4, e5, e6⟩ := r1.wf f
  simp only [a, b, c, e0, e1, e2, e3, e4, e5, e6]
theorem pr_pull {d : Nat} (hd : 20 ≤ d) {x y v : Int} (hx : R32 x) (hy : R32 y) (hv : R32 v) : PR d mX11_pull mX12_pull [.inl x, .inl y, .inl v] := by
  intro h r
  refine sp_X11_pull (by omega) r.1.1 hx hy hv (fun h1 f => ?_)
  have r1 := f.rel r
  refine sp_X12_pull (by omega) r1.1.2.1 hx hy hv (fun h2 f2 => ⟨?_, f2.rel r1⟩)
  obtain ⟨a, b, c, e0, e1, e2, e3, e4, e5, e6⟩ := r1.wf f
  simp only [a, b, c, e0, e1, e2, e3, e4, e5, e6]
theorem pr_count {d : Nat} (hd : 20 ≤ d) {v : Int} (hv : R32 v) : PR d mX11_count mX12_count [.inl v] := by
  intro h r
  refine sp_X11_count (by omega) r.1.1 hv (fun h1 f => ?_)
  have r1 := f.rel r
  refine sp_X12_count (by omega) r1.1.2.1 hv (fun h2 f2 => ⟨?_, f2.rel r1⟩)
  obtain ⟨a, b, c, e0, e1, e2, e3, e4, e5, e6⟩ := r1.wf f
  simp only [a, b, c, e0, e1, e2, e3, e4, e5, e6]
theorem pr_reach {d : Nat} (hd : 20 ≤ d) : PR d mX11_reach mX12_reach [] := by
  intro h r
  have hz := rchF_r (G := h 1 4) (K := h 1 2) (E := h 1 3) (W := h 1 0) (H := h 1 1) (lim := h 1 5) (by have := r.1; omega) (by have := r.1; omega)
  have hk := r.2.2.2.2.2.2.2.2.2.1
  refine sp_X11_reach (by omega) r.1.1 hk (by omega) ?_
  refine sp_X12_reach (by omega) r.rch.1.2.1 (fun h2 f2 => ⟨?_, f2.rel r.rch⟩)
  have q := r.1
  show _ = rchF (h 49 7) (h 49 5) (h 49 6) (h 49 3) (h 49 4) (h 49 8)
  simp only [q.2.2]
