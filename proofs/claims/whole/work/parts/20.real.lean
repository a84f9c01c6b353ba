set_option maxRecDepth 20000 in
set_option maxHeartbeats 400000 in
theorem sp_X11_realNumber {d : Nat} (hd : 4 ≤ d) {m u v a : Int} {h : Hp}  (hw : WOK h) (hm : 0 ≤ m ∧ m < (h 16 0)) (hu : -6 ≤ u ∧ u ≤ 6) (hv : -6 ≤ v ∧ v ≤ 6) (ha : R32 a) (hn : 0 ≤ (h 16 0) ∧ (h 16 0) ≤ 150) (hq : LR (h 20) (h 21) (h 16 0)) (hs : ∀ j : Nat, j < 300 → -9 ≤ h 22 j ∧ h 22 j ≤ 9) {P : Int → Hp → Prop} (k : ∀ h' : Hp, (FrC h h') → P (if a = 0 then pX (h 1 2) (h 1 0) (h 1 3) (h 20 (m.toNat + 1) + msN (h 22) 0 (m.toNat + 1) - u) (h 21 (m.toNat + 1) + msN (h 22) 1 (m.toNat + 1) - v) else pY (h 1 2) (h 1 0) (h 1 3) (h 20 (m.toNat + 1) + msN (h 22) 0 (m.toNat + 1) - u) (h 21 (m.toNat + 1) + msN (h 22) 1 (m.toNat + 1) - v)) h') : Cl d mX11_realNumber [.inr (.inr 0), .inl m, .inl u, .inl v, .inl a] h (pI P) := by
  refine Cl.of (L := [some (.inr (.inr 0)), some (.inl m), some (.inl u), some (.inl v), some (.inl a), none, none]) (by decide +kernel) (Nat.le_of_ble_eq_true rfl) rfl ?_
  obtain ⟨d, rfl⟩ : ∃ q, d = q + 1 := ⟨d - 1, by omega⟩
  have e1 : (m + 1).toNat = m.toNat + 1 := by omega
  have e2 : (min (m + 1) (h 16 0)).toNat = m.toNat + 1 := by omega
  have q1 := hq (m.toNat + 1) (by omega)
  have z0 := msN_r hs (c := 0) (by decide) (m.toNat + 1) (by omega)
  have z1 := msN_r hs (c := 1) (by decide) (m.toNat + 1) (by omega)
  rw [← e1] at q1
  refine r_aload_n dX11_realNumber_0 rfl rfl ?_
  refine r_getR dX11_realNumber_1 fl_X11_44 sh_0 rfl ?_
  refine r_getR dX11_realNumber_4 fl_X11_189 sh_16 rfl ?_
  refine r_iload_n dX11_realNumber_7 rfl rfl ?_
  refine r_iconst dX11_realNumber_8 ?_
  refine r_iadd dX11_realNumber_9 ?_
  refine r_iald dX11_realNumber_10 sh_20 (by decide) (by omega) ?_
  refine r_aload_n dX11_realNumber_11 rfl rfl ?_
  refine r_getR dX11_realNumber_12 fl_X11_44 sh_0 rfl ?_
  refine r_iload_n dX11_realNumber_15 rfl rfl ?_
  refine r_iconst dX11_realNumber_16 ?_
  refine r_callVI (av := [_, _]) (M' := mX2_missedBy) dX11_realNumber_17 vX2_missedBy ml_X11_353 sh_16 (by decide) rfl rfl rfl rfl (by simp [wtA]) (sp_X2_missedBy_16 (by omega) (by omega) (Or.inl rfl) (by omega) hs ?_)
  refine r_iadd dX11_realNumber_20 ?_
  refine r_iload_n dX11_realNumber_21 rfl rfl ?_
  refine r_isub dX11_realNumber_22 ?_
  refine r_nmI (fun l e_l => ?_)
  refine r_istore (L' := [_, _, _, _, _, _, _]) dX11_realNumber_23 rfl (by decide) rfl ?_
  refine r_aload_n dX11_realNumber_25 rfl rfl ?_
  refine r_getR dX11_realNumber_26 fl_X11_44 sh_0 rfl ?_
  refine r_getR dX11_realNumber_29 fl_X11_192 sh_16 rfl ?_
  refine r_iload_n dX11_realNumber_32 rfl rfl ?_
  refine r_iconst dX11_realNumber_33 ?_
  refine r_iadd dX11_realNumber_34 ?_
  refine r_iald dX11_realNumber_35 sh_21 (by decide) (by omega) ?_
  refine r_aload_n dX11_realNumber_36 rfl rfl ?_
  refine r_getR dX11_realNumber_37 fl_X11_44 sh_0 rfl ?_
  refine r_iload_n dX11_realNumber_40 rfl rfl ?_
  refine r_iconst dX11_realNumber_41 ?_
  refine r_callVI (av := [_, _]) (M' := mX2_missedBy) dX11_realNumber_42 vX2_missedBy ml_X11_353 sh_16 (by decide) rfl rfl rfl rfl (by simp [wtA]) (sp_X2_missedBy_16 (by omega) (by omega) (Or.inr rfl) (by omega) hs ?_)
  refine r_iadd dX11_realNumber_45 ?_
  refine r_iload_n dX11_realNumber_46 rfl rfl ?_
  refine r_isub dX11_realNumber_47 ?_
  refine r_nmI (fun r e_r => ?_)
  refine r_istore (L' := [_, _, _, _, _, _, _]) dX11_realNumber_48 rfl (by decide) rfl ?_
  rw [e2] at e_l e_r
  have e_l : l = h 20 (m + 1).toNat + msN (h 22) 0 (m.toNat + 1) - u := e_l
  have e_r : r = h 21 (m + 1).toNat + msN (h 22) 1 (m.toNat + 1) - v := e_r
  refine r_aload_n dX11_realNumber_50 rfl rfl ?_
  refine r_iload dX11_realNumber_51 rfl ?_
  refine r_iload dX11_realNumber_53 rfl ?_
  refine r_iload dX11_realNumber_55 rfl ?_
  refine r_callVI (av := [_, _, _]) (M' := mX11_placeNumber) dX11_realNumber_57 vX11_placeNumber ml_X11_218 sh_0 (by decide) rfl rfl rfl rfl (by simp [wtA]) (sp_X11_placeNumber (by omega) (by omega) (by omega) (by omega) (by omega) (fun h_57 f0_57 => ?_))
  refine r_iret dX11_realNumber_60 rfl ?_
  rw [e1] at e_l e_r
  subst e_l
  subst e_r
  exact ⟨_, rfl, k _ f0_57⟩
set_option maxRecDepth 20000 in
set_option maxHeartbeats 400000 in
theorem sp_X11_real {d : Nat} (hd : 5 ≤ d) {m a : Int} {h : Hp}  (hw : WOK h) (hm : R32 m) (ha : R32 a) (hn : 0 ≤ (h 16 0) ∧ (h 16 0) ≤ 150) (hq : LR (h 20) (h 21) (h 16 0)) (hs : ∀ j : Nat, j < 300 → -9 ≤ h 22 j ∧ h 22 j ≤ 9) {P : Int → Hp → Prop} (k : ∀ h' : Hp, (FrC h h') → P (fnReal (h 1 0) (h 1 2) (h 1 3) (h 16 0) m a (h 20) (h 21) (h 22)) h') : Cl d mX11_real [.inr (.inr 0), .inl m, .inl a] h (pI P) := by
  refine Cl.of (L := [some (.inr (.inr 0)), some (.inl m), some (.inl a)]) (by decide +kernel) (Nat.le_of_ble_eq_true rfl) rfl ?_
  obtain ⟨d, rfl⟩ : ∃ q, d = q + 1 := ⟨d - 1, by omega⟩
  refine r_aload_n dX11_real_0 rfl rfl ?_
  refine r_getR dX11_real_1 fl_X11_44 sh_0 rfl ?_
  refine r_iload_n dX11_real_4 rfl rfl ?_
  refine r_callVI (av := [_]) (M' := mX2_has) dX11_real_5 vX2_has ml_X11_164 sh_16 (by decide) rfl rfl rfl rfl (by simp [wtA]) (sp_X2_has_16 (by omega) (by omega) hn (fun b_5 => ?_) (fun b_5 => ?_))
  · refine r_if_eq (tgt := 29) dX11_real_8 rfl ⟨by decide, by decide⟩ (fun c_8 => absurd c_8 (by decide)) (fun c_8 => ?_)
    refine r_iload_n dX11_real_11 rfl rfl ?_
    refine r_callSI (av := [_]) (M' := mX11_isAxis) dX11_real_12 sX11_isAxis ml_X11_214 rfl rfl (by simp [wtA]) (sp_X11_isAxis (by omega) (by omega) (fun b_12 => ?_) (fun b_12 => ?_))
    · refine r_if_eq (tgt := 29) dX11_real_15 rfl ⟨by decide, by decide⟩ (fun c_15 => absurd c_15 (by decide)) (fun c_15 => ?_)
      refine r_aload_n dX11_real_18 rfl rfl ?_
      refine r_iload_n dX11_real_19 rfl rfl ?_
      refine r_iconst dX11_real_20 ?_
      refine r_iconst dX11_real_21 ?_
      refine r_iload_n dX11_real_22 rfl rfl ?_
      refine r_callVI (av := [_, _, _, _]) (M' := mX11_realNumber) dX11_real_23 vX11_realNumber ml_X11_251 sh_0 (by decide) rfl rfl rfl rfl (by simp [wtA]) (sp_X11_realNumber (by omega) (by omega) (by omega) (by omega) (by omega) (by omega) (by omega) hq hs (fun h_23 f0_23 => ?_))
      refine r_goto (tgt := 31) dX11_real_26 rfl ?_
      refine r_iret dX11_real_31 rfl ?_
      refine ⟨_, rfl, eqP (k _ f0_23) ?_⟩
      unfold fnReal
      rw [if_pos ⟨b_5, b_12⟩, Int.sub_zero, Int.sub_zero]
    · refine r_if_eq (tgt := 29) dX11_real_15 rfl ⟨by decide, by decide⟩ (fun c_15 => ?_) (fun c_15 => absurd c_15 (by decide))
      refine r_ldc (z := -2147483648) dX11_real_29 kc_X11_217 (by decide +kernel) ?_
      refine r_iret dX11_real_31 rfl ?_
      refine ⟨_, rfl, eqP (k h (FrC.rf hw)) ?_⟩
      unfold fnReal
      rw [if_neg (by omega)]
  · refine r_if_eq (tgt := 29) dX11_real_8 rfl ⟨by decide, by decide⟩ (fun c_8 => ?_) (fun c_8 => absurd c_8 (by decide))
    refine r_ldc (z := -2147483648) dX11_real_29 kc_X11_217 (by decide +kernel) ?_
    refine r_iret dX11_real_31 rfl ?_
    refine ⟨_, rfl, eqP (k h (FrC.rf hw)) ?_⟩
    unfold fnReal
    rw [if_neg (by omega)]
set_option maxRecDepth 20000 in
set_option maxHeartbeats 400000 in
theorem lp_moreBy {d : Nat} {P : Int → Hp → Prop} {h : Hp} {m c : Int} (hm : -1 ≤ m ∧ m < 150) (hc : c = 0 ∨ c = 1) (hr : ∀ j : Nat, j < 300 → -9 ≤ h 69 j ∧ h 69 j ≤ 9) (k : P (msN (h 69) c.toNat (m + 1).toNat) h) : ∀ (nn : Nat) (i : Nat) (s : Int), ((i : Int) ≤ m + 1) → (s = msN (h 69) c.toNat i) → 151 - i < nn → WW mX12_moreBy d (pI P) 5 [some (.inr (.inr 49)), some (.inl m), some (.inl c), some (.inl s), some (.inl (i : Int))] [] h := by
  intro nn
  induction nn with
  | zero => intro i s hi hs; intros; omega
  | succ nn ih =>
    intro i s hi hs hmu
    refine r_iload dX12_moreBy_5 rfl ?_
    refine r_iload_n dX12_moreBy_7 rfl rfl ?_
    refine r_icmp_gt (tgt := 31) dX12_moreBy_8 rfl (by omega) (by omega) (fun c_8 => ?_) (fun c_8 => ?_)
    · refine r_iload_n dX12_moreBy_31 rfl rfl ?_
      refine r_iret dX12_moreBy_32 rfl ?_
      refine ⟨_, rfl, eqP k ?_⟩
      rw [hs]
      congr 1
      omega
    · refine r_iload_n dX12_moreBy_11 rfl rfl ?_
      refine r_aload_n dX12_moreBy_12 rfl rfl ?_
      refine r_getR dX12_moreBy_13 fl_X12_88 sh_49 rfl ?_
      refine r_iconst dX12_moreBy_16 ?_
      refine r_iload dX12_moreBy_17 rfl ?_
      refine r_imul dX12_moreBy_19 ?_
      refine r_iload_n dX12_moreBy_20 rfl rfl ?_
      refine r_iadd dX12_moreBy_21 ?_
      refine r_iald dX12_moreBy_22 sh_69 (by decide) (by omega) ?_
      refine r_iadd dX12_moreBy_23 ?_
      refine r_nmI (fun x3_24 e_x3_24 => ?_)
      refine r_istore_n (L' := [_, _, _, _, _]) dX12_moreBy_24 rfl rfl (by decide) rfl ?_
      refine r_iinc (L' := [_, _, _, _, _]) dX12_moreBy_25 rfl rfl (by decide) rfl ?_
      refine r_goto (tgt := 5) dX12_moreBy_28 rfl ?_
      refine ih (i + 1) _ (by omega) ?_ (by omega)
      unfold msN at hs ⊢
      simp only [sumN]
      rw [← hs, show 2 * i + c.toNat = (2 * (i : Int) + c).toNat by omega]
      assumption
set_option maxRecDepth 20000 in
set_option maxHeartbeats 400000 in
theorem sp_X12_moreBy {d : Nat} (hd : 1 ≤ d) {m c : Int} {h : Hp}  (hm : -1 ≤ m ∧ m < 150) (hc : c = 0 ∨ c = 1) (hr : ∀ j : Nat, j < 300 → -9 ≤ h 69 j ∧ h 69 j ≤ 9) {P : Int → Hp → Prop} (k : P (msN (h 69) c.toNat (m + 1).toNat) (h)) : Cl d mX12_moreBy [.inr (.inr 49), .inl m, .inl c] h (pI P) := by
  refine Cl.of (L := [some (.inr (.inr 49)), some (.inl m), some (.inl c), none, none]) (by decide +kernel) (Nat.le_of_ble_eq_true rfl) rfl ?_
  refine r_iconst dX12_moreBy_0 ?_
  refine r_istore_n (L' := [_, _, _, _, _]) dX12_moreBy_1 rfl rfl (by decide) rfl ?_
  refine r_iconst dX12_moreBy_2 ?_
  refine r_istore (L' := [_, _, _, _, _]) dX12_moreBy_3 rfl (by decide) rfl ?_
  exact lp_moreBy hm hc hr k 152 0 0 (by omega) rfl (by omega)
set_option maxRecDepth 20000 in
set_option maxHeartbeats 400000 in
theorem sp_X12_real {d : Nat} (hd : 5 ≤ d) {m a : Int} {h : Hp}  (hw : MOK h) (hm : R32 m) (ha : R32 a) (hn : 0 ≤ (h 49 29) ∧ (h 49 29) ≤ 150) (hxy : MXY (h 49 3) (h 49 4) (h 60) (h 61) 0 (h 49 29)) (hs : ∀ j : Nat, j < 300 → -9 ≤ h 69 j ∧ h 69 j ≤ 9) {P : Int → Hp → Prop} (k : ∀ h' : Hp, (FrM h h') → P (fnReal (h 49 3) (h 49 5) (h 49 6) (h 49 29) m a (mL (h 49 5) (h 49 6) (h 60) (h 61)) (mR (h 49 3) (h 49 5) (h 49 6) (h 60) (h 61)) (h 69)) h') : Cl d mX12_real [.inr (.inr 49), .inl m, .inl a] h (pI P) := by
  refine Cl.of (L := [some (.inr (.inr 49)), some (.inl m), some (.inl a), none, none]) (by decide +kernel) (Nat.le_of_ble_eq_true rfl) rfl ?_
  obtain ⟨d, rfl⟩ : ∃ q, d = q + 1 := ⟨d - 1, by omega⟩
  refine r_aload_n dX12_real_0 rfl rfl ?_
  refine r_iconst dX12_real_1 ?_
  refine r_putI dX12_real_2 fl_X12_127 sh_49 rfl ?_
  refine r_gh (fun g eg => ?_)
  have f : FrM h g := by rw [eg]; exact FrM.rf.up rfl
  have e3 : g 49 3 = h 49 3 := f 49 3 rfl
  have e4 : g 49 4 = h 49 4 := f 49 4 rfl
  have e5 : g 49 5 = h 49 5 := f 49 5 rfl
  have e6 : g 49 6 = h 49 6 := f 49 6 rfl
  have e7 : g 49 7 = h 49 7 := f 49 7 rfl
  have e8 : g 49 8 = h 49 8 := f 49 8 rfl
  have e29 : g 49 29 = h 49 29 := f 49 29 rfl
  have ea60 : g 60 = h 60 := funext fun j => f 60 j rfl
  have ea61 : g 61 = h 61 := funext fun j => f 61 j rfl
  have ea69 : g 69 = h 69 := funext fun j => f 69 j rfl
  have k := k g f
  try simp only [← e3, ← e4, ← e5, ← e6, ← e7, ← e8, ← e29, ← ea60, ← ea61, ← ea69] at k
  have w : MOK g := by omega
  rw [← e3, ← e4, ← e29, ← ea60, ← ea61] at hxy
  rw [← ea69] at hs
  refine r_aload_n dX12_real_5 rfl rfl ?_
  refine r_iload_n dX12_real_6 rfl rfl ?_
  refine r_callVI (av := [_]) (M' := mX12_isMove) dX12_real_7 vX12_isMove ml_X12_350 sh_49 (by decide) rfl rfl rfl rfl (by simp [wtA]) (sp_X12_isMove (by omega) (by omega) (by omega) (fun b_7 => ?_) (fun b_7 => ?_))
  · refine r_if_eq (tgt := 22) dX12_real_10 rfl ⟨by decide, by decide⟩ (fun c_10 => absurd c_10 (by decide)) (fun c_10 => ?_)
    refine r_iload_n dX12_real_13 rfl rfl ?_
    refine r_iconst dX12_real_14 ?_
    refine r_iconst dX12_real_15 ?_
    refine r_callSI (av := [_, _, _]) (M' := mX12_isIn) dX12_real_16 sX12_isIn ml_X12_160 rfl rfl (by simp [wtA]) (sp_X12_isIn (by omega) (by omega) (by omega) (by omega) (fun b_16 => ?_) (fun b_16 => ?_))
    · refine r_if_ne (tgt := 25) dX12_real_19 rfl ⟨by decide, by decide⟩ (fun c_19 => ?_) (fun c_19 => absurd c_19 (by decide))
      have e1 : (m + 1).toNat = m.toNat + 1 := by omega
      have q0 := hxy (m.toNat + 1) (by omega)
      rw [Nat.zero_add, ← e1] at q0
      have q1 := (hxy.lr (K := (g 49 5)) (E := (g 49 6)) (by omega) (by omega) (by omega) (by omega)) (m.toNat + 1) (by omega)
      rw [← e1] at q1
      have z0 := msN_r hs (c := 0) (by decide) (m.toNat + 1) (by omega)
      have z1 := msN_r hs (c := 1) (by decide) (m.toNat + 1) (by omega)
      rw [← e1] at z0 z1
      refine r_aload_n dX12_real_25 rfl rfl ?_
      refine r_iload_n dX12_real_26 rfl rfl ?_
      refine r_iconst dX12_real_27 ?_
      refine r_iadd dX12_real_28 ?_
      refine r_callVI (av := [_]) (M' := mX12_leftAt) dX12_real_29 vX12_leftAt ml_X12_344 sh_49 (by decide) rfl rfl rfl rfl (by simp [wtA]) (sp_X12_leftAt (by omega) (by omega) (by omega) (by omega) (by omega) ?_)
      refine r_aload_n dX12_real_32 rfl rfl ?_
      refine r_iload_n dX12_real_33 rfl rfl ?_
      refine r_iconst dX12_real_34 ?_
      refine r_callVI (av := [_, _]) (M' := mX12_moreBy) dX12_real_35 vX12_moreBy ml_X12_391 sh_49 (by decide) rfl rfl rfl rfl (by simp [wtA]) (sp_X12_moreBy (by omega) (by omega) (Or.inl rfl) hs ?_)
      refine r_iadd dX12_real_38 ?_
      refine r_nmI (fun l e_l => ?_)
      refine r_istore_n (L' := [_, _, _, _, _]) dX12_real_39 rfl rfl (by decide) rfl ?_
      refine r_aload_n dX12_real_40 rfl rfl ?_
      refine r_iload_n dX12_real_41 rfl rfl ?_
      refine r_iconst dX12_real_42 ?_
      refine r_iadd dX12_real_43 ?_
      refine r_callVI (av := [_]) (M' := mX12_rightAt) dX12_real_44 vX12_rightAt ml_X12_347 sh_49 (by decide) rfl rfl rfl rfl (by simp [wtA]) (sp_X12_rightAt (by omega) (by omega) (by omega) (by omega) (by omega) ?_)
      refine r_aload_n dX12_real_47 rfl rfl ?_
      refine r_iload_n dX12_real_48 rfl rfl ?_
      refine r_iconst dX12_real_49 ?_
      refine r_callVI (av := [_, _]) (M' := mX12_moreBy) dX12_real_50 vX12_moreBy ml_X12_391 sh_49 (by decide) rfl rfl rfl rfl (by simp [wtA]) (sp_X12_moreBy (by omega) (by omega) (Or.inr rfl) hs ?_)
      refine r_iadd dX12_real_53 ?_
      refine r_nmI (fun r e_r => ?_)
      refine r_istore (L' := [_, _, _, _, _]) dX12_real_54 rfl (by decide) rfl ?_
      have e_l : l = mL (g 49 5) (g 49 6) (g 60) (g 61) (m + 1).toNat + msN (g 69) 0 (m + 1).toNat := e_l
      have e_r : r = mR (g 49 3) (g 49 5) (g 49 6) (g 60) (g 61) (m + 1).toNat + msN (g 69) 1 (m + 1).toNat := e_r
      refine r_iload_n dX12_real_56 rfl rfl ?_
      refine r_if_ne (tgt := 70) dX12_real_57 rfl (by omega) (fun c_57 => ?_) (fun c_57 => ?_)
      · refine r_aload_n dX12_real_70 rfl rfl ?_
        refine r_iload_n dX12_real_71 rfl rfl ?_
        refine r_iload dX12_real_72 rfl ?_
        refine r_callVI (av := [_, _]) (M' := mX12_placeY) dX12_real_74 vX12_placeY ml_X12_195 sh_49 (by decide) rfl rfl rfl rfl (by simp [wtA]) (sp_X12_placeY (by omega) (by omega) (by omega) (by omega) ?_)
        refine r_iret dX12_real_77 rfl ?_
        refine ⟨_, rfl, eqP k ?_⟩
        unfold fnReal
        rw [if_pos (by omega), ← e1, ← e_l, ← e_r]
        first | rw [if_pos (by omega)] | rw [if_neg (by omega)]
      · refine r_aload_n dX12_real_60 rfl rfl ?_
        refine r_iload_n dX12_real_61 rfl rfl ?_
        refine r_iload dX12_real_62 rfl ?_
        refine r_callVI (av := [_, _]) (M' := mX12_placeX) dX12_real_64 vX12_placeX ml_X12_156 sh_49 (by decide) rfl rfl rfl rfl (by simp [wtA]) (sp_X12_placeX (by omega) (by omega) (by omega) (by omega) ?_)
        refine r_goto (tgt := 77) dX12_real_67 rfl ?_
        refine r_iret dX12_real_77 rfl ?_
        refine ⟨_, rfl, eqP k ?_⟩
        unfold fnReal
        rw [if_pos (by omega), ← e1, ← e_l, ← e_r]
        first | rw [if_pos (by omega)] | rw [if_neg (by omega)]
    · refine r_if_ne (tgt := 25) dX12_real_19 rfl ⟨by decide, by decide⟩ (fun c_19 => absurd c_19 (by decide)) (fun c_19 => ?_)
      refine r_ldc (z := -2147483648) dX12_real_22 kc_X12_194 (by decide +kernel) ?_
      refine r_iret dX12_real_24 rfl ?_
      refine ⟨_, rfl, eqP k ?_⟩
      unfold fnReal
      rw [if_neg (by omega)]
  · refine r_if_eq (tgt := 22) dX12_real_10 rfl ⟨by decide, by decide⟩ (fun c_10 => ?_) (fun c_10 => absurd c_10 (by decide))
    refine r_ldc (z := -2147483648) dX12_real_22 kc_X12_194 (by decide +kernel) ?_
    refine r_iret dX12_real_24 rfl ?_
    refine ⟨_, rfl, eqP k ?_⟩
    unfold fnReal
    rw [if_neg (by omega)]
theorem REL.ms {h : Hp} (r : REL h) : (∀ j : Nat, j < 300 → -9 ≤ h 22 j ∧ h 22 j ≤ 9) ∧ (∀ j : Nat, j < 300 → -9 ≤ h 69 j ∧ h 69 j ≤ 9) ∧ ∀ (c n : Nat), c < 2 → n ≤ 150 → msN (h 22) c n = msN (h 69) c n := by
  have q := r.2.2.2.2.2.1
  refine ⟨fun j hj => (q j hj).2, fun j hj => by rw [(q j hj).1]; exact (q j hj).2, fun c n hc hn => sumN_congr _ (fun i hi => ((q (2 * i + c) (by omega)).1).symm)⟩
theorem pr_real {d : Nat} (hd : 20 ≤ d) {m a : Int} (hm : R32 m) (ha : R32 a) : PR d mX11_real mX12_real [.inl m, .inl a] := by
  intro h r
  refine sp_X11_real (by omega) r.1.1 hm ha ⟨r.n.1, r.n.2.1⟩ r.lr r.ms.1 (fun h1 f => ?_)
  have r1 := f.rel r
  have n1 := r1.n
  refine sp_X12_real (by omega) r1.1.2.1 hm ha (by omega) r1.mxy r1.ms.2.1 (fun h2 f2 => ⟨?_, f2.rel r1⟩)
  have q : ∀ a k, scrC a k = false → h1 a k = h a k := f.1
  rw [← q 16 0 rfl, ← q 1 0 rfl, ← q 1 2 rfl, ← q 1 3 rfl, ← (show h1 20 = h 20 from funext fun j => q 20 j rfl), ← (show h1 21 = h 21 from funext fun j => q 21 j rfl), ← (show h1 22 = h 22 from funext fun j => q 22 j rfl)]
  have w := r1.1
  unfold fnReal
  rw [n1.2.2]
  by_cases C : (0 ≤ m ∧ m < h1 16 0) ∧ (a = 0 ∨ a = 1)
  · rw [if_pos C, if_pos C]
    have t1 := r1.tk (i := m.toNat + 1) (by omega)
    rw [t1.1, t1.2.1, r1.ms.2.2 0 _ (by decide) (by omega), r1.ms.2.2 1 _ (by decide) (by omega), w.2.2.1, w.2.2.2.2.1, w.2.2.2.2.2.1]
  · rw [if_neg C, if_neg C]
