/-! CALLS THAT ASK: steps, place, grain, pull, reach -/
def PR (d : Nat) (M M' : MI) (av : List AV) : Prop := ∀ h : Hp, REL h → Cl d M (.inr (.inr 0) :: av) h (pI fun r h1 => Cl d M' (.inr (.inr 49) :: av) h1 (pI fun r2 h2 => r = r2 ∧ REL h2))
noncomputable def fnSteps (W H K E x y w : Int) : Int := if ((0 ≤ x ∧ x ≤ 100 * W) ∧ (0 ≤ y ∧ y ≤ 100 * H)) ∧ (w = 0 ∨ w = 1) then (if w = 0 then stF K E x y else stF K E (100 * W - x) y) else -1
noncomputable def fnPlace (K W E l r a : Int) : Int := if (0 ≤ l ∧ l ≤ 9999) ∧ (0 ≤ r ∧ r ≤ 9999) ∧ (a = 0 ∨ a = 1) then (if a = 0 then pX K W E l r else pY K W E l r) else -2147483648
noncomputable def dfF (K W E l r l2 r2 : Int) : Int := ((pX K W E l r - pX K W E l2 r2).natAbs : Int) + ((pY K W E l r - pY K W E l2 r2).natAbs : Int)
noncomputable def grF (K W E l r : Int) : Int := max (max (max (dfF K W E l r (l + 1) r) (dfF K W E l r (l - 1) r)) (dfF K W E l r l (r + 1))) (dfF K W E l r l (r - 1))
noncomputable def fnGrain (W H K E x y : Int) : Int := if (0 ≤ x ∧ x ≤ 100 * W) ∧ (0 ≤ y ∧ y ≤ 100 * H) then grF K W E (stF K E x y) (stF K E (100 * W - x) y) else -1
noncomputable def fnPull (W H G K E lim x y w : Int) : Int := if (0 ≤ x ∧ x ≤ W) ∧ (1 ≤ y ∧ y ≤ H) ∧ (0 ≤ w ∧ w ≤ 2) then (if w = 0 then plF G K E W x y else if w = 1 then plF G K E W (W - x) y else mayN G K E W lim x y) else -1
theorem dfF_r {K W E l r l2 r2 : Int} (hK : 2 ≤ K ∧ K ≤ 20) (hW : 20 ≤ W ∧ W ≤ 200) (hE : 0 ≤ E ∧ E ≤ 99) (hl : -20000 ≤ l ∧ l ≤ 20000) (hr : -20000 ≤ r ∧ r ≤ 20000) (hl2 : -20000 ≤ l2 ∧ l2 ≤ 20000) (hr2 : -20000 ≤ r2 ∧ r2 ≤ 20000) : 0 ≤ dfF K W E l r l2 r2 ∧ dfF K W E l r l2 r2 ≤ 700000000 := by
  have a1 := pX_r hK hW hE hl hr
  have a2 := pX_r hK hW hE hl2 hr2
  have b1 := pY_r (W := W) (r := r) hK hE hl
  have b2 := pY_r (W := W) (r := r2) hK hE hl2
  unfold dfF
  omega
set_option maxRecDepth 20000 in
set_option maxHeartbeats 400000 in
theorem sp_X11_steps {d : Nat} (hd : 5 ≤ d) {x y v : Int} {h : Hp}  (hw : WOK h) (hx : R32 x) (hy : R32 y) (hv : R32 v) {P : Int → Hp → Prop} (k : ∀ h' : Hp, (FrC h h') → P (fnSteps (h 1 0) (h 1 1) (h 1 2) (h 1 3) x y v) h') : Cl d mX11_steps [.inr (.inr 0), .inl x, .inl y, .inl v] h (pI P) := by
  refine Cl.of (L := [some (.inr (.inr 0)), some (.inl x), some (.inl y), some (.inl v)]) (by decide +kernel) (Nat.le_of_ble_eq_true rfl) rfl ?_
  obtain ⟨d, rfl⟩ : ∃ q, d = q + 1 := ⟨d - 1, by omega⟩
  refine r_aload_n dX11_steps_0 rfl rfl ?_
  refine r_getR dX11_steps_1 fl_X11_10 sh_0 rfl ?_
  refine r_iload_n dX11_steps_4 rfl rfl ?_
  refine r_iload_n dX11_steps_5 rfl rfl ?_
  refine r_callVI (av := [_, _]) (M' := mX10_holds) dX11_steps_6 vX10_holds ml_X11_200 sh_1 (by decide) rfl rfl rfl rfl (by simp [wtA]) (sp_X10_holds (by omega) (by omega) (by omega) (by omega) (fun b_6 => ?_) (fun b_6 => ?_))
  · refine r_if_eq (tgt := 19) dX11_steps_9 rfl ⟨by decide, by decide⟩ (fun c_9 => absurd c_9 (by decide)) (fun c_9 => ?_)
    refine r_iload_n dX11_steps_12 rfl rfl ?_
    refine r_callSI (av := [_]) (M' := mX11_isCord) dX11_steps_13 sX11_isCord ml_X11_204 rfl rfl (by simp [wtA]) (sp_X11_isCord (by omega) (by omega) (fun b_13 => ?_) (fun b_13 => ?_))
    · refine r_if_ne (tgt := 21) dX11_steps_16 rfl ⟨by decide, by decide⟩ (fun c_16 => ?_) (fun c_16 => absurd c_16 (by decide))
      refine r_iload_n dX11_steps_21 rfl rfl ?_
      refine r_if_ne (tgt := 39) dX11_steps_22 rfl (by omega) (fun c_22 => ?_) (fun c_22 => ?_)
      · refine r_aload_n dX11_steps_39 rfl rfl ?_
        refine r_getR dX11_steps_40 fl_X11_10 sh_0 rfl ?_
        refine r_iload_n dX11_steps_43 rfl rfl ?_
        refine r_i2l dX11_steps_44 (by omega) ?_
        refine r_iload_n dX11_steps_45 rfl rfl ?_
        refine r_i2l dX11_steps_46 (by omega) ?_
        refine r_callVI (av := [_, _]) (M' := mX10_rightSteps) dX11_steps_47 vX10_rightSteps ml_X11_211 sh_1 (by decide) rfl rfl rfl rfl (by simp [wtA]) (sp_X10_rightSteps (by omega) (by omega) (by omega) (by omega) ?_)
        refine r_iret dX11_steps_50 rfl ?_
        refine ⟨_, rfl, eqP (k h (FrC.rf hw)) ?_⟩
        unfold fnSteps
        (repeat' split) <;> first | rfl | omega
      · refine r_aload_n dX11_steps_25 rfl rfl ?_
        refine r_getR dX11_steps_26 fl_X11_10 sh_0 rfl ?_
        refine r_iload_n dX11_steps_29 rfl rfl ?_
        refine r_i2l dX11_steps_30 (by omega) ?_
        refine r_iload_n dX11_steps_31 rfl rfl ?_
        refine r_i2l dX11_steps_32 (by omega) ?_
        refine r_callVI (av := [_, _]) (M' := mX10_leftSteps) dX11_steps_33 vX10_leftSteps ml_X11_207 sh_1 (by decide) rfl rfl rfl rfl (by simp [wtA]) (sp_X10_leftSteps (by omega) (by omega) (by omega) (by omega) ?_)
        refine r_goto (tgt := 50) dX11_steps_36 rfl ?_
        refine r_iret dX11_steps_50 rfl ?_
        refine ⟨_, rfl, eqP (k h (FrC.rf hw)) ?_⟩
        unfold fnSteps
        (repeat' split) <;> first | rfl | omega
    · refine r_if_ne (tgt := 21) dX11_steps_16 rfl ⟨by decide, by decide⟩ (fun c_16 => absurd c_16 (by decide)) (fun c_16 => ?_)
      refine r_iconst dX11_steps_19 ?_
      refine r_iret dX11_steps_20 rfl ?_
      refine ⟨_, rfl, eqP (k h (FrC.rf hw)) ?_⟩
      unfold fnSteps
      (repeat' split) <;> first | rfl | omega
  · refine r_if_eq (tgt := 19) dX11_steps_9 rfl ⟨by decide, by decide⟩ (fun c_9 => ?_) (fun c_9 => absurd c_9 (by decide))
    refine r_iconst dX11_steps_19 ?_
    refine r_iret dX11_steps_20 rfl ?_
    refine ⟨_, rfl, eqP (k h (FrC.rf hw)) ?_⟩
    unfold fnSteps
    (repeat' split) <;> first | rfl | omega
set_option maxRecDepth 20000 in
set_option maxHeartbeats 400000 in
theorem sp_X12_steps {d : Nat} (hd : 5 ≤ d) {x y v : Int} {h : Hp}  (hw : MOK h) (hx : R32 x) (hy : R32 y) (hv : R32 v) {P : Int → Hp → Prop} (k : ∀ h' : Hp, (FrM h h') → P (fnSteps (h 49 3) (h 49 4) (h 49 5) (h 49 6) x y v) h') : Cl d mX12_steps [.inr (.inr 49), .inl x, .inl y, .inl v] h (pI P) := by
  refine Cl.of (L := [some (.inr (.inr 49)), some (.inl x), some (.inl y), some (.inl v)]) (by decide +kernel) (Nat.le_of_ble_eq_true rfl) rfl ?_
  obtain ⟨d, rfl⟩ : ∃ q, d = q + 1 := ⟨d - 1, by omega⟩
  refine r_aload_n dX12_steps_0 rfl rfl ?_
  refine r_iconst dX12_steps_1 ?_
  refine r_putI dX12_steps_2 fl_X12_127 sh_49 rfl ?_
  refine r_gh (fun g eg => ?_)
  have f : FrM h g := by rw [eg]; exact FrM.rf.up rfl
  have e3 : g 49 3 = h 49 3 := f 49 3 rfl
  have e4 : g 49 4 = h 49 4 := f 49 4 rfl
  have e5 : g 49 5 = h 49 5 := f 49 5 rfl
  have e6 : g 49 6 = h 49 6 := f 49 6 rfl
  have e7 : g 49 7 = h 49 7 := f 49 7 rfl
  have e8 : g 49 8 = h 49 8 := f 49 8 rfl
  have e29 : g 49 29 = h 49 29 := f 49 29 rfl
  have k := k g f
  try simp only [← e3, ← e4, ← e5, ← e6, ← e7, ← e8, ← e29] at k
  have w : MOK g := by omega
  refine r_aload_n dX12_steps_5 rfl rfl ?_
  refine r_iload_n dX12_steps_6 rfl rfl ?_
  refine r_iload_n dX12_steps_7 rfl rfl ?_
  refine r_callVI (av := [_, _]) (M' := mX12_isOnWall) dX12_steps_8 vX12_isOnWall ml_X12_184 sh_49 (by decide) rfl rfl rfl rfl (by simp [wtA]) (sp_X12_isOnWall (by omega) (by omega) (by omega) (by omega) (fun b_8 => ?_) (fun b_8 => ?_))
  · refine r_if_eq (tgt := 23) dX12_steps_11 rfl ⟨by decide, by decide⟩ (fun c_11 => absurd c_11 (by decide)) (fun c_11 => ?_)
    refine r_iload_n dX12_steps_14 rfl rfl ?_
    refine r_iconst dX12_steps_15 ?_
    refine r_iconst dX12_steps_16 ?_
    refine r_callSI (av := [_, _, _]) (M' := mX12_isIn) dX12_steps_17 sX12_isIn ml_X12_160 rfl rfl (by simp [wtA]) (sp_X12_isIn (by omega) (by omega) (by omega) (by omega) (fun b_17 => ?_) (fun b_17 => ?_))
    · refine r_if_ne (tgt := 25) dX12_steps_20 rfl ⟨by decide, by decide⟩ (fun c_20 => ?_) (fun c_20 => absurd c_20 (by decide))
      refine r_iload_n dX12_steps_25 rfl rfl ?_
      refine r_if_ne (tgt := 38) dX12_steps_26 rfl (by omega) (fun c_26 => ?_) (fun c_26 => ?_)
      · refine r_aload_n dX12_steps_38 rfl rfl ?_
        refine r_iload_n dX12_steps_39 rfl rfl ?_
        refine r_iload_n dX12_steps_40 rfl rfl ?_
        refine r_callVI (av := [_, _]) (M' := mX12_rightOf) dX12_steps_41 vX12_rightOf ml_X12_191 sh_49 (by decide) rfl rfl rfl rfl (by simp [wtA]) (sp_X12_rightOf (by omega) (by omega) (by omega) (by omega) ?_)
        refine r_iret dX12_steps_44 rfl ?_
        refine ⟨_, rfl, eqP (k) ?_⟩
        unfold fnSteps
        (repeat' split) <;> first | rfl | omega
      · refine r_aload_n dX12_steps_29 rfl rfl ?_
        refine r_iload_n dX12_steps_30 rfl rfl ?_
        refine r_iload_n dX12_steps_31 rfl rfl ?_
        refine r_callVI (av := [_, _]) (M' := mX12_leftOf) dX12_steps_32 vX12_leftOf ml_X12_188 sh_49 (by decide) rfl rfl rfl rfl (by simp [wtA]) (sp_X12_leftOf (by omega) (by omega) (by omega) (by omega) ?_)
        refine r_goto (tgt := 44) dX12_steps_35 rfl ?_
        refine r_iret dX12_steps_44 rfl ?_
        refine ⟨_, rfl, eqP (k) ?_⟩
        unfold fnSteps
        (repeat' split) <;> first | rfl | omega
    · refine r_if_ne (tgt := 25) dX12_steps_20 rfl ⟨by decide, by decide⟩ (fun c_20 => absurd c_20 (by decide)) (fun c_20 => ?_)
      refine r_iconst dX12_steps_23 ?_
      refine r_iret dX12_steps_24 rfl ?_
      refine ⟨_, rfl, eqP (k) ?_⟩
      unfold fnSteps
      (repeat' split) <;> first | rfl | omega
  · refine r_if_eq (tgt := 23) dX12_steps_11 rfl ⟨by decide, by decide⟩ (fun c_11 => ?_) (fun c_11 => absurd c_11 (by decide))
    refine r_iconst dX12_steps_23 ?_
    refine r_iret dX12_steps_24 rfl ?_
    refine ⟨_, rfl, eqP (k) ?_⟩
    unfold fnSteps
    (repeat' split) <;> first | rfl | omega
set_option maxRecDepth 20000 in
set_option maxHeartbeats 400000 in
theorem sp_X11_placeNumber {d : Nat} (hd : 3 ≤ d) {l r a : Int} {h : Hp}  (hw : WOK h) (hl : -20000 ≤ l ∧ l ≤ 20000) (hr : -20000 ≤ r ∧ r ≤ 20000) (ha : R32 a) {P : Int → Hp → Prop} (k : ∀ h' : Hp, (FrC h h') → P (if a = 0 then pX (h 1 2) (h 1 0) (h 1 3) l r else pY (h 1 2) (h 1 0) (h 1 3) l r) h') : Cl d mX11_placeNumber [.inr (.inr 0), .inl l, .inl r, .inl a] h (pI P) := by
  refine Cl.of (L := [some (.inr (.inr 0)), some (.inl l), some (.inl r), some (.inl a)]) (by decide +kernel) (Nat.le_of_ble_eq_true rfl) rfl ?_
  obtain ⟨d, rfl⟩ : ∃ q, d = q + 1 := ⟨d - 1, by omega⟩
  have g1 := pY_r (K := (h 1 2)) (W := (h 1 0)) (E := (h 1 3)) (l := l) (r := r) (by omega) (by omega) hl
  refine r_aload_n dX11_placeNumber_0 rfl rfl ?_
  refine r_getR dX11_placeNumber_1 fl_X11_10 sh_0 rfl ?_
  refine r_iload_n dX11_placeNumber_4 rfl rfl ?_
  refine r_i2l dX11_placeNumber_5 (by omega) ?_
  refine r_iload_n dX11_placeNumber_6 rfl rfl ?_
  refine r_i2l dX11_placeNumber_7 (by omega) ?_
  refine r_callVU (av := [_, _]) (M' := mX10_locate) dX11_placeNumber_8 vX10_locate ml_X11_342 sh_1 (by decide) rfl rfl rfl rfl (by simp [wtA]) (sp_X10_locate (by omega) (by omega) (by omega) (by omega) ?_)
  refine r_iload_n dX11_placeNumber_11 rfl rfl ?_
  refine r_if_ne (tgt := 25) dX11_placeNumber_12 rfl (by omega) (fun c_12 => ?_) (fun c_12 => ?_)
  · refine r_aload_n dX11_placeNumber_25 rfl rfl ?_
    refine r_getR dX11_placeNumber_26 fl_X11_10 sh_0 rfl ?_
    refine r_getJ dX11_placeNumber_29 fl_X11_350 sh_1 rfl ?_
    refine r_eqJ (up_s _ _ _ _) ?_
    refine r_l2i dX11_placeNumber_32 ?_
    refine r_iret dX11_placeNumber_33 rfl ?_
    have k := k _ (((FrC.rf hw).up (a := 1) (k := 6) (z := pX (h 1 2) (h 1 0) (h 1 3) l r) rfl (by decide)).up7 (z := pY (h 1 2) (h 1 0) (h 1 3) l r) (by omega))
    refine ⟨_, rfl, eqP k ?_⟩
    first | rw [if_pos (by omega)] | rw [if_neg (by omega)]
  · refine r_aload_n dX11_placeNumber_15 rfl rfl ?_
    refine r_getR dX11_placeNumber_16 fl_X11_10 sh_0 rfl ?_
    refine r_getJ dX11_placeNumber_19 fl_X11_346 sh_1 rfl ?_
    refine r_eqJ (((up_nk (by decide)).trans (up_s _ _ _ _))) ?_
    refine r_goto (tgt := 32) dX11_placeNumber_22 rfl ?_
    refine r_l2i dX11_placeNumber_32 ?_
    refine r_iret dX11_placeNumber_33 rfl ?_
    have k := k _ (((FrC.rf hw).up (a := 1) (k := 6) (z := pX (h 1 2) (h 1 0) (h 1 3) l r) rfl (by decide)).up7 (z := pY (h 1 2) (h 1 0) (h 1 3) l r) (by omega))
    refine ⟨_, rfl, eqP k ?_⟩
    first | rw [if_pos (by omega)] | rw [if_neg (by omega)]
set_option maxRecDepth 20000 in
set_option maxHeartbeats 400000 in
theorem sp_X11_place {d : Nat} (hd : 4 ≤ d) {l r a : Int} {h : Hp}  (hw : WOK h) (hl : R32 l) (hr : R32 r) (ha : R32 a) {P : Int → Hp → Prop} (k : ∀ h' : Hp, (FrC h h') → P (fnPlace (h 1 2) (h 1 0) (h 1 3) l r a) h') : Cl d mX11_place [.inr (.inr 0), .inl l, .inl r, .inl a] h (pI P) := by
  refine Cl.of (L := [some (.inr (.inr 0)), some (.inl l), some (.inl r), some (.inl a)]) (by decide +kernel) (Nat.le_of_ble_eq_true rfl) rfl ?_
  obtain ⟨d, rfl⟩ : ∃ q, d = q + 1 := ⟨d - 1, by omega⟩
  refine r_iload_n dX11_place_0 rfl rfl ?_
  refine r_iconst dX11_place_1 ?_
  refine r_sipush dX11_place_2 (by decide +kernel) ?_
  refine r_callSI (av := [_, _, _]) (M' := mX11_isWithin) dX11_place_5 sX11_isWithin ml_X11_116 rfl rfl (by simp [wtA]) (sp_X11_isWithin (by omega) (by omega) (by omega) (by omega) (fun b_5 => ?_) (fun b_5 => ?_))
  · refine r_if_eq (tgt := 29) dX11_place_8 rfl ⟨by decide, by decide⟩ (fun c_8 => absurd c_8 (by decide)) (fun c_8 => ?_)
    refine r_iload_n dX11_place_11 rfl rfl ?_
    refine r_iconst dX11_place_12 ?_
    refine r_sipush dX11_place_13 (by decide +kernel) ?_
    refine r_callSI (av := [_, _, _]) (M' := mX11_isWithin) dX11_place_16 sX11_isWithin ml_X11_116 rfl rfl (by simp [wtA]) (sp_X11_isWithin (by omega) (by omega) (by omega) (by omega) (fun b_16 => ?_) (fun b_16 => ?_))
    · refine r_if_eq (tgt := 29) dX11_place_19 rfl ⟨by decide, by decide⟩ (fun c_19 => absurd c_19 (by decide)) (fun c_19 => ?_)
      refine r_iload_n dX11_place_22 rfl rfl ?_
      refine r_callSI (av := [_]) (M' := mX11_isAxis) dX11_place_23 sX11_isAxis ml_X11_214 rfl rfl (by simp [wtA]) (sp_X11_isAxis (by omega) (by omega) (fun b_23 => ?_) (fun b_23 => ?_))
      · refine r_if_ne (tgt := 32) dX11_place_26 rfl ⟨by decide, by decide⟩ (fun c_26 => ?_) (fun c_26 => absurd c_26 (by decide))
        refine r_aload_n dX11_place_32 rfl rfl ?_
        refine r_iload_n dX11_place_33 rfl rfl ?_
        refine r_iload_n dX11_place_34 rfl rfl ?_
        refine r_iload_n dX11_place_35 rfl rfl ?_
        refine r_callVI (av := [_, _, _]) (M' := mX11_placeNumber) dX11_place_36 vX11_placeNumber ml_X11_218 sh_0 (by decide) rfl rfl rfl rfl (by simp [wtA]) (sp_X11_placeNumber (by omega) (by omega) (by omega) (by omega) (by omega) (fun h_36 f0_36 => ?_))
        refine r_iret dX11_place_39 rfl ?_
        refine ⟨_, rfl, eqP (k _ f0_36) ?_⟩
        unfold fnPlace
        (repeat' split) <;> first | rfl | omega
      · refine r_if_ne (tgt := 32) dX11_place_26 rfl ⟨by decide, by decide⟩ (fun c_26 => absurd c_26 (by decide)) (fun c_26 => ?_)
        refine r_ldc (z := -2147483648) dX11_place_29 kc_X11_217 (by decide +kernel) ?_
        refine r_iret dX11_place_31 rfl ?_
        refine ⟨_, rfl, eqP (k h (FrC.rf hw)) ?_⟩
        unfold fnPlace
        (repeat' split) <;> first | rfl | omega
    · refine r_if_eq (tgt := 29) dX11_place_19 rfl ⟨by decide, by decide⟩ (fun c_19 => ?_) (fun c_19 => absurd c_19 (by decide))
      refine r_ldc (z := -2147483648) dX11_place_29 kc_X11_217 (by decide +kernel) ?_
      refine r_iret dX11_place_31 rfl ?_
      refine ⟨_, rfl, eqP (k h (FrC.rf hw)) ?_⟩
      unfold fnPlace
      (repeat' split) <;> first | rfl | omega
  · refine r_if_eq (tgt := 29) dX11_place_8 rfl ⟨by decide, by decide⟩ (fun c_8 => ?_) (fun c_8 => absurd c_8 (by decide))
    refine r_ldc (z := -2147483648) dX11_place_29 kc_X11_217 (by decide +kernel) ?_
    refine r_iret dX11_place_31 rfl ?_
    refine ⟨_, rfl, eqP (k h (FrC.rf hw)) ?_⟩
    unfold fnPlace
    (repeat' split) <;> first | rfl | omega
set_option maxRecDepth 20000 in
set_option maxHeartbeats 400000 in
theorem sp_X12_place {d : Nat} (hd : 4 ≤ d) {l r a : Int} {h : Hp}  (hw : MOK h) (hl : R32 l) (hr : R32 r) (ha : R32 a) {P : Int → Hp → Prop} (k : ∀ h' : Hp, (FrM h h') → P (fnPlace (h 49 5) (h 49 3) (h 49 6) l r a) h') : Cl d mX12_place [.inr (.inr 49), .inl l, .inl r, .inl a] h (pI P) := by
  refine Cl.of (L := [some (.inr (.inr 49)), some (.inl l), some (.inl r), some (.inl a)]) (by decide +kernel) (Nat.le_of_ble_eq_true rfl) rfl ?_
  obtain ⟨d, rfl⟩ : ∃ q, d = q + 1 := ⟨d - 1, by omega⟩
  refine r_aload_n dX12_place_0 rfl rfl ?_
  refine r_iconst dX12_place_1 ?_
  refine r_putI dX12_place_2 fl_X12_127 sh_49 rfl ?_
  refine r_gh (fun g eg => ?_)
  have f : FrM h g := by rw [eg]; exact FrM.rf.up rfl
  have e3 : g 49 3 = h 49 3 := f 49 3 rfl
  have e4 : g 49 4 = h 49 4 := f 49 4 rfl
  have e5 : g 49 5 = h 49 5 := f 49 5 rfl
  have e6 : g 49 6 = h 49 6 := f 49 6 rfl
  have e7 : g 49 7 = h 49 7 := f 49 7 rfl
  have e8 : g 49 8 = h 49 8 := f 49 8 rfl
  have e29 : g 49 29 = h 49 29 := f 49 29 rfl
  have k := k g f
  try simp only [← e3, ← e4, ← e5, ← e6, ← e7, ← e8, ← e29] at k
  have w : MOK g := by omega
  refine r_iload_n dX12_place_5 rfl rfl ?_
  refine r_iconst dX12_place_6 ?_
  refine r_sipush dX12_place_7 (by decide +kernel) ?_
  refine r_callSI (av := [_, _, _]) (M' := mX12_isIn) dX12_place_10 sX12_isIn ml_X12_160 rfl rfl (by simp [wtA]) (sp_X12_isIn (by omega) (by omega) (by omega) (by omega) (fun b_10 => ?_) (fun b_10 => ?_))
  · refine r_if_eq (tgt := 36) dX12_place_13 rfl ⟨by decide, by decide⟩ (fun c_13 => absurd c_13 (by decide)) (fun c_13 => ?_)
    refine r_iload_n dX12_place_16 rfl rfl ?_
    refine r_iconst dX12_place_17 ?_
    refine r_sipush dX12_place_18 (by decide +kernel) ?_
    refine r_callSI (av := [_, _, _]) (M' := mX12_isIn) dX12_place_21 sX12_isIn ml_X12_160 rfl rfl (by simp [wtA]) (sp_X12_isIn (by omega) (by omega) (by omega) (by omega) (fun b_21 => ?_) (fun b_21 => ?_))
    · refine r_if_eq (tgt := 36) dX12_place_24 rfl ⟨by decide, by decide⟩ (fun c_24 => absurd c_24 (by decide)) (fun c_24 => ?_)
      refine r_iload_n dX12_place_27 rfl rfl ?_
      refine r_iconst dX12_place_28 ?_
      refine r_iconst dX12_place_29 ?_
      refine r_callSI (av := [_, _, _]) (M' := mX12_isIn) dX12_place_30 sX12_isIn ml_X12_160 rfl rfl (by simp [wtA]) (sp_X12_isIn (by omega) (by omega) (by omega) (by omega) (fun b_30 => ?_) (fun b_30 => ?_))
      · refine r_if_ne (tgt := 39) dX12_place_33 rfl ⟨by decide, by decide⟩ (fun c_33 => ?_) (fun c_33 => absurd c_33 (by decide))
        refine r_iload_n dX12_place_39 rfl rfl ?_
        refine r_if_ne (tgt := 52) dX12_place_40 rfl (by omega) (fun c_40 => ?_) (fun c_40 => ?_)
        · refine r_aload_n dX12_place_52 rfl rfl ?_
          refine r_iload_n dX12_place_53 rfl rfl ?_
          refine r_iload_n dX12_place_54 rfl rfl ?_
          refine r_callVI (av := [_, _]) (M' := mX12_placeY) dX12_place_55 vX12_placeY ml_X12_195 sh_49 (by decide) rfl rfl rfl rfl (by simp [wtA]) (sp_X12_placeY (by omega) (by omega) (by omega) (by omega) ?_)
          refine r_iret dX12_place_58 rfl ?_
          refine ⟨_, rfl, eqP (k) ?_⟩
          unfold fnPlace
          (repeat' split) <;> first | rfl | omega
        · refine r_aload_n dX12_place_43 rfl rfl ?_
          refine r_iload_n dX12_place_44 rfl rfl ?_
          refine r_iload_n dX12_place_45 rfl rfl ?_
          refine r_callVI (av := [_, _]) (M' := mX12_placeX) dX12_place_46 vX12_placeX ml_X12_156 sh_49 (by decide) rfl rfl rfl rfl (by simp [wtA]) (sp_X12_placeX (by omega) (by omega) (by omega) (by omega) ?_)
          refine r_goto (tgt := 58) dX12_place_49 rfl ?_
          refine r_iret dX12_place_58 rfl ?_
          refine ⟨_, rfl, eqP (k) ?_⟩
          unfold fnPlace
          (repeat' split) <;> first | rfl | omega
      · refine r_if_ne (tgt := 39) dX12_place_33 rfl ⟨by decide, by decide⟩ (fun c_33 => absurd c_33 (by decide)) (fun c_33 => ?_)
        refine r_ldc (z := -2147483648) dX12_place_36 kc_X12_194 (by decide +kernel) ?_
        refine r_iret dX12_place_38 rfl ?_
        refine ⟨_, rfl, eqP (k) ?_⟩
        unfold fnPlace
        (repeat' split) <;> first | rfl | omega
    · refine r_if_eq (tgt := 36) dX12_place_24 rfl ⟨by decide, by decide⟩ (fun c_24 => ?_) (fun c_24 => absurd c_24 (by decide))
      refine r_ldc (z := -2147483648) dX12_place_36 kc_X12_194 (by decide +kernel) ?_
      refine r_iret dX12_place_38 rfl ?_
      refine ⟨_, rfl, eqP (k) ?_⟩
      unfold fnPlace
      (repeat' split) <;> first | rfl | omega
  · refine r_if_eq (tgt := 36) dX12_place_13 rfl ⟨by decide, by decide⟩ (fun c_13 => ?_) (fun c_13 => absurd c_13 (by decide))
    refine r_ldc (z := -2147483648) dX12_place_36 kc_X12_194 (by decide +kernel) ?_
    refine r_iret dX12_place_38 rfl ?_
    refine ⟨_, rfl, eqP (k) ?_⟩
    unfold fnPlace
    (repeat' split) <;> first | rfl | omega
set_option maxRecDepth 20000 in
set_option maxHeartbeats 400000 in
theorem sp_X10_awayFrom {d : Nat} (hd : 3 ≤ d) {fx fy l r : Int} {h : Hp}  (hw : WOK h) (hfx : -300000000 ≤ fx ∧ fx ≤ 300000000) (hfy : 0 ≤ fy ∧ fy ≤ 2019800) (hl : -20000 ≤ l ∧ l ≤ 20000) (hr : -20000 ≤ r ∧ r ≤ 20000) {P : Int → Hp → Prop} (k : ∀ h' : Hp, (FrC h h') → P (((fx - pX (h 1 2) (h 1 0) (h 1 3) l r).natAbs : Int) + ((fy - pY (h 1 2) (h 1 0) (h 1 3) l r).natAbs : Int)) h') : Cl d mX10_awayFrom [.inr (.inr 1), .inr (.inl fx), .inr (.inl fy), .inl l, .inl r] h (pJ P) := by
  refine Cl.of (L := [some (.inr (.inr 1)), some (.inr (.inl fx)), none, some (.inr (.inl fy)), none, some (.inl l), some (.inl r)]) (by decide +kernel) (Nat.le_of_ble_eq_true rfl) rfl ?_
  obtain ⟨d, rfl⟩ : ∃ q, d = q + 1 := ⟨d - 1, by omega⟩
  have g1 := pX_r (K := (h 1 2)) (W := (h 1 0)) (E := (h 1 3)) (l := l) (r := r) (by omega) (by omega) (by omega) hl hr
  have g2 := pY_r (K := (h 1 2)) (W := (h 1 0)) (E := (h 1 3)) (l := l) (r := r) (by omega) (by omega) hl
  refine r_aload_n dX10_awayFrom_0 rfl rfl ?_
  refine r_iload dX10_awayFrom_1 rfl ?_
  refine r_i2l dX10_awayFrom_3 (by omega) ?_
  refine r_iload dX10_awayFrom_4 rfl ?_
  refine r_i2l dX10_awayFrom_6 (by omega) ?_
  refine r_callVU (av := [_, _]) (M' := mX10_locate) dX10_awayFrom_7 vX10_locate ml_X10_65 sh_1 (by decide) rfl rfl rfl rfl (by simp [wtA]) (sp_X10_locate (by omega) (by omega) (by omega) (by omega) ?_)
  refine r_aload_n dX10_awayFrom_10 rfl rfl ?_
  refine r_getJ dX10_awayFrom_11 fl_X10_30 sh_1 rfl ?_
  refine r_eqJ (((up_nk (by decide)).trans (up_s _ _ _ _))) ?_
  refine r_lload_n dX10_awayFrom_14 rfl rfl ?_
  refine r_lsub dX10_awayFrom_15 ?_
  refine r_callNJ (av := [_]) (M' := mX11_sizeOf) dX10_awayFrom_16 sX11_sizeOf mn_X10_78 rfl rfl (by simp [wtA]) (sp_X11_sizeOf (by omega) (by omega) ?_)
  refine r_aload_n dX10_awayFrom_19 rfl rfl ?_
  refine r_getJ dX10_awayFrom_20 fl_X10_34 sh_1 rfl ?_
  refine r_eqJ (up_s _ _ _ _) ?_
  refine r_lload_n dX10_awayFrom_23 rfl rfl ?_
  refine r_lsub dX10_awayFrom_24 ?_
  refine r_callNJ (av := [_]) (M' := mX11_sizeOf) dX10_awayFrom_25 sX11_sizeOf mn_X10_78 rfl rfl (by simp [wtA]) (sp_X11_sizeOf (by omega) (by omega) ?_)
  refine r_ladd dX10_awayFrom_28 ?_
  refine r_lret dX10_awayFrom_29 rfl ?_
  have k := k _ (((FrC.rf hw).up (a := 1) (k := 6) (z := pX (h 1 2) (h 1 0) (h 1 3) l r) rfl (by decide)).up7 (z := pY (h 1 2) (h 1 0) (h 1 3) l r) (by omega))
  exact ⟨_, rfl, eqP k (by omega)⟩
set_option maxRecDepth 20000 in
set_option maxHeartbeats 400000 in
theorem sp_X10_grainAt {d : Nat} (hd : 4 ≤ d) {x y : Int} {h : Hp}  (hw : WOK h) (hx : 0 ≤ x ∧ x ≤ 100 * (h 1 0)) (hy : 0 ≤ y ∧ y ≤ 100 * (h 1 1)) {P : Int → Hp → Prop} (k : ∀ h' : Hp, (FrC h h') → P (grF (h 1 2) (h 1 0) (h 1 3) (stF (h 1 2) (h 1 3) x y) (stF (h 1 2) (h 1 3) (100 * (h 1 0) - x) y)) h') : Cl d mX10_grainAt [.inr (.inr 1), .inl x, .inl y] h (pI P) := by
  refine Cl.of (L := [some (.inr (.inr 1)), some (.inl x), some (.inl y), none, none, none, none, none, none, none, none]) (by decide +kernel) (Nat.le_of_ble_eq_true rfl) rfl ?_
  obtain ⟨d, rfl⟩ : ∃ q, d = q + 1 := ⟨d - 1, by omega⟩
  have s1 := stF_r (K := (h 1 2)) (E := (h 1 3)) (x := x) (y := y) (by omega) (by omega) (by omega) (by omega)
  have s2 := stF_r (K := (h 1 2)) (E := (h 1 3)) (x := 100 * (h 1 0) - x) (y := y) (by omega) (by omega) (by omega) (by omega)
  refine r_aload_n dX10_grainAt_0 rfl rfl ?_
  refine r_iload_n dX10_grainAt_1 rfl rfl ?_
  refine r_i2l dX10_grainAt_2 (by omega) ?_
  refine r_iload_n dX10_grainAt_3 rfl rfl ?_
  refine r_i2l dX10_grainAt_4 (by omega) ?_
  refine r_callVI (av := [_, _]) (M' := mX10_leftSteps) dX10_grainAt_5 vX10_leftSteps ml_X10_52 sh_1 (by decide) rfl rfl rfl rfl (by simp [wtA]) (sp_X10_leftSteps (by omega) (by omega) (by omega) (by omega) ?_)
  refine r_nmI (fun l e_l => ?_)
  refine r_istore_n (L' := [_, _, _, _, _, _, _, _, _, _, _]) dX10_grainAt_8 rfl rfl (by decide) rfl ?_
  refine r_aload_n dX10_grainAt_9 rfl rfl ?_
  refine r_iload_n dX10_grainAt_10 rfl rfl ?_
  refine r_i2l dX10_grainAt_11 (by omega) ?_
  refine r_iload_n dX10_grainAt_12 rfl rfl ?_
  refine r_i2l dX10_grainAt_13 (by omega) ?_
  refine r_callVI (av := [_, _]) (M' := mX10_rightSteps) dX10_grainAt_14 vX10_rightSteps ml_X10_62 sh_1 (by decide) rfl rfl rfl rfl (by simp [wtA]) (sp_X10_rightSteps (by omega) (by omega) (by omega) (by omega) ?_)
  refine r_nmI (fun r e_r => ?_)
  refine r_istore (L' := [_, _, _, _, _, _, _, _, _, _, _]) dX10_grainAt_17 rfl (by decide) rfl ?_
  refine r_aload_n dX10_grainAt_19 rfl rfl ?_
  refine r_iload_n dX10_grainAt_20 rfl rfl ?_
  refine r_i2l dX10_grainAt_21 (by omega) ?_
  refine r_iload dX10_grainAt_22 rfl ?_
  refine r_i2l dX10_grainAt_24 (by omega) ?_
  refine r_callVU (av := [_, _]) (M' := mX10_locate) dX10_grainAt_25 vX10_locate ml_X10_65 sh_1 (by decide) rfl rfl rfl rfl (by simp [wtA]) (sp_X10_locate (by omega) (by omega) (by omega) (by omega) ?_)
  have g1 := pX_r (K := (h 1 2)) (W := (h 1 0)) (E := (h 1 3)) (l := l) (r := r) (by omega) (by omega) (by omega) (by omega) (by omega)
  have g2 := pY_r (K := (h 1 2)) (W := (h 1 0)) (E := (h 1 3)) (l := l) (r := r) (by omega) (by omega) (by omega)
  have d1 := dfF_r (K := (h 1 2)) (W := (h 1 0)) (E := (h 1 3)) (l := l) (r := r) (l2 := l + 1) (r2 := r) (by omega) (by omega) (by omega) (by omega) (by omega) (by omega) (by omega)
  have d2 := dfF_r (K := (h 1 2)) (W := (h 1 0)) (E := (h 1 3)) (l := l) (r := r) (l2 := l - 1) (r2 := r) (by omega) (by omega) (by omega) (by omega) (by omega) (by omega) (by omega)
  have d3 := dfF_r (K := (h 1 2)) (W := (h 1 0)) (E := (h 1 3)) (l := l) (r := r) (l2 := l) (r2 := r + 1) (by omega) (by omega) (by omega) (by omega) (by omega) (by omega) (by omega)
  have d4 := dfF_r (K := (h 1 2)) (W := (h 1 0)) (E := (h 1 3)) (l := l) (r := r) (l2 := l) (r2 := r - 1) (by omega) (by omega) (by omega) (by omega) (by omega) (by omega) (by omega)
  refine r_gh (fun g eg => ?_)
  have f : FrC h g := by rw [eg]; exact ((FrC.rf hw).up (a := 1) (k := 6) rfl (by decide)).up7 (by omega)
  have z6 : g 1 6 = pX (h 1 2) (h 1 0) (h 1 3) l r := by rw [eg]; rfl
  have z7 : g 1 7 = pY (h 1 2) (h 1 0) (h 1 3) l r := by rw [eg]; rfl
  have q0 := f.1 1 0 rfl
  have q1 := f.1 1 1 rfl
  have q2 := f.1 1 2 rfl
  have q3 := f.1 1 3 rfl
  have q4 := f.1 1 4 rfl
  have q5 := f.1 1 5 rfl
  clear eg
  refine r_aload_n dX10_grainAt_28 rfl rfl ?_
  refine r_getJ dX10_grainAt_29 fl_X10_30 sh_1 rfl ?_
  refine r_eqJ z6 ?_
  refine r_lstore (L' := [_, _, _, _, _, _, _, _, _, _, _]) dX10_grainAt_32 rfl (by decide) rfl ?_
  refine r_aload_n dX10_grainAt_34 rfl rfl ?_
  refine r_getJ dX10_grainAt_35 fl_X10_34 sh_1 rfl ?_
  refine r_eqJ z7 ?_
  refine r_lstore (L' := [_, _, _, _, _, _, _, _, _, _, _]) dX10_grainAt_38 rfl (by decide) rfl ?_
  refine r_aload_n dX10_grainAt_40 rfl rfl ?_
  refine r_lload dX10_grainAt_41 rfl ?_
  refine r_lload dX10_grainAt_43 rfl ?_
  refine r_iload_n dX10_grainAt_45 rfl rfl ?_
  refine r_iconst dX10_grainAt_46 ?_
  refine r_iadd dX10_grainAt_47 ?_
  refine r_iload dX10_grainAt_48 rfl ?_
  refine r_callVJ (av := [_, _, _, _]) (M' := mX10_awayFrom) dX10_grainAt_50 vX10_awayFrom ml_X10_69 sh_1 (by decide) rfl rfl rfl rfl (by simp [wtA]) (sp_X10_awayFrom (by omega) (by omega) (by omega) (by omega) (by omega) (by omega) (fun h_50 f0_50 => ?_))
  rw [q0, q2, q3]
  refine r_eqJ (show _ = dfF (h 1 2) (h 1 0) (h 1 3) l r (l + 1) r from rfl) ?_
  have f2 := f.tr f0_50
  have u0 := f2.1 1 0 rfl
  have u1 := f2.1 1 1 rfl
  have u2 := f2.1 1 2 rfl
  have u3 := f2.1 1 3 rfl
  have u4 := f2.1 1 4 rfl
  have u5 := f2.1 1 5 rfl
  have u7 := f2.2
  refine r_lstore (L' := [_, _, _, _, _, _, _, _, _, _, _]) dX10_grainAt_53 rfl (by decide) rfl ?_
  refine r_lload dX10_grainAt_55 rfl ?_
  refine r_aload_n dX10_grainAt_57 rfl rfl ?_
  refine r_lload dX10_grainAt_58 rfl ?_
  refine r_lload dX10_grainAt_60 rfl ?_
  refine r_iload_n dX10_grainAt_62 rfl rfl ?_
  refine r_iconst dX10_grainAt_63 ?_
  refine r_isub dX10_grainAt_64 ?_
  refine r_iload dX10_grainAt_65 rfl ?_
  refine r_callVJ (av := [_, _, _, _]) (M' := mX10_awayFrom) dX10_grainAt_67 vX10_awayFrom ml_X10_69 sh_1 (by decide) rfl rfl rfl rfl (by simp [wtA]) (sp_X10_awayFrom (by omega) (by omega) (by omega) (by omega) (by omega) (by omega) (fun h_67 f0_67 => ?_))
  rw [u0, u2, u3]
  refine r_eqJ (show _ = dfF (h 1 2) (h 1 0) (h 1 3) l r (l - 1) r from rfl) ?_
  have f3 := f2.tr f0_67
  have v0 := f3.1 1 0 rfl
  have v1 := f3.1 1 1 rfl
  have v2 := f3.1 1 2 rfl
  have v3 := f3.1 1 3 rfl
  have v4 := f3.1 1 4 rfl
  have v5 := f3.1 1 5 rfl
  have v7 := f3.2
  refine r_mmax_long (by omega) (by omega) dX10_grainAt_70 ml_X10_73 (by simp [wtA]) ?_
  refine r_lstore (L' := [_, _, _, _, _, _, _, _, _, _, _]) dX10_grainAt_73 rfl (by decide) rfl ?_
  refine r_lload dX10_grainAt_75 rfl ?_
  refine r_aload_n dX10_grainAt_77 rfl rfl ?_
  refine r_lload dX10_grainAt_78 rfl ?_
  refine r_lload dX10_grainAt_80 rfl ?_
  refine r_iload_n dX10_grainAt_82 rfl rfl ?_
  refine r_iload dX10_grainAt_83 rfl ?_
  refine r_iconst dX10_grainAt_85 ?_
  refine r_iadd dX10_grainAt_86 ?_
  refine r_callVJ (av := [_, _, _, _]) (M' := mX10_awayFrom) dX10_grainAt_87 vX10_awayFrom ml_X10_69 sh_1 (by decide) rfl rfl rfl rfl (by simp [wtA]) (sp_X10_awayFrom (by omega) (by omega) (by omega) (by omega) (by omega) (by omega) (fun h_87 f0_87 => ?_))
  rw [v0, v2, v3]
  refine r_eqJ (show _ = dfF (h 1 2) (h 1 0) (h 1 3) l r l (r + 1) from rfl) ?_
  have f4 := f3.tr f0_87
  have t0 := f4.1 1 0 rfl
  have t1 := f4.1 1 1 rfl
  have t2 := f4.1 1 2 rfl
  have t3 := f4.1 1 3 rfl
  have t4 := f4.1 1 4 rfl
  have t5 := f4.1 1 5 rfl
  have t7 := f4.2
  refine r_mmax_long (by omega) (by omega) dX10_grainAt_90 ml_X10_73 (by simp [wtA]) ?_
  refine r_lstore (L' := [_, _, _, _, _, _, _, _, _, _, _]) dX10_grainAt_93 rfl (by decide) rfl ?_
  refine r_lload dX10_grainAt_95 rfl ?_
  refine r_aload_n dX10_grainAt_97 rfl rfl ?_
  refine r_lload dX10_grainAt_98 rfl ?_
  refine r_lload dX10_grainAt_100 rfl ?_
  refine r_iload_n dX10_grainAt_102 rfl rfl ?_
  refine r_iload dX10_grainAt_103 rfl ?_
  refine r_iconst dX10_grainAt_105 ?_
  refine r_isub dX10_grainAt_106 ?_
  refine r_callVJ (av := [_, _, _, _]) (M' := mX10_awayFrom) dX10_grainAt_107 vX10_awayFrom ml_X10_69 sh_1 (by decide) rfl rfl rfl rfl (by simp [wtA]) (sp_X10_awayFrom (by omega) (by omega) (by omega) (by omega) (by omega) (by omega) (fun h_107 f0_107 => ?_))
  rw [t0, t2, t3]
  refine r_eqJ (show _ = dfF (h 1 2) (h 1 0) (h 1 3) l r l (r - 1) from rfl) ?_
  have f5 := f4.tr f0_107
  refine r_mmax_long (by omega) (by omega) dX10_grainAt_110 ml_X10_73 (by simp [wtA]) ?_
  refine r_l2i dX10_grainAt_113 ?_
  refine r_iret dX10_grainAt_114 rfl ?_
  have k := k _ f5
  subst e_l
  subst e_r
  exact ⟨_, rfl, k⟩
set_option maxRecDepth 20000 in
set_option maxHeartbeats 400000 in
theorem sp_X11_grain {d : Nat} (hd : 5 ≤ d) {x y : Int} {h : Hp}  (hw : WOK h) (hx : R32 x) (hy : R32 y) {P : Int → Hp → Prop} (k : ∀ h' : Hp, (FrC h h') → P (fnGrain (h 1 0) (h 1 1) (h 1 2) (h 1 3) x y) h') : Cl d mX11_grain [.inr (.inr 0), .inl x, .inl y] h (pI P) := by
  refine Cl.of (L := [some (.inr (.inr 0)), some (.inl x), some (.inl y)]) (by decide +kernel) (Nat.le_of_ble_eq_true rfl) rfl ?_
  obtain ⟨d, rfl⟩ : ∃ q, d = q + 1 := ⟨d - 1, by omega⟩
  refine r_aload_n dX11_grain_0 rfl rfl ?_
  refine r_getR dX11_grain_1 fl_X11_10 sh_0 rfl ?_
  refine r_iload_n dX11_grain_4 rfl rfl ?_
  refine r_iload_n dX11_grain_5 rfl rfl ?_
  refine r_callVI (av := [_, _]) (M' := mX10_holds) dX11_grain_6 vX10_holds ml_X11_200 sh_1 (by decide) rfl rfl rfl rfl (by simp [wtA]) (sp_X10_holds (by omega) (by omega) (by omega) (by omega) (fun b_6 => ?_) (fun b_6 => ?_))
  · refine r_if_eq (tgt := 24) dX11_grain_9 rfl ⟨by decide, by decide⟩ (fun c_9 => absurd c_9 (by decide)) (fun c_9 => ?_)
    refine r_aload_n dX11_grain_12 rfl rfl ?_
    refine r_getR dX11_grain_13 fl_X11_10 sh_0 rfl ?_
    refine r_iload_n dX11_grain_16 rfl rfl ?_
    refine r_iload_n dX11_grain_17 rfl rfl ?_
    refine r_callVI (av := [_, _]) (M' := mX10_grainAt) dX11_grain_18 vX10_grainAt ml_X11_222 sh_1 (by decide) rfl rfl rfl rfl (by simp [wtA]) (sp_X10_grainAt (by omega) (by omega) (by omega) (by omega) (fun h_18 f0_18 => ?_))
    refine r_goto (tgt := 25) dX11_grain_21 rfl ?_
    refine r_iret dX11_grain_25 rfl ?_
    refine ⟨_, rfl, eqP (k _ f0_18) ?_⟩
    unfold fnGrain
    (repeat' split) <;> first | rfl | omega
  · refine r_if_eq (tgt := 24) dX11_grain_9 rfl ⟨by decide, by decide⟩ (fun c_9 => ?_) (fun c_9 => absurd c_9 (by decide))
    refine r_iconst dX11_grain_24 ?_
    refine r_iret dX11_grain_25 rfl ?_
    refine ⟨_, rfl, eqP (k h (FrC.rf hw)) ?_⟩
    unfold fnGrain
    (repeat' split) <;> first | rfl | omega
set_option maxRecDepth 20000 in
set_option maxHeartbeats 400000 in
theorem sp_X12_differs {d : Nat} (hd : 4 ≤ d) {l r l2 r2 : Int} {h : Hp}  (hw : MOK h) (hl : -20000 ≤ l ∧ l ≤ 20000) (hr : -20000 ≤ r ∧ r ≤ 20000) (hl2 : -20000 ≤ l2 ∧ l2 ≤ 20000) (hr2 : -20000 ≤ r2 ∧ r2 ≤ 20000) {P : Int → Hp → Prop} (k : P (dfF (h 49 5) (h 49 3) (h 49 6) l r l2 r2) (h)) : Cl d mX12_differs [.inr (.inr 49), .inl l, .inl r, .inl l2, .inl r2] h (pI P) := by
  refine Cl.of (L := [some (.inr (.inr 49)), some (.inl l), some (.inl r), some (.inl l2), some (.inl r2)]) (by decide +kernel) (Nat.le_of_ble_eq_true rfl) rfl ?_
  obtain ⟨d, rfl⟩ : ∃ q, d = q + 1 := ⟨d - 1, by omega⟩
  have a1 := pX_r (K := (h 49 5)) (W := (h 49 3)) (E := (h 49 6)) (by omega) (by omega) (by omega) hl hr
  have a2 := pX_r (K := (h 49 5)) (W := (h 49 3)) (E := (h 49 6)) (by omega) (by omega) (by omega) hl2 hr2
  have b1 := pY_r (K := (h 49 5)) (W := (h 49 3)) (E := (h 49 6)) (r := r) (by omega) (by omega) hl
  have b2 := pY_r (K := (h 49 5)) (W := (h 49 3)) (E := (h 49 6)) (r := r2) (by omega) (by omega) hl2
  refine r_aload_n dX12_differs_0 rfl rfl ?_
  refine r_iload_n dX12_differs_1 rfl rfl ?_
  refine r_iload_n dX12_differs_2 rfl rfl ?_
  refine r_callVI (av := [_, _]) (M' := mX12_placeX) dX12_differs_3 vX12_placeX ml_X12_156 sh_49 (by decide) rfl rfl rfl rfl (by simp [wtA]) (sp_X12_placeX (by omega) (by omega) (by omega) (by omega) ?_)
  refine r_aload_n dX12_differs_6 rfl rfl ?_
  refine r_iload_n dX12_differs_7 rfl rfl ?_
  refine r_iload dX12_differs_8 rfl ?_
  refine r_callVI (av := [_, _]) (M' := mX12_placeX) dX12_differs_10 vX12_placeX ml_X12_156 sh_49 (by decide) rfl rfl rfl rfl (by simp [wtA]) (sp_X12_placeX (by omega) (by omega) (by omega) (by omega) ?_)
  refine r_isub dX12_differs_13 ?_
  refine r_callSI (av := [_]) (M' := mX12_sizeOf) dX12_differs_14 sX12_sizeOf ml_X12_198 rfl rfl (by simp [wtA]) (sp_X12_sizeOf (by omega) (by omega) ?_)
  refine r_aload_n dX12_differs_17 rfl rfl ?_
  refine r_iload_n dX12_differs_18 rfl rfl ?_
  refine r_iload_n dX12_differs_19 rfl rfl ?_
  refine r_callVI (av := [_, _]) (M' := mX12_placeY) dX12_differs_20 vX12_placeY ml_X12_195 sh_49 (by decide) rfl rfl rfl rfl (by simp [wtA]) (sp_X12_placeY (by omega) (by omega) (by omega) (by omega) ?_)
  refine r_aload_n dX12_differs_23 rfl rfl ?_
  refine r_iload_n dX12_differs_24 rfl rfl ?_
  refine r_iload dX12_differs_25 rfl ?_
  refine r_callVI (av := [_, _]) (M' := mX12_placeY) dX12_differs_27 vX12_placeY ml_X12_195 sh_49 (by decide) rfl rfl rfl rfl (by simp [wtA]) (sp_X12_placeY (by omega) (by omega) (by omega) (by omega) ?_)
  refine r_isub dX12_differs_30 ?_
  refine r_callSI (av := [_]) (M' := mX12_sizeOf) dX12_differs_31 sX12_sizeOf ml_X12_198 rfl rfl (by simp [wtA]) (sp_X12_sizeOf (by omega) (by omega) ?_)
  refine r_iadd dX12_differs_34 ?_
  refine r_iret dX12_differs_35 rfl ?_
  exact ⟨_, rfl, k⟩
set_option maxRecDepth 20000 in
set_option maxHeartbeats 400000 in
theorem sp_X12_grain {d : Nat} (hd : 5 ≤ d) {x y : Int} {h : Hp}  (hw : MOK h) (hx : R32 x) (hy : R32 y) {P : Int → Hp → Prop} (k : ∀ h' : Hp, (FrM h h') → P (fnGrain (h 49 3) (h 49 4) (h 49 5) (h 49 6) x y) h') : Cl d mX12_grain [.inr (.inr 49), .inl x, .inl y] h (pI P) := by
  refine Cl.of (L := [some (.inr (.inr 49)), some (.inl x), some (.inl y), none, none, none, none, none, none]) (by decide +kernel) (Nat.le_of_ble_eq_true rfl) rfl ?_
  obtain ⟨d, rfl⟩ : ∃ q, d = q + 1 := ⟨d - 1, by omega⟩
  refine r_aload_n dX12_grain_0 rfl rfl ?_
  refine r_iconst dX12_grain_1 ?_
  refine r_putI dX12_grain_2 fl_X12_127 sh_49 rfl ?_
  refine r_gh (fun g eg => ?_)
  have f : FrM h g := by rw [eg]; exact FrM.rf.up rfl
  have e3 : g 49 3 = h 49 3 := f 49 3 rfl
  have e4 : g 49 4 = h 49 4 := f 49 4 rfl
  have e5 : g 49 5 = h 49 5 := f 49 5 rfl
  have e6 : g 49 6 = h 49 6 := f 49 6 rfl
  have e7 : g 49 7 = h 49 7 := f 49 7 rfl
  have e8 : g 49 8 = h 49 8 := f 49 8 rfl
  have e29 : g 49 29 = h 49 29 := f 49 29 rfl
  have k := k g f
  try simp only [← e3, ← e4, ← e5, ← e6, ← e7, ← e8, ← e29] at k
  have w : MOK g := by omega
  refine r_aload_n dX12_grain_5 rfl rfl ?_
  refine r_iload_n dX12_grain_6 rfl rfl ?_
  refine r_iload_n dX12_grain_7 rfl rfl ?_
  refine r_callVI (av := [_, _]) (M' := mX12_isOnWall) dX12_grain_8 vX12_isOnWall ml_X12_184 sh_49 (by decide) rfl rfl rfl rfl (by simp [wtA]) (sp_X12_isOnWall (by omega) (by omega) (by omega) (by omega) (fun b_8 => ?_) (fun b_8 => ?_))
  · refine r_if_ne (tgt := 16) dX12_grain_11 rfl ⟨by decide, by decide⟩ (fun c_11 => ?_) (fun c_11 => absurd c_11 (by decide))
    refine r_aload_n dX12_grain_16 rfl rfl ?_
    refine r_iload_n dX12_grain_17 rfl rfl ?_
    refine r_iload_n dX12_grain_18 rfl rfl ?_
    refine r_callVI (av := [_, _]) (M' := mX12_leftOf) dX12_grain_19 vX12_leftOf ml_X12_188 sh_49 (by decide) rfl rfl rfl rfl (by simp [wtA]) (sp_X12_leftOf (by omega) (by omega) (by omega) (by omega) ?_)
    refine r_nmI (fun l e_l => ?_)
    refine r_istore_n (L' := [_, _, _, _, _, _, _, _, _]) dX12_grain_22 rfl rfl (by decide) rfl ?_
    refine r_aload_n dX12_grain_23 rfl rfl ?_
    refine r_iload_n dX12_grain_24 rfl rfl ?_
    refine r_iload_n dX12_grain_25 rfl rfl ?_
    refine r_callVI (av := [_, _]) (M' := mX12_rightOf) dX12_grain_26 vX12_rightOf ml_X12_191 sh_49 (by decide) rfl rfl rfl rfl (by simp [wtA]) (sp_X12_rightOf (by omega) (by omega) (by omega) (by omega) ?_)
    refine r_nmI (fun r e_r => ?_)
    refine r_istore (L' := [_, _, _, _, _, _, _, _, _]) dX12_grain_29 rfl (by decide) rfl ?_
    have s1 := stF_r (K := (g 49 5)) (E := (g 49 6)) (x := x) (y := y) (by omega) (by omega) (by omega) (by omega)
    have s2 := stF_r (K := (g 49 5)) (E := (g 49 6)) (x := 100 * (g 49 3) - x) (y := y) (by omega) (by omega) (by omega) (by omega)
    have d0 := dfF_r (K := (g 49 5)) (W := (g 49 3)) (E := (g 49 6)) (l := l) (r := r) (l2 := l + 1) (r2 := r) (by omega) (by omega) (by omega) (by omega) (by omega) (by omega) (by omega)
    have d1 := dfF_r (K := (g 49 5)) (W := (g 49 3)) (E := (g 49 6)) (l := l) (r := r) (l2 := l + -1) (r2 := r) (by omega) (by omega) (by omega) (by omega) (by omega) (by omega) (by omega)
    have d2 := dfF_r (K := (g 49 5)) (W := (g 49 3)) (E := (g 49 6)) (l := l) (r := r) (l2 := l) (r2 := r + 1) (by omega) (by omega) (by omega) (by omega) (by omega) (by omega) (by omega)
    have d3 := dfF_r (K := (g 49 5)) (W := (g 49 3)) (E := (g 49 6)) (l := l) (r := r) (l2 := l) (r2 := r + -1) (by omega) (by omega) (by omega) (by omega) (by omega) (by omega) (by omega)
    refine r_iconst dX12_grain_31 ?_
    refine r_istore (L' := [_, _, _, _, _, _, _, _, _]) dX12_grain_32 rfl (by decide) rfl ?_
    refine r_iconst dX12_grain_34 ?_
    refine r_istore (L' := [_, _, _, _, _, _, _, _, _]) dX12_grain_35 rfl (by decide) rfl ?_
    refine r_iload dX12_grain_37 rfl ?_
    refine r_iconst dX12_grain_39 ?_
    refine r_icmp_ge (tgt := 118) dX12_grain_40 rfl ⟨by decide, by decide⟩ ⟨by decide, by decide⟩ (fun c_40 => absurd c_40 (by decide)) (fun c_40 => ?_)
    refine r_iload dX12_grain_43 rfl ?_
    refine r_iconst dX12_grain_45 ?_
    refine r_irem dX12_grain_46 ⟨by decide, by decide⟩ ⟨by decide, by decide⟩ (by decide) ?_
    refine r_if_ne (tgt := 54) dX12_grain_47 rfl ⟨by decide, by decide⟩ (fun c_47 => absurd c_47 (by decide)) (fun c_47 => ?_)
    refine r_iconst dX12_grain_50 ?_
    refine r_goto (tgt := 55) dX12_grain_51 rfl ?_
    refine r_istore (L' := [_, _, _, _, _, _, _, _, _]) dX12_grain_55 rfl (by decide) rfl ?_
    refine r_aload_n dX12_grain_57 rfl rfl ?_
    refine r_iload_n dX12_grain_58 rfl rfl ?_
    refine r_iload dX12_grain_59 rfl ?_
    refine r_iload dX12_grain_61 rfl ?_
    refine r_iconst dX12_grain_63 ?_
    refine r_icmp_ge (tgt := 74) dX12_grain_64 rfl ⟨by decide, by decide⟩ ⟨by decide, by decide⟩ (fun c_64 => absurd c_64 (by decide)) (fun c_64 => ?_)
    refine r_iload_n dX12_grain_67 rfl rfl ?_
    refine r_iload dX12_grain_68 rfl ?_
    refine r_iadd dX12_grain_70 ?_
    refine r_goto (tgt := 75) dX12_grain_71 rfl ?_
    refine r_iload dX12_grain_75 rfl ?_
    refine r_iconst dX12_grain_77 ?_
    refine r_icmp_ge (tgt := 86) dX12_grain_78 rfl ⟨by decide, by decide⟩ ⟨by decide, by decide⟩ (fun c_78 => absurd c_78 (by decide)) (fun c_78 => ?_)
    refine r_iload dX12_grain_81 rfl ?_
    refine r_goto (tgt := 91) dX12_grain_83 rfl ?_
    refine r_callVI (av := [_, _, _, _]) (M' := mX12_differs) dX12_grain_91 vX12_differs ml_X12_202 sh_49 (by decide) rfl rfl rfl rfl (by simp [wtA]) (sp_X12_differs (by omega) (by omega) (by omega) (by omega) (by omega) (by omega) ?_)
    refine r_istore (L' := [_, _, _, _, _, _, _, _, _]) dX12_grain_94 rfl (by decide) rfl ?_
    refine r_iload dX12_grain_96 rfl ?_
    refine r_iload dX12_grain_98 rfl ?_
    refine r_icmp_le (tgt := 108) dX12_grain_100 rfl (by omega) ⟨by decide, by decide⟩ (fun c_100 => ?_) (fun c_100 => ?_)
    · refine r_iload dX12_grain_108 rfl ?_
      refine r_istore (L' := [_, _, _, _, _, _, _, _, _]) dX12_grain_110 rfl (by decide) rfl ?_
      refine r_iinc (L' := [_, _, _, _, _, _, _, _, _]) dX12_grain_112 rfl rfl (by decide) rfl ?_
      refine r_goto (tgt := 37) dX12_grain_115 rfl ?_
      refine r_iload dX12_grain_37 rfl ?_
      refine r_iconst dX12_grain_39 ?_
      refine r_icmp_ge (tgt := 118) dX12_grain_40 rfl ⟨by decide, by decide⟩ ⟨by decide, by decide⟩ (fun c_40 => absurd c_40 (by decide)) (fun c_40 => ?_)
      refine r_iload dX12_grain_43 rfl ?_
      refine r_iconst dX12_grain_45 ?_
      refine r_irem dX12_grain_46 ⟨by decide, by decide⟩ ⟨by decide, by decide⟩ (by decide) ?_
      refine r_if_ne (tgt := 54) dX12_grain_47 rfl ⟨by decide, by decide⟩ (fun c_47 => ?_) (fun c_47 => absurd c_47 (by decide))
      refine r_iconst dX12_grain_54 ?_
      refine r_istore (L' := [_, _, _, _, _, _, _, _, _]) dX12_grain_55 rfl (by decide) rfl ?_
      refine r_aload_n dX12_grain_57 rfl rfl ?_
      refine r_iload_n dX12_grain_58 rfl rfl ?_
      refine r_iload dX12_grain_59 rfl ?_
      refine r_iload dX12_grain_61 rfl ?_
      refine r_iconst dX12_grain_63 ?_
      refine r_icmp_ge (tgt := 74) dX12_grain_64 rfl ⟨by decide, by decide⟩ ⟨by decide, by decide⟩ (fun c_64 => absurd c_64 (by decide)) (fun c_64 => ?_)
      refine r_iload_n dX12_grain_67 rfl rfl ?_
      refine r_iload dX12_grain_68 rfl ?_
      refine r_iadd dX12_grain_70 ?_
      refine r_goto (tgt := 75) dX12_grain_71 rfl ?_
      refine r_iload dX12_grain_75 rfl ?_
      refine r_iconst dX12_grain_77 ?_
      refine r_icmp_ge (tgt := 86) dX12_grain_78 rfl ⟨by decide, by decide⟩ ⟨by decide, by decide⟩ (fun c_78 => absurd c_78 (by decide)) (fun c_78 => ?_)
      refine r_iload dX12_grain_81 rfl ?_
      refine r_goto (tgt := 91) dX12_grain_83 rfl ?_
      refine r_callVI (av := [_, _, _, _]) (M' := mX12_differs) dX12_grain_91 vX12_differs ml_X12_202 sh_49 (by decide) rfl rfl rfl rfl (by simp [wtA]) (sp_X12_differs (by omega) (by omega) (by omega) (by omega) (by omega) (by omega) ?_)
      refine r_istore (L' := [_, _, _, _, _, _, _, _, _]) dX12_grain_94 rfl (by decide) rfl ?_
      refine r_iload dX12_grain_96 rfl ?_
      refine r_iload dX12_grain_98 rfl ?_
      refine r_icmp_le (tgt := 108) dX12_grain_100 rfl (by omega) ⟨by decide, by decide⟩ (fun c_100 => ?_) (fun c_100 => ?_)
      · refine r_iload dX12_grain_108 rfl ?_
        refine r_istore (L' := [_, _, _, _, _, _, _, _, _]) dX12_grain_110 rfl (by decide) rfl ?_
        refine r_iinc (L' := [_, _, _, _, _, _, _, _, _]) dX12_grain_112 rfl rfl (by decide) rfl ?_
        refine r_goto (tgt := 37) dX12_grain_115 rfl ?_
        refine r_iload dX12_grain_37 rfl ?_
        refine r_iconst dX12_grain_39 ?_
        refine r_icmp_ge (tgt := 118) dX12_grain_40 rfl ⟨by decide, by decide⟩ ⟨by decide, by decide⟩ (fun c_40 => absurd c_40 (by decide)) (fun c_40 => ?_)
        refine r_iload dX12_grain_43 rfl ?_
        refine r_iconst dX12_grain_45 ?_
        refine r_irem dX12_grain_46 ⟨by decide, by decide⟩ ⟨by decide, by decide⟩ (by decide) ?_
        refine r_if_ne (tgt := 54) dX12_grain_47 rfl ⟨by decide, by decide⟩ (fun c_47 => absurd c_47 (by decide)) (fun c_47 => ?_)
        refine r_iconst dX12_grain_50 ?_
        refine r_goto (tgt := 55) dX12_grain_51 rfl ?_
        refine r_istore (L' := [_, _, _, _, _, _, _, _, _]) dX12_grain_55 rfl (by decide) rfl ?_
        refine r_aload_n dX12_grain_57 rfl rfl ?_
        refine r_iload_n dX12_grain_58 rfl rfl ?_
        refine r_iload dX12_grain_59 rfl ?_
        refine r_iload dX12_grain_61 rfl ?_
        refine r_iconst dX12_grain_63 ?_
        refine r_icmp_ge (tgt := 74) dX12_grain_64 rfl ⟨by decide, by decide⟩ ⟨by decide, by decide⟩ (fun c_64 => ?_) (fun c_64 => absurd c_64 (by decide))
        refine r_iload_n dX12_grain_74 rfl rfl ?_
        refine r_iload dX12_grain_75 rfl ?_
        refine r_iconst dX12_grain_77 ?_
        refine r_icmp_ge (tgt := 86) dX12_grain_78 rfl ⟨by decide, by decide⟩ ⟨by decide, by decide⟩ (fun c_78 => ?_) (fun c_78 => absurd c_78 (by decide))
        refine r_iload dX12_grain_86 rfl ?_
        refine r_iload dX12_grain_88 rfl ?_
        refine r_iadd dX12_grain_90 ?_
        refine r_callVI (av := [_, _, _, _]) (M' := mX12_differs) dX12_grain_91 vX12_differs ml_X12_202 sh_49 (by decide) rfl rfl rfl rfl (by simp [wtA]) (sp_X12_differs (by omega) (by omega) (by omega) (by omega) (by omega) (by omega) ?_)
        refine r_istore (L' := [_, _, _, _, _, _, _, _, _]) dX12_grain_94 rfl (by decide) rfl ?_
        refine r_iload dX12_grain_96 rfl ?_
        refine r_iload dX12_grain_98 rfl ?_
        refine r_icmp_le (tgt := 108) dX12_grain_100 rfl (by omega) ⟨by decide, by decide⟩ (fun c_100 => ?_) (fun c_100 => ?_)
        · refine r_iload dX12_grain_108 rfl ?_
          refine r_istore (L' := [_, _, _, _, _, _, _, _, _]) dX12_grain_110 rfl (by decide) rfl ?_
          refine r_iinc (L' := [_, _, _, _, _, _, _, _, _]) dX12_grain_112 rfl rfl (by decide) rfl ?_
          refine r_goto (tgt := 37) dX12_grain_115 rfl ?_
          refine r_iload dX12_grain_37 rfl ?_
          refine r_iconst dX12_grain_39 ?_
          refine r_icmp_ge (tgt := 118) dX12_grain_40 rfl ⟨by decide, by decide⟩ ⟨by decide, by decide⟩ (fun c_40 => absurd c_40 (by decide)) (fun c_40 => ?_)
          refine r_iload dX12_grain_43 rfl ?_
          refine r_iconst dX12_grain_45 ?_
          refine r_irem dX12_grain_46 ⟨by decide, by decide⟩ ⟨by decide, by decide⟩ (by decide) ?_
          refine r_if_ne (tgt := 54) dX12_grain_47 rfl ⟨by decide, by decide⟩ (fun c_47 => ?_) (fun c_47 => absurd c_47 (by decide))
          refine r_iconst dX12_grain_54 ?_
          refine r_istore (L' := [_, _, _, _, _, _, _, _, _]) dX12_grain_55 rfl (by decide) rfl ?_
          refine r_aload_n dX12_grain_57 rfl rfl ?_
          refine r_iload_n dX12_grain_58 rfl rfl ?_
          refine r_iload dX12_grain_59 rfl ?_
          refine r_iload dX12_grain_61 rfl ?_
          refine r_iconst dX12_grain_63 ?_
          refine r_icmp_ge (tgt := 74) dX12_grain_64 rfl ⟨by decide, by decide⟩ ⟨by decide, by decide⟩ (fun c_64 => ?_) (fun c_64 => absurd c_64 (by decide))
          refine r_iload_n dX12_grain_74 rfl rfl ?_
          refine r_iload dX12_grain_75 rfl ?_
          refine r_iconst dX12_grain_77 ?_
          refine r_icmp_ge (tgt := 86) dX12_grain_78 rfl ⟨by decide, by decide⟩ ⟨by decide, by decide⟩ (fun c_78 => ?_) (fun c_78 => absurd c_78 (by decide))
          refine r_iload dX12_grain_86 rfl ?_
          refine r_iload dX12_grain_88 rfl ?_
          refine r_iadd dX12_grain_90 ?_
          refine r_callVI (av := [_, _, _, _]) (M' := mX12_differs) dX12_grain_91 vX12_differs ml_X12_202 sh_49 (by decide) rfl rfl rfl rfl (by simp [wtA]) (sp_X12_differs (by omega) (by omega) (by omega) (by omega) (by omega) (by omega) ?_)
          refine r_istore (L' := [_, _, _, _, _, _, _, _, _]) dX12_grain_94 rfl (by decide) rfl ?_
          refine r_iload dX12_grain_96 rfl ?_
          refine r_iload dX12_grain_98 rfl ?_
          refine r_icmp_le (tgt := 108) dX12_grain_100 rfl (by omega) ⟨by decide, by decide⟩ (fun c_100 => ?_) (fun c_100 => ?_)
          · refine r_iload dX12_grain_108 rfl ?_
            refine r_istore (L' := [_, _, _, _, _, _, _, _, _]) dX12_grain_110 rfl (by decide) rfl ?_
            refine r_iinc (L' := [_, _, _, _, _, _, _, _, _]) dX12_grain_112 rfl rfl (by decide) rfl ?_
            refine r_goto (tgt := 37) dX12_grain_115 rfl ?_
            refine r_iload dX12_grain_37 rfl ?_
            refine r_iconst dX12_grain_39 ?_
            refine r_icmp_ge (tgt := 118) dX12_grain_40 rfl ⟨by decide, by decide⟩ ⟨by decide, by decide⟩ (fun c_40 => ?_) (fun c_40 => absurd c_40 (by decide))
            refine r_iload dX12_grain_118 rfl ?_
            refine r_iret dX12_grain_120 rfl ?_
            refine ⟨_, rfl, eqP k ?_⟩
            unfold fnGrain grF
            rw [if_pos (by omega), ← e_l, ← e_r, show l - 1 = l + -1 from rfl, show r - 1 = r + -1 from rfl]
            omega
          · refine r_iload dX12_grain_103 rfl ?_
            refine r_goto (tgt := 110) dX12_grain_105 rfl ?_
            refine r_nmI (fun x5_110 e_x5_110 => ?_)
            refine r_istore (L' := [_, _, _, _, _, _, _, _, _]) dX12_grain_110 rfl (by decide) rfl ?_
            refine r_iinc (L' := [_, _, _, _, _, _, _, _, _]) dX12_grain_112 rfl rfl (by decide) rfl ?_
            refine r_goto (tgt := 37) dX12_grain_115 rfl ?_
            refine r_iload dX12_grain_37 rfl ?_
            refine r_iconst dX12_grain_39 ?_
            refine r_icmp_ge (tgt := 118) dX12_grain_40 rfl ⟨by decide, by decide⟩ ⟨by decide, by decide⟩ (fun c_40 => ?_) (fun c_40 => absurd c_40 (by decide))
            refine r_iload dX12_grain_118 rfl ?_
            refine r_iret dX12_grain_120 rfl ?_
            refine ⟨_, rfl, eqP k ?_⟩
            unfold fnGrain grF
            rw [if_pos (by omega), ← e_l, ← e_r, show l - 1 = l + -1 from rfl, show r - 1 = r + -1 from rfl]
            omega
        · refine r_iload dX12_grain_103 rfl ?_
          refine r_goto (tgt := 110) dX12_grain_105 rfl ?_
          refine r_nmI (fun x5_110 e_x5_110 => ?_)
          refine r_istore (L' := [_, _, _, _, _, _, _, _, _]) dX12_grain_110 rfl (by decide) rfl ?_
          refine r_iinc (L' := [_, _, _, _, _, _, _, _, _]) dX12_grain_112 rfl rfl (by decide) rfl ?_
          refine r_goto (tgt := 37) dX12_grain_115 rfl ?_
          refine r_iload dX12_grain_37 rfl ?_
          refine r_iconst dX12_grain_39 ?_
          refine r_icmp_ge (tgt := 118) dX12_grain_40 rfl ⟨by decide, by decide⟩ ⟨by decide, by decide⟩ (fun c_40 => absurd c_40 (by decide)) (fun c_40 => ?_)
          refine r_iload dX12_grain_43 rfl ?_
          refine r_iconst dX12_grain_45 ?_
          refine r_irem dX12_grain_46 ⟨by decide, by decide⟩ ⟨by decide, by decide⟩ (by decide) ?_
          refine r_if_ne (tgt := 54) dX12_grain_47 rfl ⟨by decide, by decide⟩ (fun c_47 => ?_) (fun c_47 => absurd c_47 (by decide))
          refine r_iconst dX12_grain_54 ?_
          refine r_istore (L' := [_, _, _, _, _, _, _, _, _]) dX12_grain_55 rfl (by decide) rfl ?_
          refine r_aload_n dX12_grain_57 rfl rfl ?_
          refine r_iload_n dX12_grain_58 rfl rfl ?_
          refine r_iload dX12_grain_59 rfl ?_
          refine r_iload dX12_grain_61 rfl ?_
          refine r_iconst dX12_grain_63 ?_
          refine r_icmp_ge (tgt := 74) dX12_grain_64 rfl ⟨by decide, by decide⟩ ⟨by decide, by decide⟩ (fun c_64 => ?_) (fun c_64 => absurd c_64 (by decide))
          refine r_iload_n dX12_grain_74 rfl rfl ?_
          refine r_iload dX12_grain_75 rfl ?_
          refine r_iconst dX12_grain_77 ?_
          refine r_icmp_ge (tgt := 86) dX12_grain_78 rfl ⟨by decide, by decide⟩ ⟨by decide, by decide⟩ (fun c_78 => ?_) (fun c_78 => absurd c_78 (by decide))
          refine r_iload dX12_grain_86 rfl ?_
          refine r_iload dX12_grain_88 rfl ?_
          refine r_iadd dX12_grain_90 ?_
          refine r_callVI (av := [_, _, _, _]) (M' := mX12_differs) dX12_grain_91 vX12_differs ml_X12_202 sh_49 (by decide) rfl rfl rfl rfl (by simp [wtA]) (sp_X12_differs (by omega) (by omega) (by omega) (by omega) (by omega) (by omega) ?_)
          refine r_istore (L' := [_, _, _, _, _, _, _, _, _]) dX12_grain_94 rfl (by decide) rfl ?_
          refine r_iload dX12_grain_96 rfl ?_
          refine r_iload dX12_grain_98 rfl ?_
          refine r_icmp_le (tgt := 108) dX12_grain_100 rfl (by omega) (by omega) (fun c_100 => ?_) (fun c_100 => ?_)
          · refine r_iload dX12_grain_108 rfl ?_
            refine r_nmI (fun x5_110 e_x5_110 => ?_)
            refine r_istore (L' := [_, _, _, _, _, _, _, _, _]) dX12_grain_110 rfl (by decide) rfl ?_
            refine r_iinc (L' := [_, _, _, _, _, _, _, _, _]) dX12_grain_112 rfl rfl (by decide) rfl ?_
            refine r_goto (tgt := 37) dX12_grain_115 rfl ?_
            refine r_iload dX12_grain_37 rfl ?_
            refine r_iconst dX12_grain_39 ?_
            refine r_icmp_ge (tgt := 118) dX12_grain_40 rfl ⟨by decide, by decide⟩ ⟨by decide, by decide⟩ (fun c_40 => ?_) (fun c_40 => absurd c_40 (by decide))
            refine r_iload dX12_grain_118 rfl ?_
            refine r_iret dX12_grain_120 rfl ?_
            refine ⟨_, rfl, eqP k ?_⟩
            unfold fnGrain grF
            rw [if_pos (by omega), ← e_l, ← e_r, show l - 1 = l + -1 from rfl, show r - 1 = r + -1 from rfl]
            omega
          · refine r_iload dX12_grain_103 rfl ?_
            refine r_goto (tgt := 110) dX12_grain_105 rfl ?_
            refine r_nmI (fun x5_110 e_x5_110 => ?_)
            refine r_istore (L' := [_, _, _, _, _, _, _, _, _]) dX12_grain_110 rfl (by decide) rfl ?_
            refine r_iinc (L' := [_, _, _, _, _, _, _, _, _]) dX12_grain_112 rfl rfl (by decide) rfl ?_
            refine r_goto (tgt := 37) dX12_grain_115 rfl ?_
            refine r_iload dX12_grain_37 rfl ?_
            refine r_iconst dX12_grain_39 ?_
            refine r_icmp_ge (tgt := 118) dX12_grain_40 rfl ⟨by decide, by decide⟩ ⟨by decide, by decide⟩ (fun c_40 => ?_) (fun c_40 => absurd c_40 (by decide))
            refine r_iload dX12_grain_118 rfl ?_
            refine r_iret dX12_grain_120 rfl ?_
            refine ⟨_, rfl, eqP k ?_⟩
            unfold fnGrain grF
            rw [if_pos (by omega), ← e_l, ← e_r, show l - 1 = l + -1 from rfl, show r - 1 = r + -1 from rfl]
            omega
      · refine r_iload dX12_grain_103 rfl ?_
        refine r_goto (tgt := 110) dX12_grain_105 rfl ?_
        refine r_nmI (fun x5_110 e_x5_110 => ?_)
        refine r_istore (L' := [_, _, _, _, _, _, _, _, _]) dX12_grain_110 rfl (by decide) rfl ?_
        refine r_iinc (L' := [_, _, _, _, _, _, _, _, _]) dX12_grain_112 rfl rfl (by decide) rfl ?_
        refine r_goto (tgt := 37) dX12_grain_115 rfl ?_
        refine r_iload dX12_grain_37 rfl ?_
        refine r_iconst dX12_grain_39 ?_
        refine r_icmp_ge (tgt := 118) dX12_grain_40 rfl ⟨by decide, by decide⟩ ⟨by decide, by decide⟩ (fun c_40 => absurd c_40 (by decide)) (fun c_40 => ?_)
        refine r_iload dX12_grain_43 rfl ?_
        refine r_iconst dX12_grain_45 ?_
        refine r_irem dX12_grain_46 ⟨by decide, by decide⟩ ⟨by decide, by decide⟩ (by decide) ?_
        refine r_if_ne (tgt := 54) dX12_grain_47 rfl ⟨by decide, by decide⟩ (fun c_47 => absurd c_47 (by decide)) (fun c_47 => ?_)
        refine r_iconst dX12_grain_50 ?_
        refine r_goto (tgt := 55) dX12_grain_51 rfl ?_
        refine r_istore (L' := [_, _, _, _, _, _, _, _, _]) dX12_grain_55 rfl (by decide) rfl ?_
        refine r_aload_n dX12_grain_57 rfl rfl ?_
        refine r_iload_n dX12_grain_58 rfl rfl ?_
        refine r_iload dX12_grain_59 rfl ?_
        refine r_iload dX12_grain_61 rfl ?_
        refine r_iconst dX12_grain_63 ?_
        refine r_icmp_ge (tgt := 74) dX12_grain_64 rfl ⟨by decide, by decide⟩ ⟨by decide, by decide⟩ (fun c_64 => ?_) (fun c_64 => absurd c_64 (by decide))
        refine r_iload_n dX12_grain_74 rfl rfl ?_
        refine r_iload dX12_grain_75 rfl ?_
        refine r_iconst dX12_grain_77 ?_
        refine r_icmp_ge (tgt := 86) dX12_grain_78 rfl ⟨by decide, by decide⟩ ⟨by decide, by decide⟩ (fun c_78 => ?_) (fun c_78 => absurd c_78 (by decide))
        refine r_iload dX12_grain_86 rfl ?_
        refine r_iload dX12_grain_88 rfl ?_
        refine r_iadd dX12_grain_90 ?_
        refine r_callVI (av := [_, _, _, _]) (M' := mX12_differs) dX12_grain_91 vX12_differs ml_X12_202 sh_49 (by decide) rfl rfl rfl rfl (by simp [wtA]) (sp_X12_differs (by omega) (by omega) (by omega) (by omega) (by omega) (by omega) ?_)
        refine r_istore (L' := [_, _, _, _, _, _, _, _, _]) dX12_grain_94 rfl (by decide) rfl ?_
        refine r_iload dX12_grain_96 rfl ?_
        refine r_iload dX12_grain_98 rfl ?_
        refine r_icmp_le (tgt := 108) dX12_grain_100 rfl (by omega) (by omega) (fun c_100 => ?_) (fun c_100 => ?_)
        · refine r_iload dX12_grain_108 rfl ?_
          refine r_nmI (fun x5_110 e_x5_110 => ?_)
          refine r_istore (L' := [_, _, _, _, _, _, _, _, _]) dX12_grain_110 rfl (by decide) rfl ?_
          refine r_iinc (L' := [_, _, _, _, _, _, _, _, _]) dX12_grain_112 rfl rfl (by decide) rfl ?_
          refine r_goto (tgt := 37) dX12_grain_115 rfl ?_
          refine r_iload dX12_grain_37 rfl ?_
          refine r_iconst dX12_grain_39 ?_
          refine r_icmp_ge (tgt := 118) dX12_grain_40 rfl ⟨by decide, by decide⟩ ⟨by decide, by decide⟩ (fun c_40 => absurd c_40 (by decide)) (fun c_40 => ?_)
          refine r_iload dX12_grain_43 rfl ?_
          refine r_iconst dX12_grain_45 ?_
          refine r_irem dX12_grain_46 ⟨by decide, by decide⟩ ⟨by decide, by decide⟩ (by decide) ?_
          refine r_if_ne (tgt := 54) dX12_grain_47 rfl ⟨by decide, by decide⟩ (fun c_47 => ?_) (fun c_47 => absurd c_47 (by decide))
          refine r_iconst dX12_grain_54 ?_
          refine r_istore (L' := [_, _, _, _, _, _, _, _, _]) dX12_grain_55 rfl (by decide) rfl ?_
          refine r_aload_n dX12_grain_57 rfl rfl ?_
          refine r_iload_n dX12_grain_58 rfl rfl ?_
          refine r_iload dX12_grain_59 rfl ?_
          refine r_iload dX12_grain_61 rfl ?_
          refine r_iconst dX12_grain_63 ?_
          refine r_icmp_ge (tgt := 74) dX12_grain_64 rfl ⟨by decide, by decide⟩ ⟨by decide, by decide⟩ (fun c_64 => ?_) (fun c_64 => absurd c_64 (by decide))
          refine r_iload_n dX12_grain_74 rfl rfl ?_
          refine r_iload dX12_grain_75 rfl ?_
          refine r_iconst dX12_grain_77 ?_
          refine r_icmp_ge (tgt := 86) dX12_grain_78 rfl ⟨by decide, by decide⟩ ⟨by decide, by decide⟩ (fun c_78 => ?_) (fun c_78 => absurd c_78 (by decide))
          refine r_iload dX12_grain_86 rfl ?_
          refine r_iload dX12_grain_88 rfl ?_
          refine r_iadd dX12_grain_90 ?_
          refine r_callVI (av := [_, _, _, _]) (M' := mX12_differs) dX12_grain_91 vX12_differs ml_X12_202 sh_49 (by decide) rfl rfl rfl rfl (by simp [wtA]) (sp_X12_differs (by omega) (by omega) (by omega) (by omega) (by omega) (by omega) ?_)
          refine r_istore (L' := [_, _, _, _, _, _, _, _, _]) dX12_grain_94 rfl (by decide) rfl ?_
          refine r_iload dX12_grain_96 rfl ?_
          refine r_iload dX12_grain_98 rfl ?_
          refine r_icmp_le (tgt := 108) dX12_grain_100 rfl (by omega) (by omega) (fun c_100 => ?_) (fun c_100 => ?_)
          · refine r_iload dX12_grain_108 rfl ?_
            refine r_nmI (fun x5_110 e_x5_110 => ?_)
            refine r_istore (L' := [_, _, _, _, _, _, _, _, _]) dX12_grain_110 rfl (by decide) rfl ?_
            refine r_iinc (L' := [_, _, _, _, _, _, _, _, _]) dX12_grain_112 rfl rfl (by decide) rfl ?_
            refine r_goto (tgt := 37) dX12_grain_115 rfl ?_
            refine r_iload dX12_grain_37 rfl ?_
            refine r_iconst dX12_grain_39 ?_
            refine r_icmp_ge (tgt := 118) dX12_grain_40 rfl ⟨by decide, by decide⟩ ⟨by decide, by decide⟩ (fun c_40 => ?_) (fun c_40 => absurd c_40 (by decide))
            refine r_iload dX12_grain_118 rfl ?_
            refine r_iret dX12_grain_120 rfl ?_
            refine ⟨_, rfl, eqP k ?_⟩
            unfold fnGrain grF
            rw [if_pos (by omega), ← e_l, ← e_r, show l - 1 = l + -1 from rfl, show r - 1 = r + -1 from rfl]
            omega
          · refine r_iload dX12_grain_103 rfl ?_
            refine r_goto (tgt := 110) dX12_grain_105 rfl ?_
            refine r_nmI (fun x5_110 e_x5_110 => ?_)
            refine r_istore (L' := [_, _, _, _, _, _, _, _, _]) dX12_grain_110 rfl (by decide) rfl ?_
            refine r_iinc (L' := [_, _, _, _, _, _, _, _, _]) dX12_grain_112 rfl rfl (by decide) rfl ?_
            refine r_goto (tgt := 37) dX12_grain_115 rfl ?_
            refine r_iload dX12_grain_37 rfl ?_
            refine r_iconst dX12_grain_39 ?_
            refine r_icmp_ge (tgt := 118) dX12_grain_40 rfl ⟨by decide, by decide⟩ ⟨by decide, by decide⟩ (fun c_40 => ?_) (fun c_40 => absurd c_40 (by decide))
            refine r_iload dX12_grain_118 rfl ?_
            refine r_iret dX12_grain_120 rfl ?_
            refine ⟨_, rfl, eqP k ?_⟩
            unfold fnGrain grF
            rw [if_pos (by omega), ← e_l, ← e_r, show l - 1 = l + -1 from rfl, show r - 1 = r + -1 from rfl]
            omega
        · refine r_iload dX12_grain_103 rfl ?_
          refine r_goto (tgt := 110) dX12_grain_105 rfl ?_
          refine r_nmI (fun x5_110 e_x5_110 => ?_)
          refine r_istore (L' := [_, _, _, _, _, _, _, _, _]) dX12_grain_110 rfl (by decide) rfl ?_
          refine r_iinc (L' := [_, _, _, _, _, _, _, _, _]) dX12_grain_112 rfl rfl (by decide) rfl ?_
          refine r_goto (tgt := 37) dX12_grain_115 rfl ?_
          refine r_iload dX12_grain_37 rfl ?_
          refine r_iconst dX12_grain_39 ?_
          refine r_icmp_ge (tgt := 118) dX12_grain_40 rfl ⟨by decide, by decide⟩ ⟨by decide, by decide⟩ (fun c_40 => absurd c_40 (by decide)) (fun c_40 => ?_)
          refine r_iload dX12_grain_43 rfl ?_
          refine r_iconst dX12_grain_45 ?_
          refine r_irem dX12_grain_46 ⟨by decide, by decide⟩ ⟨by decide, by decide⟩ (by decide) ?_
          refine r_if_ne (tgt := 54) dX12_grain_47 rfl ⟨by decide, by decide⟩ (fun c_47 => ?_) (fun c_47 => absurd c_47 (by decide))
          refine r_iconst dX12_grain_54 ?_
          refine r_istore (L' := [_, _, _, _, _, _, _, _, _]) dX12_grain_55 rfl (by decide) rfl ?_
          refine r_aload_n dX12_grain_57 rfl rfl ?_
          refine r_iload_n dX12_grain_58 rfl rfl ?_
          refine r_iload dX12_grain_59 rfl ?_
          refine r_iload dX12_grain_61 rfl ?_
          refine r_iconst dX12_grain_63 ?_
          refine r_icmp_ge (tgt := 74) dX12_grain_64 rfl ⟨by decide, by decide⟩ ⟨by decide, by decide⟩ (fun c_64 => ?_) (fun c_64 => absurd c_64 (by decide))
          refine r_iload_n dX12_grain_74 rfl rfl ?_
          refine r_iload dX12_grain_75 rfl ?_
          refine r_iconst dX12_grain_77 ?_
          refine r_icmp_ge (tgt := 86) dX12_grain_78 rfl ⟨by decide, by decide⟩ ⟨by decide, by decide⟩ (fun c_78 => ?_) (fun c_78 => absurd c_78 (by decide))
          refine r_iload dX12_grain_86 rfl ?_
          refine r_iload dX12_grain_88 rfl ?_
          refine r_iadd dX12_grain_90 ?_
          refine r_callVI (av := [_, _, _, _]) (M' := mX12_differs) dX12_grain_91 vX12_differs ml_X12_202 sh_49 (by decide) rfl rfl rfl rfl (by simp [wtA]) (sp_X12_differs (by omega) (by omega) (by omega) (by omega) (by omega) (by omega) ?_)
          refine r_istore (L' := [_, _, _, _, _, _, _, _, _]) dX12_grain_94 rfl (by decide) rfl ?_
          refine r_iload dX12_grain_96 rfl ?_
          refine r_iload dX12_grain_98 rfl ?_
          refine r_icmp_le (tgt := 108) dX12_grain_100 rfl (by omega) (by omega) (fun c_100 => ?_) (fun c_100 => ?_)
          · refine r_iload dX12_grain_108 rfl ?_
            refine r_nmI (fun x5_110 e_x5_110 => ?_)
            refine r_istore (L' := [_, _, _, _, _, _, _, _, _]) dX12_grain_110 rfl (by decide) rfl ?_
            refine r_iinc (L' := [_, _, _, _, _, _, _, _, _]) dX12_grain_112 rfl rfl (by decide) rfl ?_
            refine r_goto (tgt := 37) dX12_grain_115 rfl ?_
            refine r_iload dX12_grain_37 rfl ?_
            refine r_iconst dX12_grain_39 ?_
            refine r_icmp_ge (tgt := 118) dX12_grain_40 rfl ⟨by decide, by decide⟩ ⟨by decide, by decide⟩ (fun c_40 => ?_) (fun c_40 => absurd c_40 (by decide))
            refine r_iload dX12_grain_118 rfl ?_
            refine r_iret dX12_grain_120 rfl ?_
            refine ⟨_, rfl, eqP k ?_⟩
            unfold fnGrain grF
            rw [if_pos (by omega), ← e_l, ← e_r, show l - 1 = l + -1 from rfl, show r - 1 = r + -1 from rfl]
            omega
          · refine r_iload dX12_grain_103 rfl ?_
            refine r_goto (tgt := 110) dX12_grain_105 rfl ?_
            refine r_nmI (fun x5_110 e_x5_110 => ?_)
            refine r_istore (L' := [_, _, _, _, _, _, _, _, _]) dX12_grain_110 rfl (by decide) rfl ?_
            refine r_iinc (L' := [_, _, _, _, _, _, _, _, _]) dX12_grain_112 rfl rfl (by decide) rfl ?_
            refine r_goto (tgt := 37) dX12_grain_115 rfl ?_
            refine r_iload dX12_grain_37 rfl ?_
            refine r_iconst dX12_grain_39 ?_
            refine r_icmp_ge (tgt := 118) dX12_grain_40 rfl ⟨by decide, by decide⟩ ⟨by decide, by decide⟩ (fun c_40 => ?_) (fun c_40 => absurd c_40 (by decide))
            refine r_iload dX12_grain_118 rfl ?_
            refine r_iret dX12_grain_120 rfl ?_
            refine ⟨_, rfl, eqP k ?_⟩
            unfold fnGrain grF
            rw [if_pos (by omega), ← e_l, ← e_r, show l - 1 = l + -1 from rfl, show r - 1 = r + -1 from rfl]
            omega
    · refine r_iload dX12_grain_103 rfl ?_
      refine r_goto (tgt := 110) dX12_grain_105 rfl ?_
      refine r_nmI (fun x5_110 e_x5_110 => ?_)
      refine r_istore (L' := [_, _, _, _, _, _, _, _, _]) dX12_grain_110 rfl (by decide) rfl ?_
      refine r_iinc (L' := [_, _, _, _, _, _, _, _, _]) dX12_grain_112 rfl rfl (by decide) rfl ?_
      refine r_goto (tgt := 37) dX12_grain_115 rfl ?_
      refine r_iload dX12_grain_37 rfl ?_
      refine r_iconst dX12_grain_39 ?_
      refine r_icmp_ge (tgt := 118) dX12_grain_40 rfl ⟨by decide, by decide⟩ ⟨by decide, by decide⟩ (fun c_40 => absurd c_40 (by decide)) (fun c_40 => ?_)
      refine r_iload dX12_grain_43 rfl ?_
      refine r_iconst dX12_grain_45 ?_
      refine r_irem dX12_grain_46 ⟨by decide, by decide⟩ ⟨by decide, by decide⟩ (by decide) ?_
      refine r_if_ne (tgt := 54) dX12_grain_47 rfl ⟨by decide, by decide⟩ (fun c_47 => ?_) (fun c_47 => absurd c_47 (by decide))
      refine r_iconst dX12_grain_54 ?_
      refine r_istore (L' := [_, _, _, _, _, _, _, _, _]) dX12_grain_55 rfl (by decide) rfl ?_
      refine r_aload_n dX12_grain_57 rfl rfl ?_
      refine r_iload_n dX12_grain_58 rfl rfl ?_
      refine r_iload dX12_grain_59 rfl ?_
      refine r_iload dX12_grain_61 rfl ?_
      refine r_iconst dX12_grain_63 ?_
      refine r_icmp_ge (tgt := 74) dX12_grain_64 rfl ⟨by decide, by decide⟩ ⟨by decide, by decide⟩ (fun c_64 => absurd c_64 (by decide)) (fun c_64 => ?_)
      refine r_iload_n dX12_grain_67 rfl rfl ?_
      refine r_iload dX12_grain_68 rfl ?_
      refine r_iadd dX12_grain_70 ?_
      refine r_goto (tgt := 75) dX12_grain_71 rfl ?_
      refine r_iload dX12_grain_75 rfl ?_
      refine r_iconst dX12_grain_77 ?_
      refine r_icmp_ge (tgt := 86) dX12_grain_78 rfl ⟨by decide, by decide⟩ ⟨by decide, by decide⟩ (fun c_78 => absurd c_78 (by decide)) (fun c_78 => ?_)
      refine r_iload dX12_grain_81 rfl ?_
      refine r_goto (tgt := 91) dX12_grain_83 rfl ?_
      refine r_callVI (av := [_, _, _, _]) (M' := mX12_differs) dX12_grain_91 vX12_differs ml_X12_202 sh_49 (by decide) rfl rfl rfl rfl (by simp [wtA]) (sp_X12_differs (by omega) (by omega) (by omega) (by omega) (by omega) (by omega) ?_)
      refine r_istore (L' := [_, _, _, _, _, _, _, _, _]) dX12_grain_94 rfl (by decide) rfl ?_
      refine r_iload dX12_grain_96 rfl ?_
      refine r_iload dX12_grain_98 rfl ?_
      refine r_icmp_le (tgt := 108) dX12_grain_100 rfl (by omega) (by omega) (fun c_100 => ?_) (fun c_100 => ?_)
      · refine r_iload dX12_grain_108 rfl ?_
        refine r_nmI (fun x5_110 e_x5_110 => ?_)
        refine r_istore (L' := [_, _, _, _, _, _, _, _, _]) dX12_grain_110 rfl (by decide) rfl ?_
        refine r_iinc (L' := [_, _, _, _, _, _, _, _, _]) dX12_grain_112 rfl rfl (by decide) rfl ?_
        refine r_goto (tgt := 37) dX12_grain_115 rfl ?_
        refine r_iload dX12_grain_37 rfl ?_
        refine r_iconst dX12_grain_39 ?_
        refine r_icmp_ge (tgt := 118) dX12_grain_40 rfl ⟨by decide, by decide⟩ ⟨by decide, by decide⟩ (fun c_40 => absurd c_40 (by decide)) (fun c_40 => ?_)
        refine r_iload dX12_grain_43 rfl ?_
        refine r_iconst dX12_grain_45 ?_
        refine r_irem dX12_grain_46 ⟨by decide, by decide⟩ ⟨by decide, by decide⟩ (by decide) ?_
        refine r_if_ne (tgt := 54) dX12_grain_47 rfl ⟨by decide, by decide⟩ (fun c_47 => absurd c_47 (by decide)) (fun c_47 => ?_)
        refine r_iconst dX12_grain_50 ?_
        refine r_goto (tgt := 55) dX12_grain_51 rfl ?_
        refine r_istore (L' := [_, _, _, _, _, _, _, _, _]) dX12_grain_55 rfl (by decide) rfl ?_
        refine r_aload_n dX12_grain_57 rfl rfl ?_
        refine r_iload_n dX12_grain_58 rfl rfl ?_
        refine r_iload dX12_grain_59 rfl ?_
        refine r_iload dX12_grain_61 rfl ?_
        refine r_iconst dX12_grain_63 ?_
        refine r_icmp_ge (tgt := 74) dX12_grain_64 rfl ⟨by decide, by decide⟩ ⟨by decide, by decide⟩ (fun c_64 => ?_) (fun c_64 => absurd c_64 (by decide))
        refine r_iload_n dX12_grain_74 rfl rfl ?_
        refine r_iload dX12_grain_75 rfl ?_
        refine r_iconst dX12_grain_77 ?_
        refine r_icmp_ge (tgt := 86) dX12_grain_78 rfl ⟨by decide, by decide⟩ ⟨by decide, by decide⟩ (fun c_78 => ?_) (fun c_78 => absurd c_78 (by decide))
        refine r_iload dX12_grain_86 rfl ?_
        refine r_iload dX12_grain_88 rfl ?_
        refine r_iadd dX12_grain_90 ?_
        refine r_callVI (av := [_, _, _, _]) (M' := mX12_differs) dX12_grain_91 vX12_differs ml_X12_202 sh_49 (by decide) rfl rfl rfl rfl (by simp [wtA]) (sp_X12_differs (by omega) (by omega) (by omega) (by omega) (by omega) (by omega) ?_)
        refine r_istore (L' := [_, _, _, _, _, _, _, _, _]) dX12_grain_94 rfl (by decide) rfl ?_
        refine r_iload dX12_grain_96 rfl ?_
        refine r_iload dX12_grain_98 rfl ?_
        refine r_icmp_le (tgt := 108) dX12_grain_100 rfl (by omega) (by omega) (fun c_100 => ?_) (fun c_100 => ?_)
        · refine r_iload dX12_grain_108 rfl ?_
          refine r_nmI (fun x5_110 e_x5_110 => ?_)
          refine r_istore (L' := [_, _, _, _, _, _, _, _, _]) dX12_grain_110 rfl (by decide) rfl ?_
          refine r_iinc (L' := [_, _, _, _, _, _, _, _, _]) dX12_grain_112 rfl rfl (by decide) rfl ?_
          refine r_goto (tgt := 37) dX12_grain_115 rfl ?_
          refine r_iload dX12_grain_37 rfl ?_
          refine r_iconst dX12_grain_39 ?_
          refine r_icmp_ge (tgt := 118) dX12_grain_40 rfl ⟨by decide, by decide⟩ ⟨by decide, by decide⟩ (fun c_40 => absurd c_40 (by decide)) (fun c_40 => ?_)
          refine r_iload dX12_grain_43 rfl ?_
          refine r_iconst dX12_grain_45 ?_
          refine r_irem dX12_grain_46 ⟨by decide, by decide⟩ ⟨by decide, by decide⟩ (by decide) ?_
          refine r_if_ne (tgt := 54) dX12_grain_47 rfl ⟨by decide, by decide⟩ (fun c_47 => ?_) (fun c_47 => absurd c_47 (by decide))
          refine r_iconst dX12_grain_54 ?_
          refine r_istore (L' := [_, _, _, _, _, _, _, _, _]) dX12_grain_55 rfl (by decide) rfl ?_
          refine r_aload_n dX12_grain_57 rfl rfl ?_
          refine r_iload_n dX12_grain_58 rfl rfl ?_
          refine r_iload dX12_grain_59 rfl ?_
          refine r_iload dX12_grain_61 rfl ?_
          refine r_iconst dX12_grain_63 ?_
          refine r_icmp_ge (tgt := 74) dX12_grain_64 rfl ⟨by decide, by decide⟩ ⟨by decide, by decide⟩ (fun c_64 => ?_) (fun c_64 => absurd c_64 (by decide))
          refine r_iload_n dX12_grain_74 rfl rfl ?_
          refine r_iload dX12_grain_75 rfl ?_
          refine r_iconst dX12_grain_77 ?_
          refine r_icmp_ge (tgt := 86) dX12_grain_78 rfl ⟨by decide, by decide⟩ ⟨by decide, by decide⟩ (fun c_78 => ?_) (fun c_78 => absurd c_78 (by decide))
          refine r_iload dX12_grain_86 rfl ?_
          refine r_iload dX12_grain_88 rfl ?_
          refine r_iadd dX12_grain_90 ?_
          refine r_callVI (av := [_, _, _, _]) (M' := mX12_differs) dX12_grain_91 vX12_differs ml_X12_202 sh_49 (by decide) rfl rfl rfl rfl (by simp [wtA]) (sp_X12_differs (by omega) (by omega) (by omega) (by omega) (by omega) (by omega) ?_)
          refine r_istore (L' := [_, _, _, _, _, _, _, _, _]) dX12_grain_94 rfl (by decide) rfl ?_
          refine r_iload dX12_grain_96 rfl ?_
          refine r_iload dX12_grain_98 rfl ?_
          refine r_icmp_le (tgt := 108) dX12_grain_100 rfl (by omega) (by omega) (fun c_100 => ?_) (fun c_100 => ?_)
          · refine r_iload dX12_grain_108 rfl ?_
            refine r_nmI (fun x5_110 e_x5_110 => ?_)
            refine r_istore (L' := [_, _, _, _, _, _, _, _, _]) dX12_grain_110 rfl (by decide) rfl ?_
            refine r_iinc (L' := [_, _, _, _, _, _, _, _, _]) dX12_grain_112 rfl rfl (by decide) rfl ?_
            refine r_goto (tgt := 37) dX12_grain_115 rfl ?_
            refine r_iload dX12_grain_37 rfl ?_
            refine r_iconst dX12_grain_39 ?_
            refine r_icmp_ge (tgt := 118) dX12_grain_40 rfl ⟨by decide, by decide⟩ ⟨by decide, by decide⟩ (fun c_40 => ?_) (fun c_40 => absurd c_40 (by decide))
            refine r_iload dX12_grain_118 rfl ?_
            refine r_iret dX12_grain_120 rfl ?_
            refine ⟨_, rfl, eqP k ?_⟩
            unfold fnGrain grF
            rw [if_pos (by omega), ← e_l, ← e_r, show l - 1 = l + -1 from rfl, show r - 1 = r + -1 from rfl]
            omega
          · refine r_iload dX12_grain_103 rfl ?_
            refine r_goto (tgt := 110) dX12_grain_105 rfl ?_
            refine r_nmI (fun x5_110 e_x5_110 => ?_)
            refine r_istore (L' := [_, _, _, _, _, _, _, _, _]) dX12_grain_110 rfl (by decide) rfl ?_
            refine r_iinc (L' := [_, _, _, _, _, _, _, _, _]) dX12_grain_112 rfl rfl (by decide) rfl ?_
            refine r_goto (tgt := 37) dX12_grain_115 rfl ?_
            refine r_iload dX12_grain_37 rfl ?_
            refine r_iconst dX12_grain_39 ?_
            refine r_icmp_ge (tgt := 118) dX12_grain_40 rfl ⟨by decide, by decide⟩ ⟨by decide, by decide⟩ (fun c_40 => ?_) (fun c_40 => absurd c_40 (by decide))
            refine r_iload dX12_grain_118 rfl ?_
            refine r_iret dX12_grain_120 rfl ?_
            refine ⟨_, rfl, eqP k ?_⟩
            unfold fnGrain grF
            rw [if_pos (by omega), ← e_l, ← e_r, show l - 1 = l + -1 from rfl, show r - 1 = r + -1 from rfl]
            omega
        · refine r_iload dX12_grain_103 rfl ?_
          refine r_goto (tgt := 110) dX12_grain_105 rfl ?_
          refine r_nmI (fun x5_110 e_x5_110 => ?_)
          refine r_istore (L' := [_, _, _, _, _, _, _, _, _]) dX12_grain_110 rfl (by decide) rfl ?_
          refine r_iinc (L' := [_, _, _, _, _, _, _, _, _]) dX12_grain_112 rfl rfl (by decide) rfl ?_
          refine r_goto (tgt := 37) dX12_grain_115 rfl ?_
          refine r_iload dX12_grain_37 rfl ?_
          refine r_iconst dX12_grain_39 ?_
          refine r_icmp_ge (tgt := 118) dX12_grain_40 rfl ⟨by decide, by decide⟩ ⟨by decide, by decide⟩ (fun c_40 => absurd c_40 (by decide)) (fun c_40 => ?_)
          refine r_iload dX12_grain_43 rfl ?_
          refine r_iconst dX12_grain_45 ?_
          refine r_irem dX12_grain_46 ⟨by decide, by decide⟩ ⟨by decide, by decide⟩ (by decide) ?_
          refine r_if_ne (tgt := 54) dX12_grain_47 rfl ⟨by decide, by decide⟩ (fun c_47 => ?_) (fun c_47 => absurd c_47 (by decide))
          refine r_iconst dX12_grain_54 ?_
          refine r_istore (L' := [_, _, _, _, _, _, _, _, _]) dX12_grain_55 rfl (by decide) rfl ?_
          refine r_aload_n dX12_grain_57 rfl rfl ?_
          refine r_iload_n dX12_grain_58 rfl rfl ?_
          refine r_iload dX12_grain_59 rfl ?_
          refine r_iload dX12_grain_61 rfl ?_
          refine r_iconst dX12_grain_63 ?_
          refine r_icmp_ge (tgt := 74) dX12_grain_64 rfl ⟨by decide, by decide⟩ ⟨by decide, by decide⟩ (fun c_64 => ?_) (fun c_64 => absurd c_64 (by decide))
          refine r_iload_n dX12_grain_74 rfl rfl ?_
          refine r_iload dX12_grain_75 rfl ?_
          refine r_iconst dX12_grain_77 ?_
          refine r_icmp_ge (tgt := 86) dX12_grain_78 rfl ⟨by decide, by decide⟩ ⟨by decide, by decide⟩ (fun c_78 => ?_) (fun c_78 => absurd c_78 (by decide))
          refine r_iload dX12_grain_86 rfl ?_
          refine r_iload dX12_grain_88 rfl ?_
          refine r_iadd dX12_grain_90 ?_
          refine r_callVI (av := [_, _, _, _]) (M' := mX12_differs) dX12_grain_91 vX12_differs ml_X12_202 sh_49 (by decide) rfl rfl rfl rfl (by simp [wtA]) (sp_X12_differs (by omega) (by omega) (by omega) (by omega) (by omega) (by omega) ?_)
          refine r_istore (L' := [_, _, _, _, _, _, _, _, _]) dX12_grain_94 rfl (by decide) rfl ?_
          refine r_iload dX12_grain_96 rfl ?_
          refine r_iload dX12_grain_98 rfl ?_
          refine r_icmp_le (tgt := 108) dX12_grain_100 rfl (by omega) (by omega) (fun c_100 => ?_) (fun c_100 => ?_)
          · refine r_iload dX12_grain_108 rfl ?_
            refine r_nmI (fun x5_110 e_x5_110 => ?_)
            refine r_istore (L' := [_, _, _, _, _, _, _, _, _]) dX12_grain_110 rfl (by decide) rfl ?_
            refine r_iinc (L' := [_, _, _, _, _, _, _, _, _]) dX12_grain_112 rfl rfl (by decide) rfl ?_
            refine r_goto (tgt := 37) dX12_grain_115 rfl ?_
            refine r_iload dX12_grain_37 rfl ?_
            refine r_iconst dX12_grain_39 ?_
            refine r_icmp_ge (tgt := 118) dX12_grain_40 rfl ⟨by decide, by decide⟩ ⟨by decide, by decide⟩ (fun c_40 => ?_) (fun c_40 => absurd c_40 (by decide))
            refine r_iload dX12_grain_118 rfl ?_
            refine r_iret dX12_grain_120 rfl ?_
            refine ⟨_, rfl, eqP k ?_⟩
            unfold fnGrain grF
            rw [if_pos (by omega), ← e_l, ← e_r, show l - 1 = l + -1 from rfl, show r - 1 = r + -1 from rfl]
            omega
          · refine r_iload dX12_grain_103 rfl ?_
            refine r_goto (tgt := 110) dX12_grain_105 rfl ?_
            refine r_nmI (fun x5_110 e_x5_110 => ?_)
            refine r_istore (L' := [_, _, _, _, _, _, _, _, _]) dX12_grain_110 rfl (by decide) rfl ?_
            refine r_iinc (L' := [_, _, _, _, _, _, _, _, _]) dX12_grain_112 rfl rfl (by decide) rfl ?_
            refine r_goto (tgt := 37) dX12_grain_115 rfl ?_
            refine r_iload dX12_grain_37 rfl ?_
            refine r_iconst dX12_grain_39 ?_
            refine r_icmp_ge (tgt := 118) dX12_grain_40 rfl ⟨by decide, by decide⟩ ⟨by decide, by decide⟩ (fun c_40 => ?_) (fun c_40 => absurd c_40 (by decide))
            refine r_iload dX12_grain_118 rfl ?_
            refine r_iret dX12_grain_120 rfl ?_
            refine ⟨_, rfl, eqP k ?_⟩
            unfold fnGrain grF
            rw [if_pos (by omega), ← e_l, ← e_r, show l - 1 = l + -1 from rfl, show r - 1 = r + -1 from rfl]
            omega
      · refine r_iload dX12_grain_103 rfl ?_
        refine r_goto (tgt := 110) dX12_grain_105 rfl ?_
        refine r_nmI (fun x5_110 e_x5_110 => ?_)
        refine r_istore (L' := [_, _, _, _, _, _, _, _, _]) dX12_grain_110 rfl (by decide) rfl ?_
        refine r_iinc (L' := [_, _, _, _, _, _, _, _, _]) dX12_grain_112 rfl rfl (by decide) rfl ?_
        refine r_goto (tgt := 37) dX12_grain_115 rfl ?_
        refine r_iload dX12_grain_37 rfl ?_
        refine r_iconst dX12_grain_39 ?_
        refine r_icmp_ge (tgt := 118) dX12_grain_40 rfl ⟨by decide, by decide⟩ ⟨by decide, by decide⟩ (fun c_40 => absurd c_40 (by decide)) (fun c_40 => ?_)
        refine r_iload dX12_grain_43 rfl ?_
        refine r_iconst dX12_grain_45 ?_
        refine r_irem dX12_grain_46 ⟨by decide, by decide⟩ ⟨by decide, by decide⟩ (by decide) ?_
        refine r_if_ne (tgt := 54) dX12_grain_47 rfl ⟨by decide, by decide⟩ (fun c_47 => absurd c_47 (by decide)) (fun c_47 => ?_)
        refine r_iconst dX12_grain_50 ?_
        refine r_goto (tgt := 55) dX12_grain_51 rfl ?_
        refine r_istore (L' := [_, _, _, _, _, _, _, _, _]) dX12_grain_55 rfl (by decide) rfl ?_
        refine r_aload_n dX12_grain_57 rfl rfl ?_
        refine r_iload_n dX12_grain_58 rfl rfl ?_
        refine r_iload dX12_grain_59 rfl ?_
        refine r_iload dX12_grain_61 rfl ?_
        refine r_iconst dX12_grain_63 ?_
        refine r_icmp_ge (tgt := 74) dX12_grain_64 rfl ⟨by decide, by decide⟩ ⟨by decide, by decide⟩ (fun c_64 => ?_) (fun c_64 => absurd c_64 (by decide))
        refine r_iload_n dX12_grain_74 rfl rfl ?_
        refine r_iload dX12_grain_75 rfl ?_
        refine r_iconst dX12_grain_77 ?_
        refine r_icmp_ge (tgt := 86) dX12_grain_78 rfl ⟨by decide, by decide⟩ ⟨by decide, by decide⟩ (fun c_78 => ?_) (fun c_78 => absurd c_78 (by decide))
        refine r_iload dX12_grain_86 rfl ?_
        refine r_iload dX12_grain_88 rfl ?_
        refine r_iadd dX12_grain_90 ?_
        refine r_callVI (av := [_, _, _, _]) (M' := mX12_differs) dX12_grain_91 vX12_differs ml_X12_202 sh_49 (by decide) rfl rfl rfl rfl (by simp [wtA]) (sp_X12_differs (by omega) (by omega) (by omega) (by omega) (by omega) (by omega) ?_)
        refine r_istore (L' := [_, _, _, _, _, _, _, _, _]) dX12_grain_94 rfl (by decide) rfl ?_
        refine r_iload dX12_grain_96 rfl ?_
        refine r_iload dX12_grain_98 rfl ?_
        refine r_icmp_le (tgt := 108) dX12_grain_100 rfl (by omega) (by omega) (fun c_100 => ?_) (fun c_100 => ?_)
        · refine r_iload dX12_grain_108 rfl ?_
          refine r_nmI (fun x5_110 e_x5_110 => ?_)
          refine r_istore (L' := [_, _, _, _, _, _, _, _, _]) dX12_grain_110 rfl (by decide) rfl ?_
          refine r_iinc (L' := [_, _, _, _, _, _, _, _, _]) dX12_grain_112 rfl rfl (by decide) rfl ?_
          refine r_goto (tgt := 37) dX12_grain_115 rfl ?_
          refine r_iload dX12_grain_37 rfl ?_
          refine r_iconst dX12_grain_39 ?_
          refine r_icmp_ge (tgt := 118) dX12_grain_40 rfl ⟨by decide, by decide⟩ ⟨by decide, by decide⟩ (fun c_40 => absurd c_40 (by decide)) (fun c_40 => ?_)
          refine r_iload dX12_grain_43 rfl ?_
          refine r_iconst dX12_grain_45 ?_
          refine r_irem dX12_grain_46 ⟨by decide, by decide⟩ ⟨by decide, by decide⟩ (by decide) ?_
          refine r_if_ne (tgt := 54) dX12_grain_47 rfl ⟨by decide, by decide⟩ (fun c_47 => ?_) (fun c_47 => absurd c_47 (by decide))
          refine r_iconst dX12_grain_54 ?_
          refine r_istore (L' := [_, _, _, _, _, _, _, _, _]) dX12_grain_55 rfl (by decide) rfl ?_
          refine r_aload_n dX12_grain_57 rfl rfl ?_
          refine r_iload_n dX12_grain_58 rfl rfl ?_
          refine r_iload dX12_grain_59 rfl ?_
          refine r_iload dX12_grain_61 rfl ?_
          refine r_iconst dX12_grain_63 ?_
          refine r_icmp_ge (tgt := 74) dX12_grain_64 rfl ⟨by decide, by decide⟩ ⟨by decide, by decide⟩ (fun c_64 => ?_) (fun c_64 => absurd c_64 (by decide))
          refine r_iload_n dX12_grain_74 rfl rfl ?_
          refine r_iload dX12_grain_75 rfl ?_
          refine r_iconst dX12_grain_77 ?_
          refine r_icmp_ge (tgt := 86) dX12_grain_78 rfl ⟨by decide, by decide⟩ ⟨by decide, by decide⟩ (fun c_78 => ?_) (fun c_78 => absurd c_78 (by decide))
          refine r_iload dX12_grain_86 rfl ?_
          refine r_iload dX12_grain_88 rfl ?_
          refine r_iadd dX12_grain_90 ?_
          refine r_callVI (av := [_, _, _, _]) (M' := mX12_differs) dX12_grain_91 vX12_differs ml_X12_202 sh_49 (by decide) rfl rfl rfl rfl (by simp [wtA]) (sp_X12_differs (by omega) (by omega) (by omega) (by omega) (by omega) (by omega) ?_)
          refine r_istore (L' := [_, _, _, _, _, _, _, _, _]) dX12_grain_94 rfl (by decide) rfl ?_
          refine r_iload dX12_grain_96 rfl ?_
          refine r_iload dX12_grain_98 rfl ?_
          refine r_icmp_le (tgt := 108) dX12_grain_100 rfl (by omega) (by omega) (fun c_100 => ?_) (fun c_100 => ?_)
          · refine r_iload dX12_grain_108 rfl ?_
            refine r_nmI (fun x5_110 e_x5_110 => ?_)
            refine r_istore (L' := [_, _, _, _, _, _, _, _, _]) dX12_grain_110 rfl (by decide) rfl ?_
            refine r_iinc (L' := [_, _, _, _, _, _, _, _, _]) dX12_grain_112 rfl rfl (by decide) rfl ?_
            refine r_goto (tgt := 37) dX12_grain_115 rfl ?_
            refine r_iload dX12_grain_37 rfl ?_
            refine r_iconst dX12_grain_39 ?_
            refine r_icmp_ge (tgt := 118) dX12_grain_40 rfl ⟨by decide, by decide⟩ ⟨by decide, by decide⟩ (fun c_40 => ?_) (fun c_40 => absurd c_40 (by decide))
            refine r_iload dX12_grain_118 rfl ?_
            refine r_iret dX12_grain_120 rfl ?_
            refine ⟨_, rfl, eqP k ?_⟩
            unfold fnGrain grF
            rw [if_pos (by omega), ← e_l, ← e_r, show l - 1 = l + -1 from rfl, show r - 1 = r + -1 from rfl]
            omega
          · refine r_iload dX12_grain_103 rfl ?_
            refine r_goto (tgt := 110) dX12_grain_105 rfl ?_
            refine r_nmI (fun x5_110 e_x5_110 => ?_)
            refine r_istore (L' := [_, _, _, _, _, _, _, _, _]) dX12_grain_110 rfl (by decide) rfl ?_
            refine r_iinc (L' := [_, _, _, _, _, _, _, _, _]) dX12_grain_112 rfl rfl (by decide) rfl ?_
            refine r_goto (tgt := 37) dX12_grain_115 rfl ?_
            refine r_iload dX12_grain_37 rfl ?_
            refine r_iconst dX12_grain_39 ?_
            refine r_icmp_ge (tgt := 118) dX12_grain_40 rfl ⟨by decide, by decide⟩ ⟨by decide, by decide⟩ (fun c_40 => ?_) (fun c_40 => absurd c_40 (by decide))
            refine r_iload dX12_grain_118 rfl ?_
            refine r_iret dX12_grain_120 rfl ?_
            refine ⟨_, rfl, eqP k ?_⟩
            unfold fnGrain grF
            rw [if_pos (by omega), ← e_l, ← e_r, show l - 1 = l + -1 from rfl, show r - 1 = r + -1 from rfl]
            omega
        · refine r_iload dX12_grain_103 rfl ?_
          refine r_goto (tgt := 110) dX12_grain_105 rfl ?_
          refine r_nmI (fun x5_110 e_x5_110 => ?_)
          refine r_istore (L' := [_, _, _, _, _, _, _, _, _]) dX12_grain_110 rfl (by decide) rfl ?_
          refine r_iinc (L' := [_, _, _, _, _, _, _, _, _]) dX12_grain_112 rfl rfl (by decide) rfl ?_
          refine r_goto (tgt := 37) dX12_grain_115 rfl ?_
          refine r_iload dX12_grain_37 rfl ?_
          refine r_iconst dX12_grain_39 ?_
          refine r_icmp_ge (tgt := 118) dX12_grain_40 rfl ⟨by decide, by decide⟩ ⟨by decide, by decide⟩ (fun c_40 => absurd c_40 (by decide)) (fun c_40 => ?_)
          refine r_iload dX12_grain_43 rfl ?_
          refine r_iconst dX12_grain_45 ?_
          refine r_irem dX12_grain_46 ⟨by decide, by decide⟩ ⟨by decide, by decide⟩ (by decide) ?_
          refine r_if_ne (tgt := 54) dX12_grain_47 rfl ⟨by decide, by decide⟩ (fun c_47 => ?_) (fun c_47 => absurd c_47 (by decide))
          refine r_iconst dX12_grain_54 ?_
          refine r_istore (L' := [_, _, _, _, _, _, _, _, _]) dX12_grain_55 rfl (by decide) rfl ?_
          refine r_aload_n dX12_grain_57 rfl rfl ?_
          refine r_iload_n dX12_grain_58 rfl rfl ?_
          refine r_iload dX12_grain_59 rfl ?_
          refine r_iload dX12_grain_61 rfl ?_
          refine r_iconst dX12_grain_63 ?_
          refine r_icmp_ge (tgt := 74) dX12_grain_64 rfl ⟨by decide, by decide⟩ ⟨by decide, by decide⟩ (fun c_64 => ?_) (fun c_64 => absurd c_64 (by decide))
          refine r_iload_n dX12_grain_74 rfl rfl ?_
          refine r_iload dX12_grain_75 rfl ?_
          refine r_iconst dX12_grain_77 ?_
          refine r_icmp_ge (tgt := 86) dX12_grain_78 rfl ⟨by decide, by decide⟩ ⟨by decide, by decide⟩ (fun c_78 => ?_) (fun c_78 => absurd c_78 (by decide))
          refine r_iload dX12_grain_86 rfl ?_
          refine r_iload dX12_grain_88 rfl ?_
          refine r_iadd dX12_grain_90 ?_
          refine r_callVI (av := [_, _, _, _]) (M' := mX12_differs) dX12_grain_91 vX12_differs ml_X12_202 sh_49 (by decide) rfl rfl rfl rfl (by simp [wtA]) (sp_X12_differs (by omega) (by omega) (by omega) (by omega) (by omega) (by omega) ?_)
          refine r_istore (L' := [_, _, _, _, _, _, _, _, _]) dX12_grain_94 rfl (by decide) rfl ?_
          refine r_iload dX12_grain_96 rfl ?_
          refine r_iload dX12_grain_98 rfl ?_
          refine r_icmp_le (tgt := 108) dX12_grain_100 rfl (by omega) (by omega) (fun c_100 => ?_) (fun c_100 => ?_)
          · refine r_iload dX12_grain_108 rfl ?_
            refine r_nmI (fun x5_110 e_x5_110 => ?_)
            refine r_istore (L' := [_, _, _, _, _, _, _, _, _]) dX12_grain_110 rfl (by decide) rfl ?_
            refine r_iinc (L' := [_, _, _, _, _, _, _, _, _]) dX12_grain_112 rfl rfl (by decide) rfl ?_
            refine r_goto (tgt := 37) dX12_grain_115 rfl ?_
            refine r_iload dX12_grain_37 rfl ?_
            refine r_iconst dX12_grain_39 ?_
            refine r_icmp_ge (tgt := 118) dX12_grain_40 rfl ⟨by decide, by decide⟩ ⟨by decide, by decide⟩ (fun c_40 => ?_) (fun c_40 => absurd c_40 (by decide))
            refine r_iload dX12_grain_118 rfl ?_
            refine r_iret dX12_grain_120 rfl ?_
            refine ⟨_, rfl, eqP k ?_⟩
            unfold fnGrain grF
            rw [if_pos (by omega), ← e_l, ← e_r, show l - 1 = l + -1 from rfl, show r - 1 = r + -1 from rfl]
            omega
          · refine r_iload dX12_grain_103 rfl ?_
            refine r_goto (tgt := 110) dX12_grain_105 rfl ?_
            refine r_nmI (fun x5_110 e_x5_110 => ?_)
            refine r_istore (L' := [_, _, _, _, _, _, _, _, _]) dX12_grain_110 rfl (by decide) rfl ?_
            refine r_iinc (L' := [_, _, _, _, _, _, _, _, _]) dX12_grain_112 rfl rfl (by decide) rfl ?_
            refine r_goto (tgt := 37) dX12_grain_115 rfl ?_
            refine r_iload dX12_grain_37 rfl ?_
            refine r_iconst dX12_grain_39 ?_
            refine r_icmp_ge (tgt := 118) dX12_grain_40 rfl ⟨by decide, by decide⟩ ⟨by decide, by decide⟩ (fun c_40 => ?_) (fun c_40 => absurd c_40 (by decide))
            refine r_iload dX12_grain_118 rfl ?_
            refine r_iret dX12_grain_120 rfl ?_
            refine ⟨_, rfl, eqP k ?_⟩
            unfold fnGrain grF
            rw [if_pos (by omega), ← e_l, ← e_r, show l - 1 = l + -1 from rfl, show r - 1 = r + -1 from rfl]
            omega
  · refine r_if_ne (tgt := 16) dX12_grain_11 rfl ⟨by decide, by decide⟩ (fun c_11 => absurd c_11 (by decide)) (fun c_11 => ?_)
    refine r_iconst dX12_grain_14 ?_
    refine r_iret dX12_grain_15 rfl ?_
    refine ⟨_, rfl, eqP (k) ?_⟩
    unfold fnGrain
    (repeat' split) <;> first | rfl | omega
