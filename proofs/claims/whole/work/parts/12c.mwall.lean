set_option maxRecDepth 20000 in
set_option maxHeartbeats 400000 in
theorem sp_X12_leftOf {d : Nat} (hd : 3 ≤ d) {x y : Int} {h : Hp}  (hw : MOK h) (hx : 0 ≤ x ∧ x ≤ 20000) (hy : 0 ≤ y ∧ y ≤ 20000) {P : Int → Hp → Prop} (k : P (stF (h 49 5) (h 49 6) x y) (h)) : Cl d mX12_leftOf [.inr (.inr 49), .inl x, .inl y] h (pI P) := by
  refine Cl.of (L := [some (.inr (.inr 49)), some (.inl x), some (.inl y)]) (by decide +kernel) (Nat.le_of_ble_eq_true rfl) rfl ?_
  obtain ⟨d, rfl⟩ : ∃ q, d = q + 1 := ⟨d - 1, by omega⟩
  refine r_aload_n dX12_leftOf_0 rfl rfl ?_
  refine r_iload_n dX12_leftOf_1 rfl rfl ?_
  refine r_i2l dX12_leftOf_2 (by omega) ?_
  refine r_iload_n dX12_leftOf_3 rfl rfl ?_
  refine r_i2l dX12_leftOf_4 (by omega) ?_
  refine r_callVI (av := [_, _]) (M' := mX12_stepsFor) dX12_leftOf_5 vX12_stepsFor ml_X12_150 sh_49 (by decide) rfl rfl rfl rfl (by simp [wtA]) (sp_X12_stepsFor (by omega) (by omega) (by omega) (by omega) ?_)
  refine r_iret dX12_leftOf_8 rfl ?_
  exact ⟨_, rfl, k⟩
set_option maxRecDepth 20000 in
set_option maxHeartbeats 400000 in
theorem sp_X12_rightOf {d : Nat} (hd : 3 ≤ d) {x y : Int} {h : Hp}  (hw : MOK h) (hx : 0 ≤ x ∧ x ≤ 100 * (h 49 3)) (hy : 0 ≤ y ∧ y ≤ 20000) {P : Int → Hp → Prop} (k : P (stF (h 49 5) (h 49 6) (100 * (h 49 3) - x) y) (h)) : Cl d mX12_rightOf [.inr (.inr 49), .inl x, .inl y] h (pI P) := by
  refine Cl.of (L := [some (.inr (.inr 49)), some (.inl x), some (.inl y)]) (by decide +kernel) (Nat.le_of_ble_eq_true rfl) rfl ?_
  obtain ⟨d, rfl⟩ : ∃ q, d = q + 1 := ⟨d - 1, by omega⟩
  refine r_aload_n dX12_rightOf_0 rfl rfl ?_
  refine r_bipush dX12_rightOf_1 (by decide +kernel) ?_
  refine r_aload_n dX12_rightOf_3 rfl rfl ?_
  refine r_getI dX12_rightOf_4 fl_X12_13 sh_49 rfl ?_
  refine r_imul dX12_rightOf_7 ?_
  refine r_iload_n dX12_rightOf_8 rfl rfl ?_
  refine r_isub dX12_rightOf_9 ?_
  refine r_i2l dX12_rightOf_10 (by omega) ?_
  refine r_iload_n dX12_rightOf_11 rfl rfl ?_
  refine r_i2l dX12_rightOf_12 (by omega) ?_
  refine r_callVI (av := [_, _]) (M' := mX12_stepsFor) dX12_rightOf_13 vX12_stepsFor ml_X12_150 sh_49 (by decide) rfl rfl rfl rfl (by simp [wtA]) (sp_X12_stepsFor (by omega) (by omega) (by omega) (by omega) ?_)
  refine r_iret dX12_rightOf_16 rfl ?_
  exact ⟨_, rfl, k⟩
set_option maxRecDepth 20000 in
set_option maxHeartbeats 400000 in
theorem sp_X12_placeX {d : Nat} (hd : 2 ≤ d) {l r : Int} {h : Hp}  (hw : MOK h) (hl : -20000 ≤ l ∧ l ≤ 20000) (hr : -20000 ≤ r ∧ r ≤ 20000) {P : Int → Hp → Prop} (k : P (pX (h 49 5) (h 49 3) (h 49 6) l r) (h)) : Cl d mX12_placeX [.inr (.inr 49), .inl l, .inl r] h (pI P) := by
  refine Cl.of (L := [some (.inr (.inr 49)), some (.inl l), some (.inl r), none, none, none, none, none, none]) (by decide +kernel) (Nat.le_of_ble_eq_true rfl) rfl ?_
  obtain ⟨d, rfl⟩ : ∃ q, d = q + 1 := ⟨d - 1, by omega⟩
  have g1 := pX_r (K := (h 49 5)) (W := (h 49 3)) (E := (h 49 6)) (l := l) (r := r) (by omega) (by omega) (by omega) hl hr
  have g2 := pY_r (K := (h 49 5)) (W := (h 49 3)) (E := (h 49 6)) (l := l) (r := r) (by omega) (by omega) hl
  have g3 := sqR _ (hgF_r (E := (h 49 6)) (by omega) hl)
  have g4 := sqR _ (hgF_r (E := (h 49 6)) (by omega) hr)
  have g5 := KKr (K := (h 49 5)) (by omega)
  have g6 := sqR 300000000 (a := pX (h 49 5) (h 49 3) (h 49 6) l r) (by omega)
  have g7 := tdivNN (a := 10000 * hgF (h 49 6) l * hgF (h 49 6) l) (b := (h 49 5) * (h 49 5)) (by omega) (by omega)
  refine r_aload_n dX12_placeX_0 rfl rfl ?_
  refine r_iload_n dX12_placeX_1 rfl rfl ?_
  refine r_callVJ (av := [_]) (M' := mX12_hung) dX12_placeX_2 vX12_hung ml_X12_146 sh_49 (by decide) rfl rfl rfl rfl (by simp [wtA]) (sp_X12_hung (by omega) (by omega) (by omega) ?_)
  refine r_lstore_n (L' := [_, _, _, _, _, _, _, _, _]) dX12_placeX_5 rfl rfl (by decide) rfl ?_
  refine r_aload_n dX12_placeX_6 rfl rfl ?_
  refine r_iload_n dX12_placeX_7 rfl rfl ?_
  refine r_callVJ (av := [_]) (M' := mX12_hung) dX12_placeX_8 vX12_hung ml_X12_146 sh_49 (by decide) rfl rfl rfl rfl (by simp [wtA]) (sp_X12_hung (by omega) (by omega) (by omega) ?_)
  refine r_lstore (L' := [_, _, _, _, _, _, _, _, _]) dX12_placeX_11 rfl (by decide) rfl ?_
  refine r_aload_n dX12_placeX_13 rfl rfl ?_
  refine r_getI dX12_placeX_14 fl_X12_20 sh_49 rfl ?_
  refine r_i2l dX12_placeX_17 (by omega) ?_
  refine r_aload_n dX12_placeX_18 rfl rfl ?_
  refine r_getI dX12_placeX_19 fl_X12_20 sh_49 rfl ?_
  refine r_i2l dX12_placeX_22 (by omega) ?_
  refine r_lmul dX12_placeX_23 ?_
  refine r_lstore (L' := [_, _, _, _, _, _, _, _, _]) dX12_placeX_24 rfl (by decide) rfl ?_
  refine r_ldc2 (z := 100) dX12_placeX_26 kl_X12_144 (by decide +kernel) ?_
  refine r_lload_n dX12_placeX_29 rfl rfl ?_
  refine r_lload_n dX12_placeX_30 rfl rfl ?_
  refine r_lmul dX12_placeX_31 ?_
  refine r_lload dX12_placeX_32 rfl ?_
  refine r_lload dX12_placeX_34 rfl ?_
  refine r_lmul dX12_placeX_36 ?_
  refine r_lsub dX12_placeX_37 ?_
  refine r_lload dX12_placeX_38 rfl ?_
  refine r_aload_n dX12_placeX_40 rfl rfl ?_
  refine r_getI dX12_placeX_41 fl_X12_13 sh_49 rfl ?_
  refine r_i2l dX12_placeX_44 (by omega) ?_
  refine r_lmul dX12_placeX_45 ?_
  refine r_aload_n dX12_placeX_46 rfl rfl ?_
  refine r_getI dX12_placeX_47 fl_X12_13 sh_49 rfl ?_
  refine r_i2l dX12_placeX_50 (by omega) ?_
  refine r_lmul dX12_placeX_51 ?_
  refine r_ladd dX12_placeX_52 ?_
  refine r_lmul dX12_placeX_53 ?_
  refine r_ldc2 (z := 2) dX12_placeX_54 kl_X12_154 (by decide +kernel) ?_
  refine r_lload dX12_placeX_57 rfl ?_
  refine r_lmul dX12_placeX_59 ?_
  refine r_aload_n dX12_placeX_60 rfl rfl ?_
  refine r_getI dX12_placeX_61 fl_X12_13 sh_49 rfl ?_
  refine r_i2l dX12_placeX_64 (by omega) ?_
  refine r_lmul dX12_placeX_65 ?_
  refine r_ldiv dX12_placeX_66 (by omega) (by omega) (by omega) ?_
  refine r_l2i dX12_placeX_67 ?_
  refine r_iret dX12_placeX_68 rfl ?_
  exact ⟨_, rfl, k⟩
set_option maxRecDepth 20000 in
set_option maxHeartbeats 400000 in
theorem sp_X12_placeY {d : Nat} (hd : 3 ≤ d) {l r : Int} {h : Hp}  (hw : MOK h) (hl : -20000 ≤ l ∧ l ≤ 20000) (hr : -20000 ≤ r ∧ r ≤ 20000) {P : Int → Hp → Prop} (k : P (pY (h 49 5) (h 49 3) (h 49 6) l r) (h)) : Cl d mX12_placeY [.inr (.inr 49), .inl l, .inl r] h (pI P) := by
  refine Cl.of (L := [some (.inr (.inr 49)), some (.inl l), some (.inl r), none, none, none, none, none, none]) (by decide +kernel) (Nat.le_of_ble_eq_true rfl) rfl ?_
  obtain ⟨d, rfl⟩ : ∃ q, d = q + 1 := ⟨d - 1, by omega⟩
  have g1 := pX_r (K := (h 49 5)) (W := (h 49 3)) (E := (h 49 6)) (l := l) (r := r) (by omega) (by omega) (by omega) hl hr
  have g2 := pY_r (K := (h 49 5)) (W := (h 49 3)) (E := (h 49 6)) (l := l) (r := r) (by omega) (by omega) hl
  have g3 := sqR _ (hgF_r (E := (h 49 6)) (by omega) hl)
  have g4 := sqR _ (hgF_r (E := (h 49 6)) (by omega) hr)
  have g5 := KKr (K := (h 49 5)) (by omega)
  have g6 := sqR 300000000 (a := pX (h 49 5) (h 49 3) (h 49 6) l r) (by omega)
  have g7 := tdivNN (a := 10000 * hgF (h 49 6) l * hgF (h 49 6) l) (b := (h 49 5) * (h 49 5)) (by omega) (by omega)
  refine r_aload_n dX12_placeY_0 rfl rfl ?_
  refine r_iload_n dX12_placeY_1 rfl rfl ?_
  refine r_callVJ (av := [_]) (M' := mX12_hung) dX12_placeY_2 vX12_hung ml_X12_146 sh_49 (by decide) rfl rfl rfl rfl (by simp [wtA]) (sp_X12_hung (by omega) (by omega) (by omega) ?_)
  refine r_lstore_n (L' := [_, _, _, _, _, _, _, _, _]) dX12_placeY_5 rfl rfl (by decide) rfl ?_
  refine r_aload_n dX12_placeY_6 rfl rfl ?_
  refine r_iload_n dX12_placeY_7 rfl rfl ?_
  refine r_iload_n dX12_placeY_8 rfl rfl ?_
  refine r_callVI (av := [_, _]) (M' := mX12_placeX) dX12_placeY_9 vX12_placeX ml_X12_156 sh_49 (by decide) rfl rfl rfl rfl (by simp [wtA]) (sp_X12_placeX (by omega) (by omega) (by omega) (by omega) ?_)
  refine r_i2l dX12_placeY_12 (by omega) ?_
  refine r_lstore (L' := [_, _, _, _, _, _, _, _, _]) dX12_placeY_13 rfl (by decide) rfl ?_
  refine r_ldc2 (z := 10000) dX12_placeY_15 kl_X12_138 (by decide +kernel) ?_
  refine r_lload_n dX12_placeY_18 rfl rfl ?_
  refine r_lmul dX12_placeY_19 ?_
  refine r_lload_n dX12_placeY_20 rfl rfl ?_
  refine r_lmul dX12_placeY_21 ?_
  refine r_aload_n dX12_placeY_22 rfl rfl ?_
  refine r_getI dX12_placeY_23 fl_X12_20 sh_49 rfl ?_
  refine r_i2l dX12_placeY_26 (by omega) ?_
  refine r_aload_n dX12_placeY_27 rfl rfl ?_
  refine r_getI dX12_placeY_28 fl_X12_20 sh_49 rfl ?_
  refine r_i2l dX12_placeY_31 (by omega) ?_
  refine r_lmul dX12_placeY_32 ?_
  refine r_ldiv dX12_placeY_33 (by omega) (by omega) (by omega) ?_
  refine r_lload dX12_placeY_34 rfl ?_
  refine r_lload dX12_placeY_36 rfl ?_
  refine r_lmul dX12_placeY_38 ?_
  refine r_lsub dX12_placeY_39 ?_
  refine r_nmJ (fun x7 e_x7 => ?_)
  refine r_lstore (L' := [_, _, _, _, _, _, _, _, _]) dX12_placeY_40 rfl (by decide) rfl ?_
  refine r_lload dX12_placeY_42 rfl ?_
  refine r_lconst (z := 0) dX12_placeY_44 (by decide +kernel) ?_
  refine r_lcmp_ge (tgt := 53) dX12_placeY_45 dX12_placeY_46 rfl (by omega) ⟨by decide, by decide⟩ (fun c_45 => ?_) (fun c_45 => ?_)
  · refine r_lload dX12_placeY_53 rfl ?_
    refine r_callSJ (av := [_]) (M' := mX12_root) dX12_placeY_55 sX12_root ml_X12_140 rfl rfl (by simp [wtA]) (sp_X12_root (by omega) (by omega) ?_)
    refine r_l2i dX12_placeY_58 ?_
    refine r_iret dX12_placeY_59 rfl ?_
    refine ⟨_, rfl, eqP k ?_⟩
    unfold pY rt0
    rw [← e_x7]
    split
    · first | rfl | (rw [show x7 = 0 by omega, rt_0])
    · first | rfl | omega
  · refine r_iconst dX12_placeY_49 ?_
    refine r_goto (tgt := 59) dX12_placeY_50 rfl ?_
    refine r_iret dX12_placeY_59 rfl ?_
    refine ⟨_, rfl, eqP k ?_⟩
    unfold pY rt0
    rw [← e_x7]
    split
    · first | rfl | (rw [show x7 = 0 by omega, rt_0])
    · first | rfl | omega
set_option maxRecDepth 20000 in
set_option maxHeartbeats 400000 in
theorem sp_X12_isOnWall {d : Nat} (hd : 2 ≤ d) {x y : Int} {h : Hp}  (hw : MOK h) (hx : R32 x) (hy : R32 y) {P : Int → Hp → Prop} (kt : ((0 ≤ x ∧ x ≤ 100 * (h 49 3)) ∧ (0 ≤ y ∧ y ≤ 100 * (h 49 4))) → P 1 h) (kf : ¬ ((0 ≤ x ∧ x ≤ 100 * (h 49 3)) ∧ (0 ≤ y ∧ y ≤ 100 * (h 49 4))) → P 0 h) : Cl d mX12_isOnWall [.inr (.inr 49), .inl x, .inl y] h (pI P) := by
  refine Cl.of (L := [some (.inr (.inr 49)), some (.inl x), some (.inl y)]) (by decide +kernel) (Nat.le_of_ble_eq_true rfl) rfl ?_
  obtain ⟨d, rfl⟩ : ∃ q, d = q + 1 := ⟨d - 1, by omega⟩
  refine r_iload_n dX12_isOnWall_0 rfl rfl ?_
  refine r_iconst dX12_isOnWall_1 ?_
  refine r_bipush dX12_isOnWall_2 (by decide +kernel) ?_
  refine r_aload_n dX12_isOnWall_4 rfl rfl ?_
  refine r_getI dX12_isOnWall_5 fl_X12_13 sh_49 rfl ?_
  refine r_imul dX12_isOnWall_8 ?_
  refine r_callSI (av := [_, _, _]) (M' := mX12_isIn) dX12_isOnWall_9 sX12_isIn ml_X12_160 rfl rfl (by simp [wtA]) (sp_X12_isIn (by omega) (by omega) (by omega) (by omega) (fun b_9 => ?_) (fun b_9 => ?_))
  · refine r_if_eq (tgt := 34) dX12_isOnWall_12 rfl ⟨by decide, by decide⟩ (fun c_12 => absurd c_12 (by decide)) (fun c_12 => ?_)
    refine r_iload_n dX12_isOnWall_15 rfl rfl ?_
    refine r_iconst dX12_isOnWall_16 ?_
    refine r_bipush dX12_isOnWall_17 (by decide +kernel) ?_
    refine r_aload_n dX12_isOnWall_19 rfl rfl ?_
    refine r_getI dX12_isOnWall_20 fl_X12_17 sh_49 rfl ?_
    refine r_imul dX12_isOnWall_23 ?_
    refine r_callSI (av := [_, _, _]) (M' := mX12_isIn) dX12_isOnWall_24 sX12_isIn ml_X12_160 rfl rfl (by simp [wtA]) (sp_X12_isIn (by omega) (by omega) (by omega) (by omega) (fun b_24 => ?_) (fun b_24 => ?_))
    · refine r_if_eq (tgt := 34) dX12_isOnWall_27 rfl ⟨by decide, by decide⟩ (fun c_27 => absurd c_27 (by decide)) (fun c_27 => ?_)
      refine r_iconst dX12_isOnWall_30 ?_
      refine r_goto (tgt := 35) dX12_isOnWall_31 rfl ?_
      refine r_zret dX12_isOnWall_35 rfl (.inr rfl) ?_
      exact ⟨_, rfl, kt (by omega)⟩
    · refine r_if_eq (tgt := 34) dX12_isOnWall_27 rfl ⟨by decide, by decide⟩ (fun c_27 => ?_) (fun c_27 => absurd c_27 (by decide))
      refine r_iconst dX12_isOnWall_34 ?_
      refine r_zret dX12_isOnWall_35 rfl (.inl rfl) ?_
      exact ⟨_, rfl, kf (by omega)⟩
  · refine r_if_eq (tgt := 34) dX12_isOnWall_12 rfl ⟨by decide, by decide⟩ (fun c_12 => ?_) (fun c_12 => absurd c_12 (by decide))
    refine r_iconst dX12_isOnWall_34 ?_
    refine r_zret dX12_isOnWall_35 rfl (.inl rfl) ?_
    exact ⟨_, rfl, kf (by omega)⟩
set_option maxRecDepth 20000 in
set_option maxHeartbeats 400000 in
theorem sp_X10_holds {d : Nat} (hd : 2 ≤ d) {x y : Int} {h : Hp}  (hw : WOK h) (hx : R32 x) (hy : R32 y) {P : Int → Hp → Prop} (kt : ((0 ≤ x ∧ x ≤ 100 * (h 1 0)) ∧ (0 ≤ y ∧ y ≤ 100 * (h 1 1))) → P 1 h) (kf : ¬ ((0 ≤ x ∧ x ≤ 100 * (h 1 0)) ∧ (0 ≤ y ∧ y ≤ 100 * (h 1 1))) → P 0 h) : Cl d mX10_holds [.inr (.inr 1), .inl x, .inl y] h (pI P) := by
  refine Cl.of (L := [some (.inr (.inr 1)), some (.inl x), some (.inl y)]) (by decide +kernel) (Nat.le_of_ble_eq_true rfl) rfl ?_
  obtain ⟨d, rfl⟩ : ∃ q, d = q + 1 := ⟨d - 1, by omega⟩
  refine r_iload_n dX10_holds_0 rfl rfl ?_
  refine r_iconst dX10_holds_1 ?_
  refine r_bipush dX10_holds_2 (by decide +kernel) ?_
  refine r_aload_n dX10_holds_4 rfl rfl ?_
  refine r_getI dX10_holds_5 fl_X10_9 sh_1 rfl ?_
  refine r_imul dX10_holds_8 ?_
  refine r_callNI (av := [_, _, _]) (M' := mX11_isWithin) dX10_holds_9 sX11_isWithin mn_X10_40 rfl rfl (by simp [wtA]) (sp_X11_isWithin (by omega) (by omega) (by omega) (by omega) (fun b_9 => ?_) (fun b_9 => ?_))
  · refine r_if_eq (tgt := 34) dX10_holds_12 rfl ⟨by decide, by decide⟩ (fun c_12 => absurd c_12 (by decide)) (fun c_12 => ?_)
    refine r_iload_n dX10_holds_15 rfl rfl ?_
    refine r_iconst dX10_holds_16 ?_
    refine r_bipush dX10_holds_17 (by decide +kernel) ?_
    refine r_aload_n dX10_holds_19 rfl rfl ?_
    refine r_getI dX10_holds_20 fl_X10_15 sh_1 rfl ?_
    refine r_imul dX10_holds_23 ?_
    refine r_callNI (av := [_, _, _]) (M' := mX11_isWithin) dX10_holds_24 sX11_isWithin mn_X10_40 rfl rfl (by simp [wtA]) (sp_X11_isWithin (by omega) (by omega) (by omega) (by omega) (fun b_24 => ?_) (fun b_24 => ?_))
    · refine r_if_eq (tgt := 34) dX10_holds_27 rfl ⟨by decide, by decide⟩ (fun c_27 => absurd c_27 (by decide)) (fun c_27 => ?_)
      refine r_iconst dX10_holds_30 ?_
      refine r_goto (tgt := 35) dX10_holds_31 rfl ?_
      refine r_zret dX10_holds_35 rfl (.inr rfl) ?_
      exact ⟨_, rfl, kt (by omega)⟩
    · refine r_if_eq (tgt := 34) dX10_holds_27 rfl ⟨by decide, by decide⟩ (fun c_27 => ?_) (fun c_27 => absurd c_27 (by decide))
      refine r_iconst dX10_holds_34 ?_
      refine r_zret dX10_holds_35 rfl (.inl rfl) ?_
      exact ⟨_, rfl, kf (by omega)⟩
  · refine r_if_eq (tgt := 34) dX10_holds_12 rfl ⟨by decide, by decide⟩ (fun c_12 => ?_) (fun c_12 => absurd c_12 (by decide))
    refine r_iconst dX10_holds_34 ?_
    refine r_zret dX10_holds_35 rfl (.inl rfl) ?_
    exact ⟨_, rfl, kf (by omega)⟩
