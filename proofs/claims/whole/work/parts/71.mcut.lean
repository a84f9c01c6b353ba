/-! LINES OF THE REFERENCE -/
def gmM (h : Hp) : Gm := (h 49 29, h 60, h 61, h 62, h 49 12)
def wnM (h : Hp) : Q4 := (h 63 0, h 63 2, h 63 1, h 63 3)
abbrev EM (h : Hp) (e : Q4) : Prop := h 67 0 = e.1 ∧ h 68 0 = e.2.1 ∧ h 67 1 = e.2.2.1 ∧ h 68 1 = e.2.2.2
set_option maxRecDepth 20000 in
set_option maxHeartbeats 400000 in
theorem sp_bey_0_0 {d : Nat} (hd : 1 ≤ d) {h : Hp}  (hr : (-600000 ≤ h 67 0 ∧ h 67 0 ≤ 600000) ∧ (-2000 ≤ h 63 0 ∧ h 63 0 ≤ 2000)) {P : Int → Hp → Prop} (kt : ((h 67 0 - h 63 0) * 1 < 0) → P 1 h) (kf : ¬ ((h 67 0 - h 63 0) * 1 < 0) → P 0 h) : Cl d mX12_isBeyond [.inr (.inr 49), .inl 0, .inl 0] h (pI P) := by
  refine Cl.of (L := [some (.inr (.inr 49)), some (.inl 0), some (.inl 0), none, none]) (by decide +kernel) (Nat.le_of_ble_eq_true rfl) rfl ?_
  refine r_iload_n dX12_isBeyond_0 rfl rfl ?_
  refine r_iconst dX12_isBeyond_1 ?_
  refine r_icmp_ge (tgt := 14) dX12_isBeyond_2 rfl ⟨by decide, by decide⟩ ⟨by decide, by decide⟩ (fun c_2 => absurd c_2 (by decide)) (fun c_2 => ?_)
  refine r_aload_n dX12_isBeyond_5 rfl rfl ?_
  refine r_getR dX12_isBeyond_6 fl_X12_81 sh_49 rfl ?_
  refine r_iload_n dX12_isBeyond_9 rfl rfl ?_
  refine r_lald dX12_isBeyond_10 sh_67 (by decide) ⟨by decide, by decide⟩ ?_
  refine r_eqJ (y := h 67 0) rfl ?_
  refine r_goto (tgt := 20) dX12_isBeyond_11 rfl ?_
  refine r_lstore_n (L' := [_, _, _, _, _]) dX12_isBeyond_20 rfl rfl (by decide) rfl ?_
  refine r_iload_n dX12_isBeyond_21 rfl rfl ?_
  refine r_iconst dX12_isBeyond_22 ?_
  refine r_irem dX12_isBeyond_23 ⟨by decide, by decide⟩ ⟨by decide, by decide⟩ (by decide) ?_
  refine r_if_ne (tgt := 47) dX12_isBeyond_24 rfl ⟨by decide, by decide⟩ (fun c_24 => absurd c_24 (by decide)) (fun c_24 => ?_)
  refine r_lload_n dX12_isBeyond_27 rfl rfl ?_
  refine r_aload_n dX12_isBeyond_28 rfl rfl ?_
  refine r_getR dX12_isBeyond_29 fl_X12_69 sh_49 rfl ?_
  refine r_iload_n dX12_isBeyond_32 rfl rfl ?_
  refine r_iald dX12_isBeyond_33 sh_63 (by decide) ⟨by decide, by decide⟩ ?_
  refine r_eqI (y := h 63 0) rfl ?_
  refine r_i2l dX12_isBeyond_34 (by omega) ?_
  refine r_lcmp_ge (tgt := 43) dX12_isBeyond_35 dX12_isBeyond_36 rfl (by omega) (by omega) (fun c_35 => ?_) (fun c_35 => ?_)
  · refine r_iconst dX12_isBeyond_43 ?_
    refine r_goto (tgt := 64) dX12_isBeyond_44 rfl ?_
    refine r_zret dX12_isBeyond_64 rfl (.inl rfl) ?_
    exact ⟨_, rfl, kf (by omega)⟩
  · refine r_iconst dX12_isBeyond_39 ?_
    refine r_goto (tgt := 64) dX12_isBeyond_40 rfl ?_
    refine r_zret dX12_isBeyond_64 rfl (.inr rfl) ?_
    exact ⟨_, rfl, kt (by omega)⟩
set_option maxRecDepth 20000 in
set_option maxHeartbeats 400000 in
theorem sp_bey_0_1 {d : Nat} (hd : 1 ≤ d) {h : Hp}  (hr : (-600000 ≤ h 67 1 ∧ h 67 1 ≤ 600000) ∧ (-2000 ≤ h 63 0 ∧ h 63 0 ≤ 2000)) {P : Int → Hp → Prop} (kt : ((h 67 1 - h 63 0) * 1 < 0) → P 1 h) (kf : ¬ ((h 67 1 - h 63 0) * 1 < 0) → P 0 h) : Cl d mX12_isBeyond [.inr (.inr 49), .inl 0, .inl 1] h (pI P) := by
  refine Cl.of (L := [some (.inr (.inr 49)), some (.inl 0), some (.inl 1), none, none]) (by decide +kernel) (Nat.le_of_ble_eq_true rfl) rfl ?_
  refine r_iload_n dX12_isBeyond_0 rfl rfl ?_
  refine r_iconst dX12_isBeyond_1 ?_
  refine r_icmp_ge (tgt := 14) dX12_isBeyond_2 rfl ⟨by decide, by decide⟩ ⟨by decide, by decide⟩ (fun c_2 => absurd c_2 (by decide)) (fun c_2 => ?_)
  refine r_aload_n dX12_isBeyond_5 rfl rfl ?_
  refine r_getR dX12_isBeyond_6 fl_X12_81 sh_49 rfl ?_
  refine r_iload_n dX12_isBeyond_9 rfl rfl ?_
  refine r_lald dX12_isBeyond_10 sh_67 (by decide) ⟨by decide, by decide⟩ ?_
  refine r_eqJ (y := h 67 1) rfl ?_
  refine r_goto (tgt := 20) dX12_isBeyond_11 rfl ?_
  refine r_lstore_n (L' := [_, _, _, _, _]) dX12_isBeyond_20 rfl rfl (by decide) rfl ?_
  refine r_iload_n dX12_isBeyond_21 rfl rfl ?_
  refine r_iconst dX12_isBeyond_22 ?_
  refine r_irem dX12_isBeyond_23 ⟨by decide, by decide⟩ ⟨by decide, by decide⟩ (by decide) ?_
  refine r_if_ne (tgt := 47) dX12_isBeyond_24 rfl ⟨by decide, by decide⟩ (fun c_24 => absurd c_24 (by decide)) (fun c_24 => ?_)
  refine r_lload_n dX12_isBeyond_27 rfl rfl ?_
  refine r_aload_n dX12_isBeyond_28 rfl rfl ?_
  refine r_getR dX12_isBeyond_29 fl_X12_69 sh_49 rfl ?_
  refine r_iload_n dX12_isBeyond_32 rfl rfl ?_
  refine r_iald dX12_isBeyond_33 sh_63 (by decide) ⟨by decide, by decide⟩ ?_
  refine r_eqI (y := h 63 0) rfl ?_
  refine r_i2l dX12_isBeyond_34 (by omega) ?_
  refine r_lcmp_ge (tgt := 43) dX12_isBeyond_35 dX12_isBeyond_36 rfl (by omega) (by omega) (fun c_35 => ?_) (fun c_35 => ?_)
  · refine r_iconst dX12_isBeyond_43 ?_
    refine r_goto (tgt := 64) dX12_isBeyond_44 rfl ?_
    refine r_zret dX12_isBeyond_64 rfl (.inl rfl) ?_
    exact ⟨_, rfl, kf (by omega)⟩
  · refine r_iconst dX12_isBeyond_39 ?_
    refine r_goto (tgt := 64) dX12_isBeyond_40 rfl ?_
    refine r_zret dX12_isBeyond_64 rfl (.inr rfl) ?_
    exact ⟨_, rfl, kt (by omega)⟩
set_option maxRecDepth 20000 in
set_option maxHeartbeats 400000 in
theorem sp_bey_1_0 {d : Nat} (hd : 1 ≤ d) {h : Hp}  (hr : (-600000 ≤ h 67 0 ∧ h 67 0 ≤ 600000) ∧ (-2000 ≤ h 63 1 ∧ h 63 1 ≤ 2000)) {P : Int → Hp → Prop} (kt : ((h 67 0 - h 63 1) * (-1) < 0) → P 1 h) (kf : ¬ ((h 67 0 - h 63 1) * (-1) < 0) → P 0 h) : Cl d mX12_isBeyond [.inr (.inr 49), .inl 1, .inl 0] h (pI P) := by
  refine Cl.of (L := [some (.inr (.inr 49)), some (.inl 1), some (.inl 0), none, none]) (by decide +kernel) (Nat.le_of_ble_eq_true rfl) rfl ?_
  refine r_iload_n dX12_isBeyond_0 rfl rfl ?_
  refine r_iconst dX12_isBeyond_1 ?_
  refine r_icmp_ge (tgt := 14) dX12_isBeyond_2 rfl ⟨by decide, by decide⟩ ⟨by decide, by decide⟩ (fun c_2 => absurd c_2 (by decide)) (fun c_2 => ?_)
  refine r_aload_n dX12_isBeyond_5 rfl rfl ?_
  refine r_getR dX12_isBeyond_6 fl_X12_81 sh_49 rfl ?_
  refine r_iload_n dX12_isBeyond_9 rfl rfl ?_
  refine r_lald dX12_isBeyond_10 sh_67 (by decide) ⟨by decide, by decide⟩ ?_
  refine r_eqJ (y := h 67 0) rfl ?_
  refine r_goto (tgt := 20) dX12_isBeyond_11 rfl ?_
  refine r_lstore_n (L' := [_, _, _, _, _]) dX12_isBeyond_20 rfl rfl (by decide) rfl ?_
  refine r_iload_n dX12_isBeyond_21 rfl rfl ?_
  refine r_iconst dX12_isBeyond_22 ?_
  refine r_irem dX12_isBeyond_23 ⟨by decide, by decide⟩ ⟨by decide, by decide⟩ (by decide) ?_
  refine r_if_ne (tgt := 47) dX12_isBeyond_24 rfl ⟨by decide, by decide⟩ (fun c_24 => ?_) (fun c_24 => absurd c_24 (by decide))
  refine r_lload_n dX12_isBeyond_47 rfl rfl ?_
  refine r_aload_n dX12_isBeyond_48 rfl rfl ?_
  refine r_getR dX12_isBeyond_49 fl_X12_69 sh_49 rfl ?_
  refine r_iload_n dX12_isBeyond_52 rfl rfl ?_
  refine r_iald dX12_isBeyond_53 sh_63 (by decide) ⟨by decide, by decide⟩ ?_
  refine r_eqI (y := h 63 1) rfl ?_
  refine r_i2l dX12_isBeyond_54 (by omega) ?_
  refine r_lcmp_le (tgt := 63) dX12_isBeyond_55 dX12_isBeyond_56 rfl (by omega) (by omega) (fun c_55 => ?_) (fun c_55 => ?_)
  · refine r_iconst dX12_isBeyond_63 ?_
    refine r_zret dX12_isBeyond_64 rfl (.inl rfl) ?_
    exact ⟨_, rfl, kf (by omega)⟩
  · refine r_iconst dX12_isBeyond_59 ?_
    refine r_goto (tgt := 64) dX12_isBeyond_60 rfl ?_
    refine r_zret dX12_isBeyond_64 rfl (.inr rfl) ?_
    exact ⟨_, rfl, kt (by omega)⟩
set_option maxRecDepth 20000 in
set_option maxHeartbeats 400000 in
theorem sp_bey_1_1 {d : Nat} (hd : 1 ≤ d) {h : Hp}  (hr : (-600000 ≤ h 67 1 ∧ h 67 1 ≤ 600000) ∧ (-2000 ≤ h 63 1 ∧ h 63 1 ≤ 2000)) {P : Int → Hp → Prop} (kt : ((h 67 1 - h 63 1) * (-1) < 0) → P 1 h) (kf : ¬ ((h 67 1 - h 63 1) * (-1) < 0) → P 0 h) : Cl d mX12_isBeyond [.inr (.inr 49), .inl 1, .inl 1] h (pI P) := by
  refine Cl.of (L := [some (.inr (.inr 49)), some (.inl 1), some (.inl 1), none, none]) (by decide +kernel) (Nat.le_of_ble_eq_true rfl) rfl ?_
  refine r_iload_n dX12_isBeyond_0 rfl rfl ?_
  refine r_iconst dX12_isBeyond_1 ?_
  refine r_icmp_ge (tgt := 14) dX12_isBeyond_2 rfl ⟨by decide, by decide⟩ ⟨by decide, by decide⟩ (fun c_2 => absurd c_2 (by decide)) (fun c_2 => ?_)
  refine r_aload_n dX12_isBeyond_5 rfl rfl ?_
  refine r_getR dX12_isBeyond_6 fl_X12_81 sh_49 rfl ?_
  refine r_iload_n dX12_isBeyond_9 rfl rfl ?_
  refine r_lald dX12_isBeyond_10 sh_67 (by decide) ⟨by decide, by decide⟩ ?_
  refine r_eqJ (y := h 67 1) rfl ?_
  refine r_goto (tgt := 20) dX12_isBeyond_11 rfl ?_
  refine r_lstore_n (L' := [_, _, _, _, _]) dX12_isBeyond_20 rfl rfl (by decide) rfl ?_
  refine r_iload_n dX12_isBeyond_21 rfl rfl ?_
  refine r_iconst dX12_isBeyond_22 ?_
  refine r_irem dX12_isBeyond_23 ⟨by decide, by decide⟩ ⟨by decide, by decide⟩ (by decide) ?_
  refine r_if_ne (tgt := 47) dX12_isBeyond_24 rfl ⟨by decide, by decide⟩ (fun c_24 => ?_) (fun c_24 => absurd c_24 (by decide))
  refine r_lload_n dX12_isBeyond_47 rfl rfl ?_
  refine r_aload_n dX12_isBeyond_48 rfl rfl ?_
  refine r_getR dX12_isBeyond_49 fl_X12_69 sh_49 rfl ?_
  refine r_iload_n dX12_isBeyond_52 rfl rfl ?_
  refine r_iald dX12_isBeyond_53 sh_63 (by decide) ⟨by decide, by decide⟩ ?_
  refine r_eqI (y := h 63 1) rfl ?_
  refine r_i2l dX12_isBeyond_54 (by omega) ?_
  refine r_lcmp_le (tgt := 63) dX12_isBeyond_55 dX12_isBeyond_56 rfl (by omega) (by omega) (fun c_55 => ?_) (fun c_55 => ?_)
  · refine r_iconst dX12_isBeyond_63 ?_
    refine r_zret dX12_isBeyond_64 rfl (.inl rfl) ?_
    exact ⟨_, rfl, kf (by omega)⟩
  · refine r_iconst dX12_isBeyond_59 ?_
    refine r_goto (tgt := 64) dX12_isBeyond_60 rfl ?_
    refine r_zret dX12_isBeyond_64 rfl (.inr rfl) ?_
    exact ⟨_, rfl, kt (by omega)⟩
set_option maxRecDepth 20000 in
set_option maxHeartbeats 400000 in
theorem sp_bey_2_0 {d : Nat} (hd : 1 ≤ d) {h : Hp}  (hr : (-600000 ≤ h 68 0 ∧ h 68 0 ≤ 600000) ∧ (-2000 ≤ h 63 2 ∧ h 63 2 ≤ 2000)) {P : Int → Hp → Prop} (kt : ((h 68 0 - h 63 2) * 1 < 0) → P 1 h) (kf : ¬ ((h 68 0 - h 63 2) * 1 < 0) → P 0 h) : Cl d mX12_isBeyond [.inr (.inr 49), .inl 2, .inl 0] h (pI P) := by
  refine Cl.of (L := [some (.inr (.inr 49)), some (.inl 2), some (.inl 0), none, none]) (by decide +kernel) (Nat.le_of_ble_eq_true rfl) rfl ?_
  refine r_iload_n dX12_isBeyond_0 rfl rfl ?_
  refine r_iconst dX12_isBeyond_1 ?_
  refine r_icmp_ge (tgt := 14) dX12_isBeyond_2 rfl ⟨by decide, by decide⟩ ⟨by decide, by decide⟩ (fun c_2 => ?_) (fun c_2 => absurd c_2 (by decide))
  refine r_aload_n dX12_isBeyond_14 rfl rfl ?_
  refine r_getR dX12_isBeyond_15 fl_X12_85 sh_49 rfl ?_
  refine r_iload_n dX12_isBeyond_18 rfl rfl ?_
  refine r_lald dX12_isBeyond_19 sh_68 (by decide) ⟨by decide, by decide⟩ ?_
  refine r_eqJ (y := h 68 0) rfl ?_
  refine r_lstore_n (L' := [_, _, _, _, _]) dX12_isBeyond_20 rfl rfl (by decide) rfl ?_
  refine r_iload_n dX12_isBeyond_21 rfl rfl ?_
  refine r_iconst dX12_isBeyond_22 ?_
  refine r_irem dX12_isBeyond_23 ⟨by decide, by decide⟩ ⟨by decide, by decide⟩ (by decide) ?_
  refine r_if_ne (tgt := 47) dX12_isBeyond_24 rfl ⟨by decide, by decide⟩ (fun c_24 => absurd c_24 (by decide)) (fun c_24 => ?_)
  refine r_lload_n dX12_isBeyond_27 rfl rfl ?_
  refine r_aload_n dX12_isBeyond_28 rfl rfl ?_
  refine r_getR dX12_isBeyond_29 fl_X12_69 sh_49 rfl ?_
  refine r_iload_n dX12_isBeyond_32 rfl rfl ?_
  refine r_iald dX12_isBeyond_33 sh_63 (by decide) ⟨by decide, by decide⟩ ?_
  refine r_eqI (y := h 63 2) rfl ?_
  refine r_i2l dX12_isBeyond_34 (by omega) ?_
  refine r_lcmp_ge (tgt := 43) dX12_isBeyond_35 dX12_isBeyond_36 rfl (by omega) (by omega) (fun c_35 => ?_) (fun c_35 => ?_)
  · refine r_iconst dX12_isBeyond_43 ?_
    refine r_goto (tgt := 64) dX12_isBeyond_44 rfl ?_
    refine r_zret dX12_isBeyond_64 rfl (.inl rfl) ?_
    exact ⟨_, rfl, kf (by omega)⟩
  · refine r_iconst dX12_isBeyond_39 ?_
    refine r_goto (tgt := 64) dX12_isBeyond_40 rfl ?_
    refine r_zret dX12_isBeyond_64 rfl (.inr rfl) ?_
    exact ⟨_, rfl, kt (by omega)⟩
set_option maxRecDepth 20000 in
set_option maxHeartbeats 400000 in
theorem sp_bey_2_1 {d : Nat} (hd : 1 ≤ d) {h : Hp}  (hr : (-600000 ≤ h 68 1 ∧ h 68 1 ≤ 600000) ∧ (-2000 ≤ h 63 2 ∧ h 63 2 ≤ 2000)) {P : Int → Hp → Prop} (kt : ((h 68 1 - h 63 2) * 1 < 0) → P 1 h) (kf : ¬ ((h 68 1 - h 63 2) * 1 < 0) → P 0 h) : Cl d mX12_isBeyond [.inr (.inr 49), .inl 2, .inl 1] h (pI P) := by
  refine Cl.of (L := [some (.inr (.inr 49)), some (.inl 2), some (.inl 1), none, none]) (by decide +kernel) (Nat.le_of_ble_eq_true rfl) rfl ?_
  refine r_iload_n dX12_isBeyond_0 rfl rfl ?_
  refine r_iconst dX12_isBeyond_1 ?_
  refine r_icmp_ge (tgt := 14) dX12_isBeyond_2 rfl ⟨by decide, by decide⟩ ⟨by decide, by decide⟩ (fun c_2 => ?_) (fun c_2 => absurd c_2 (by decide))
  refine r_aload_n dX12_isBeyond_14 rfl rfl ?_
  refine r_getR dX12_isBeyond_15 fl_X12_85 sh_49 rfl ?_
  refine r_iload_n dX12_isBeyond_18 rfl rfl ?_
  refine r_lald dX12_isBeyond_19 sh_68 (by decide) ⟨by decide, by decide⟩ ?_
  refine r_eqJ (y := h 68 1) rfl ?_
  refine r_lstore_n (L' := [_, _, _, _, _]) dX12_isBeyond_20 rfl rfl (by decide) rfl ?_
  refine r_iload_n dX12_isBeyond_21 rfl rfl ?_
  refine r_iconst dX12_isBeyond_22 ?_
  refine r_irem dX12_isBeyond_23 ⟨by decide, by decide⟩ ⟨by decide, by decide⟩ (by decide) ?_
  refine r_if_ne (tgt := 47) dX12_isBeyond_24 rfl ⟨by decide, by decide⟩ (fun c_24 => absurd c_24 (by decide)) (fun c_24 => ?_)
  refine r_lload_n dX12_isBeyond_27 rfl rfl ?_
  refine r_aload_n dX12_isBeyond_28 rfl rfl ?_
  refine r_getR dX12_isBeyond_29 fl_X12_69 sh_49 rfl ?_
  refine r_iload_n dX12_isBeyond_32 rfl rfl ?_
  refine r_iald dX12_isBeyond_33 sh_63 (by decide) ⟨by decide, by decide⟩ ?_
  refine r_eqI (y := h 63 2) rfl ?_
  refine r_i2l dX12_isBeyond_34 (by omega) ?_
  refine r_lcmp_ge (tgt := 43) dX12_isBeyond_35 dX12_isBeyond_36 rfl (by omega) (by omega) (fun c_35 => ?_) (fun c_35 => ?_)
  · refine r_iconst dX12_isBeyond_43 ?_
    refine r_goto (tgt := 64) dX12_isBeyond_44 rfl ?_
    refine r_zret dX12_isBeyond_64 rfl (.inl rfl) ?_
    exact ⟨_, rfl, kf (by omega)⟩
  · refine r_iconst dX12_isBeyond_39 ?_
    refine r_goto (tgt := 64) dX12_isBeyond_40 rfl ?_
    refine r_zret dX12_isBeyond_64 rfl (.inr rfl) ?_
    exact ⟨_, rfl, kt (by omega)⟩
set_option maxRecDepth 20000 in
set_option maxHeartbeats 400000 in
theorem sp_bey_3_0 {d : Nat} (hd : 1 ≤ d) {h : Hp}  (hr : (-600000 ≤ h 68 0 ∧ h 68 0 ≤ 600000) ∧ (-2000 ≤ h 63 3 ∧ h 63 3 ≤ 2000)) {P : Int → Hp → Prop} (kt : ((h 68 0 - h 63 3) * (-1) < 0) → P 1 h) (kf : ¬ ((h 68 0 - h 63 3) * (-1) < 0) → P 0 h) : Cl d mX12_isBeyond [.inr (.inr 49), .inl 3, .inl 0] h (pI P) := by
  refine Cl.of (L := [some (.inr (.inr 49)), some (.inl 3), some (.inl 0), none, none]) (by decide +kernel) (Nat.le_of_ble_eq_true rfl) rfl ?_
  refine r_iload_n dX12_isBeyond_0 rfl rfl ?_
  refine r_iconst dX12_isBeyond_1 ?_
  refine r_icmp_ge (tgt := 14) dX12_isBeyond_2 rfl ⟨by decide, by decide⟩ ⟨by decide, by decide⟩ (fun c_2 => ?_) (fun c_2 => absurd c_2 (by decide))
  refine r_aload_n dX12_isBeyond_14 rfl rfl ?_
  refine r_getR dX12_isBeyond_15 fl_X12_85 sh_49 rfl ?_
  refine r_iload_n dX12_isBeyond_18 rfl rfl ?_
  refine r_lald dX12_isBeyond_19 sh_68 (by decide) ⟨by decide, by decide⟩ ?_
  refine r_eqJ (y := h 68 0) rfl ?_
  refine r_lstore_n (L' := [_, _, _, _, _]) dX12_isBeyond_20 rfl rfl (by decide) rfl ?_
  refine r_iload_n dX12_isBeyond_21 rfl rfl ?_
  refine r_iconst dX12_isBeyond_22 ?_
  refine r_irem dX12_isBeyond_23 ⟨by decide, by decide⟩ ⟨by decide, by decide⟩ (by decide) ?_
  refine r_if_ne (tgt := 47) dX12_isBeyond_24 rfl ⟨by decide, by decide⟩ (fun c_24 => ?_) (fun c_24 => absurd c_24 (by decide))
  refine r_lload_n dX12_isBeyond_47 rfl rfl ?_
  refine r_aload_n dX12_isBeyond_48 rfl rfl ?_
  refine r_getR dX12_isBeyond_49 fl_X12_69 sh_49 rfl ?_
  refine r_iload_n dX12_isBeyond_52 rfl rfl ?_
  refine r_iald dX12_isBeyond_53 sh_63 (by decide) ⟨by decide, by decide⟩ ?_
  refine r_eqI (y := h 63 3) rfl ?_
  refine r_i2l dX12_isBeyond_54 (by omega) ?_
  refine r_lcmp_le (tgt := 63) dX12_isBeyond_55 dX12_isBeyond_56 rfl (by omega) (by omega) (fun c_55 => ?_) (fun c_55 => ?_)
  · refine r_iconst dX12_isBeyond_63 ?_
    refine r_zret dX12_isBeyond_64 rfl (.inl rfl) ?_
    exact ⟨_, rfl, kf (by omega)⟩
  · refine r_iconst dX12_isBeyond_59 ?_
    refine r_goto (tgt := 64) dX12_isBeyond_60 rfl ?_
    refine r_zret dX12_isBeyond_64 rfl (.inr rfl) ?_
    exact ⟨_, rfl, kt (by omega)⟩
set_option maxRecDepth 20000 in
set_option maxHeartbeats 400000 in
theorem sp_bey_3_1 {d : Nat} (hd : 1 ≤ d) {h : Hp}  (hr : (-600000 ≤ h 68 1 ∧ h 68 1 ≤ 600000) ∧ (-2000 ≤ h 63 3 ∧ h 63 3 ≤ 2000)) {P : Int → Hp → Prop} (kt : ((h 68 1 - h 63 3) * (-1) < 0) → P 1 h) (kf : ¬ ((h 68 1 - h 63 3) * (-1) < 0) → P 0 h) : Cl d mX12_isBeyond [.inr (.inr 49), .inl 3, .inl 1] h (pI P) := by
  refine Cl.of (L := [some (.inr (.inr 49)), some (.inl 3), some (.inl 1), none, none]) (by decide +kernel) (Nat.le_of_ble_eq_true rfl) rfl ?_
  refine r_iload_n dX12_isBeyond_0 rfl rfl ?_
  refine r_iconst dX12_isBeyond_1 ?_
  refine r_icmp_ge (tgt := 14) dX12_isBeyond_2 rfl ⟨by decide, by decide⟩ ⟨by decide, by decide⟩ (fun c_2 => ?_) (fun c_2 => absurd c_2 (by decide))
  refine r_aload_n dX12_isBeyond_14 rfl rfl ?_
  refine r_getR dX12_isBeyond_15 fl_X12_85 sh_49 rfl ?_
  refine r_iload_n dX12_isBeyond_18 rfl rfl ?_
  refine r_lald dX12_isBeyond_19 sh_68 (by decide) ⟨by decide, by decide⟩ ?_
  refine r_eqJ (y := h 68 1) rfl ?_
  refine r_lstore_n (L' := [_, _, _, _, _]) dX12_isBeyond_20 rfl rfl (by decide) rfl ?_
  refine r_iload_n dX12_isBeyond_21 rfl rfl ?_
  refine r_iconst dX12_isBeyond_22 ?_
  refine r_irem dX12_isBeyond_23 ⟨by decide, by decide⟩ ⟨by decide, by decide⟩ (by decide) ?_
  refine r_if_ne (tgt := 47) dX12_isBeyond_24 rfl ⟨by decide, by decide⟩ (fun c_24 => ?_) (fun c_24 => absurd c_24 (by decide))
  refine r_lload_n dX12_isBeyond_47 rfl rfl ?_
  refine r_aload_n dX12_isBeyond_48 rfl rfl ?_
  refine r_getR dX12_isBeyond_49 fl_X12_69 sh_49 rfl ?_
  refine r_iload_n dX12_isBeyond_52 rfl rfl ?_
  refine r_iald dX12_isBeyond_53 sh_63 (by decide) ⟨by decide, by decide⟩ ?_
  refine r_eqI (y := h 63 3) rfl ?_
  refine r_i2l dX12_isBeyond_54 (by omega) ?_
  refine r_lcmp_le (tgt := 63) dX12_isBeyond_55 dX12_isBeyond_56 rfl (by omega) (by omega) (fun c_55 => ?_) (fun c_55 => ?_)
  · refine r_iconst dX12_isBeyond_63 ?_
    refine r_zret dX12_isBeyond_64 rfl (.inl rfl) ?_
    exact ⟨_, rfl, kf (by omega)⟩
  · refine r_iconst dX12_isBeyond_59 ?_
    refine r_goto (tgt := 64) dX12_isBeyond_60 rfl ?_
    refine r_zret dX12_isBeyond_64 rfl (.inr rfl) ?_
    exact ⟨_, rfl, kt (by omega)⟩
set_option maxRecDepth 20000 in
set_option maxHeartbeats 400000 in
theorem sp_cuts_0 {d : Nat} (hd : 2 ≤ d) {h : Hp}  (hb : LnB (h 67 0) (h 68 0) (h 67 1) (h 68 1)) (hs : -2000 ≤ (h 63 0) ∧ (h 63 0) ≤ 2000) {P : Int → Hp → Prop} (k0 : (cuN 1 (h 63 0) (h 67 0) (h 67 1)) → P (0) h) (k1 : ∀ h' : Hp, (∀ a k, a ≠ 67 → a ≠ 68 → h' a k = h a k) → (h' 67 0 = cuA 1 (h 63 0) (h 67 0) ∧ h' 67 1 = cuA 1 (h 63 0) (h 67 1) ∧ h' 68 0 = cuB 1 (h 63 0) (h 67 0) (h 67 1) (h 68 0) (h 68 1) ∧ h' 68 1 = cuB 1 (h 63 0) (h 67 1) (h 67 0) (h 68 1) (h 68 0)) → (¬ cuN 1 (h 63 0) (h 67 0) (h 67 1)) → P (1) h') : Cl d mX12_cuts [.inr (.inr 49), .inl 0] h (pI P) := by
  refine Cl.of (L := [some (.inr (.inr 49)), some (.inl 0), none, none, none, none, none]) (by decide +kernel) (Nat.le_of_ble_eq_true rfl) rfl ?_
  obtain ⟨d, rfl⟩ : ∃ q, d = q + 1 := ⟨d - 1, by omega⟩
  refine r_aload_n dX12_cuts_0 rfl rfl ?_
  refine r_iload_n dX12_cuts_1 rfl rfl ?_
  refine r_iconst dX12_cuts_2 ?_
  refine r_callVI (av := [_, _]) (M' := mX12_isBeyond) dX12_cuts_3 vX12_isBeyond ml_X12_294 sh_49 (by decide) rfl rfl rfl rfl (by simp [wtA]) (sp_bey_0_0 (by omega) ⟨by omega, hs⟩ (fun b1 => ?_) (fun b1 => ?_))
  · refine r_istore_n (L' := [_, _, _, _, _, _, _]) dX12_cuts_6 rfl rfl (by decide) rfl ?_
    refine r_aload_n dX12_cuts_7 rfl rfl ?_
    refine r_iload_n dX12_cuts_8 rfl rfl ?_
    refine r_iconst dX12_cuts_9 ?_
    refine r_callVI (av := [_, _]) (M' := mX12_isBeyond) dX12_cuts_10 vX12_isBeyond ml_X12_294 sh_49 (by decide) rfl rfl rfl rfl (by simp [wtA]) (sp_bey_0_1 (by omega) ⟨by omega, hs⟩ (fun b2 => ?_) (fun b2 => ?_))
    · refine r_istore_n (L' := [_, _, _, _, _, _, _]) dX12_cuts_13 rfl rfl (by decide) rfl ?_
      refine r_iload_n dX12_cuts_14 rfl rfl ?_
      refine r_if_eq (tgt := 24) dX12_cuts_15 rfl ⟨by decide, by decide⟩ (fun c_15 => absurd c_15 (by decide)) (fun c_15 => ?_)
      refine r_iload_n dX12_cuts_18 rfl rfl ?_
      refine r_if_eq (tgt := 24) dX12_cuts_19 rfl ⟨by decide, by decide⟩ (fun c_19 => absurd c_19 (by decide)) (fun c_19 => ?_)
      refine r_iconst dX12_cuts_22 ?_
      refine r_zret dX12_cuts_23 rfl (.inl rfl) ?_
      exact ⟨_, rfl, k0 ⟨b1, b2⟩⟩
    · refine r_istore_n (L' := [_, _, _, _, _, _, _]) dX12_cuts_13 rfl rfl (by decide) rfl ?_
      refine r_iload_n dX12_cuts_14 rfl rfl ?_
      refine r_if_eq (tgt := 24) dX12_cuts_15 rfl ⟨by decide, by decide⟩ (fun c_15 => absurd c_15 (by decide)) (fun c_15 => ?_)
      refine r_iload_n dX12_cuts_18 rfl rfl ?_
      refine r_if_eq (tgt := 24) dX12_cuts_19 rfl ⟨by decide, by decide⟩ (fun c_19 => ?_) (fun c_19 => absurd c_19 (by decide))
      refine r_iload_n dX12_cuts_24 rfl rfl ?_
      refine r_if_ne (tgt := 34) dX12_cuts_25 rfl ⟨by decide, by decide⟩ (fun c_25 => ?_) (fun c_25 => absurd c_25 (by decide))
      refine r_iload_n dX12_cuts_34 rfl rfl ?_
      refine r_if_eq (tgt := 42) dX12_cuts_35 rfl ⟨by decide, by decide⟩ (fun c_35 => absurd c_35 (by decide)) (fun c_35 => ?_)
      refine r_iconst dX12_cuts_38 ?_
      refine r_goto (tgt := 43) dX12_cuts_39 rfl ?_
      refine r_istore (L' := [_, _, _, _, _, _, _]) dX12_cuts_43 rfl (by decide) rfl ?_
      have cm := cu_m (show LnB (h 67 0) (h 68 0) (h 67 1) (h 68 1) by omega) (Or.inl rfl) b1 b2
      have sR : R32 (h 63 0) := by omega
      have mR : R64 ((h 68 1 - h 68 0) * ((h 63 0) - h 67 0)) := by omega
      have dR : R64 (h 67 1 - h 67 0) := by omega
      clear hb hs
      refine r_aload_n dX12_cuts_45 rfl rfl ?_
      refine r_getR dX12_cuts_46 fl_X12_69 sh_49 rfl ?_
      refine r_iload_n dX12_cuts_49 rfl rfl ?_
      refine r_iald dX12_cuts_50 sh_63 (by decide) ⟨by decide, by decide⟩ ?_
      refine r_i2l dX12_cuts_51 sR ?_
      refine r_lstore (L' := [_, _, _, _, _, _, _]) dX12_cuts_52 rfl (by decide) rfl ?_
      refine r_iload_n dX12_cuts_54 rfl rfl ?_
      refine r_iconst dX12_cuts_55 ?_
      refine r_icmp_ge (tgt := 127) dX12_cuts_56 rfl ⟨by decide, by decide⟩ ⟨by decide, by decide⟩ (fun c_56 => absurd c_56 (by decide)) (fun c_56 => ?_)
      refine r_aload_n dX12_cuts_59 rfl rfl ?_
      refine r_getR dX12_cuts_60 fl_X12_85 sh_49 rfl ?_
      refine r_iload dX12_cuts_63 rfl ?_
      refine r_dup2 dX12_cuts_65 ?_
      refine r_lald dX12_cuts_66 sh_68 (by decide) ⟨by decide, by decide⟩ ?_
      refine r_aload_n dX12_cuts_67 rfl rfl ?_
      refine r_getR dX12_cuts_68 fl_X12_85 sh_49 rfl ?_
      refine r_iconst dX12_cuts_71 ?_
      refine r_iload dX12_cuts_72 rfl ?_
      refine r_isub dX12_cuts_74 ?_
      refine r_lald dX12_cuts_75 sh_68 (by decide) ⟨by decide, by decide⟩ ?_
      refine r_aload_n dX12_cuts_76 rfl rfl ?_
      refine r_getR dX12_cuts_77 fl_X12_85 sh_49 rfl ?_
      refine r_iload dX12_cuts_80 rfl ?_
      refine r_lald dX12_cuts_82 sh_68 (by decide) ⟨by decide, by decide⟩ ?_
      refine r_lsub dX12_cuts_83 ?_
      refine r_lload dX12_cuts_84 rfl ?_
      refine r_aload_n dX12_cuts_86 rfl rfl ?_
      refine r_getR dX12_cuts_87 fl_X12_81 sh_49 rfl ?_
      refine r_iload dX12_cuts_90 rfl ?_
      refine r_lald dX12_cuts_92 sh_67 (by decide) ⟨by decide, by decide⟩ ?_
      refine r_lsub dX12_cuts_93 ?_
      refine r_lmul dX12_cuts_94 ?_
      refine r_aload_n dX12_cuts_95 rfl rfl ?_
      refine r_getR dX12_cuts_96 fl_X12_81 sh_49 rfl ?_
      refine r_iconst dX12_cuts_99 ?_
      refine r_iload dX12_cuts_100 rfl ?_
      refine r_isub dX12_cuts_102 ?_
      refine r_lald dX12_cuts_103 sh_67 (by decide) ⟨by decide, by decide⟩ ?_
      refine r_aload_n dX12_cuts_104 rfl rfl ?_
      refine r_getR dX12_cuts_105 fl_X12_81 sh_49 rfl ?_
      refine r_iload dX12_cuts_108 rfl ?_
      refine r_lald dX12_cuts_110 sh_67 (by decide) ⟨by decide, by decide⟩ ?_
      refine r_lsub dX12_cuts_111 ?_
      refine r_ldiv dX12_cuts_112 mR dR cm.1 ?_
      refine r_ladd dX12_cuts_113 ?_
      refine r_last dX12_cuts_114 sh_68 (by decide) ⟨by decide, by decide⟩ ?_
      refine r_aload_n dX12_cuts_115 rfl rfl ?_
      refine r_getR dX12_cuts_116 fl_X12_81 sh_49 rfl ?_
      refine r_iload dX12_cuts_119 rfl ?_
      refine r_lload dX12_cuts_121 rfl ?_
      refine r_last dX12_cuts_123 sh_67 (by decide) ⟨by decide, by decide⟩ ?_
      refine r_goto (tgt := 192) dX12_cuts_124 rfl ?_
      refine r_iconst dX12_cuts_192 ?_
      refine r_zret dX12_cuts_193 rfl (.inr rfl) ?_
      refine ⟨_, rfl, k1 _ (fun a k z1 z2 => ?_) ⟨?_, ?_, ?_, ?_⟩ (fun z => b2 z.2)⟩
      · rw [up_nc z1, up_nc z2]
      · unfold cuA
        rw [if_pos b1]
        rfl
      · unfold cuA
        rw [if_neg b2]
        rfl
      · unfold cuB
        rw [if_pos b1]
        rfl
      · unfold cuB
        rw [if_neg b2]
        rfl
  · refine r_istore_n (L' := [_, _, _, _, _, _, _]) dX12_cuts_6 rfl rfl (by decide) rfl ?_
    refine r_aload_n dX12_cuts_7 rfl rfl ?_
    refine r_iload_n dX12_cuts_8 rfl rfl ?_
    refine r_iconst dX12_cuts_9 ?_
    refine r_callVI (av := [_, _]) (M' := mX12_isBeyond) dX12_cuts_10 vX12_isBeyond ml_X12_294 sh_49 (by decide) rfl rfl rfl rfl (by simp [wtA]) (sp_bey_0_1 (by omega) ⟨by omega, hs⟩ (fun b2 => ?_) (fun b2 => ?_))
    · refine r_istore_n (L' := [_, _, _, _, _, _, _]) dX12_cuts_13 rfl rfl (by decide) rfl ?_
      refine r_iload_n dX12_cuts_14 rfl rfl ?_
      refine r_if_eq (tgt := 24) dX12_cuts_15 rfl ⟨by decide, by decide⟩ (fun c_15 => ?_) (fun c_15 => absurd c_15 (by decide))
      refine r_iload_n dX12_cuts_24 rfl rfl ?_
      refine r_if_ne (tgt := 34) dX12_cuts_25 rfl ⟨by decide, by decide⟩ (fun c_25 => absurd c_25 (by decide)) (fun c_25 => ?_)
      refine r_iload_n dX12_cuts_28 rfl rfl ?_
      refine r_if_ne (tgt := 34) dX12_cuts_29 rfl ⟨by decide, by decide⟩ (fun c_29 => ?_) (fun c_29 => absurd c_29 (by decide))
      refine r_iload_n dX12_cuts_34 rfl rfl ?_
      refine r_if_eq (tgt := 42) dX12_cuts_35 rfl ⟨by decide, by decide⟩ (fun c_35 => ?_) (fun c_35 => absurd c_35 (by decide))
      refine r_iconst dX12_cuts_42 ?_
      refine r_istore (L' := [_, _, _, _, _, _, _]) dX12_cuts_43 rfl (by decide) rfl ?_
      have cm := cu_m (show LnB (h 67 1) (h 68 1) (h 67 0) (h 68 0) by omega) (Or.inl rfl) b2 b1
      have sR : R32 (h 63 0) := by omega
      have mR : R64 ((h 68 0 - h 68 1) * ((h 63 0) - h 67 1)) := by omega
      have dR : R64 (h 67 0 - h 67 1) := by omega
      clear hb hs
      refine r_aload_n dX12_cuts_45 rfl rfl ?_
      refine r_getR dX12_cuts_46 fl_X12_69 sh_49 rfl ?_
      refine r_iload_n dX12_cuts_49 rfl rfl ?_
      refine r_iald dX12_cuts_50 sh_63 (by decide) ⟨by decide, by decide⟩ ?_
      refine r_i2l dX12_cuts_51 sR ?_
      refine r_lstore (L' := [_, _, _, _, _, _, _]) dX12_cuts_52 rfl (by decide) rfl ?_
      refine r_iload_n dX12_cuts_54 rfl rfl ?_
      refine r_iconst dX12_cuts_55 ?_
      refine r_icmp_ge (tgt := 127) dX12_cuts_56 rfl ⟨by decide, by decide⟩ ⟨by decide, by decide⟩ (fun c_56 => absurd c_56 (by decide)) (fun c_56 => ?_)
      refine r_aload_n dX12_cuts_59 rfl rfl ?_
      refine r_getR dX12_cuts_60 fl_X12_85 sh_49 rfl ?_
      refine r_iload dX12_cuts_63 rfl ?_
      refine r_dup2 dX12_cuts_65 ?_
      refine r_lald dX12_cuts_66 sh_68 (by decide) ⟨by decide, by decide⟩ ?_
      refine r_aload_n dX12_cuts_67 rfl rfl ?_
      refine r_getR dX12_cuts_68 fl_X12_85 sh_49 rfl ?_
      refine r_iconst dX12_cuts_71 ?_
      refine r_iload dX12_cuts_72 rfl ?_
      refine r_isub dX12_cuts_74 ?_
      refine r_lald dX12_cuts_75 sh_68 (by decide) ⟨by decide, by decide⟩ ?_
      refine r_aload_n dX12_cuts_76 rfl rfl ?_
      refine r_getR dX12_cuts_77 fl_X12_85 sh_49 rfl ?_
      refine r_iload dX12_cuts_80 rfl ?_
      refine r_lald dX12_cuts_82 sh_68 (by decide) ⟨by decide, by decide⟩ ?_
      refine r_lsub dX12_cuts_83 ?_
      refine r_lload dX12_cuts_84 rfl ?_
      refine r_aload_n dX12_cuts_86 rfl rfl ?_
      refine r_getR dX12_cuts_87 fl_X12_81 sh_49 rfl ?_
      refine r_iload dX12_cuts_90 rfl ?_
      refine r_lald dX12_cuts_92 sh_67 (by decide) ⟨by decide, by decide⟩ ?_
      refine r_lsub dX12_cuts_93 ?_
      refine r_lmul dX12_cuts_94 ?_
      refine r_aload_n dX12_cuts_95 rfl rfl ?_
      refine r_getR dX12_cuts_96 fl_X12_81 sh_49 rfl ?_
      refine r_iconst dX12_cuts_99 ?_
      refine r_iload dX12_cuts_100 rfl ?_
      refine r_isub dX12_cuts_102 ?_
      refine r_lald dX12_cuts_103 sh_67 (by decide) ⟨by decide, by decide⟩ ?_
      refine r_aload_n dX12_cuts_104 rfl rfl ?_
      refine r_getR dX12_cuts_105 fl_X12_81 sh_49 rfl ?_
      refine r_iload dX12_cuts_108 rfl ?_
      refine r_lald dX12_cuts_110 sh_67 (by decide) ⟨by decide, by decide⟩ ?_
      refine r_lsub dX12_cuts_111 ?_
      refine r_ldiv dX12_cuts_112 mR dR cm.1 ?_
      refine r_ladd dX12_cuts_113 ?_
      refine r_last dX12_cuts_114 sh_68 (by decide) ⟨by decide, by decide⟩ ?_
      refine r_aload_n dX12_cuts_115 rfl rfl ?_
      refine r_getR dX12_cuts_116 fl_X12_81 sh_49 rfl ?_
      refine r_iload dX12_cuts_119 rfl ?_
      refine r_lload dX12_cuts_121 rfl ?_
      refine r_last dX12_cuts_123 sh_67 (by decide) ⟨by decide, by decide⟩ ?_
      refine r_goto (tgt := 192) dX12_cuts_124 rfl ?_
      refine r_iconst dX12_cuts_192 ?_
      refine r_zret dX12_cuts_193 rfl (.inr rfl) ?_
      refine ⟨_, rfl, k1 _ (fun a k z1 z2 => ?_) ⟨?_, ?_, ?_, ?_⟩ (fun z => b1 z.1)⟩
      · rw [up_nc z1, up_nc z2]
      · unfold cuA
        rw [if_neg b1]
        rfl
      · unfold cuA
        rw [if_pos b2]
        rfl
      · unfold cuB
        rw [if_neg b1]
        rfl
      · unfold cuB
        rw [if_pos b2]
        rfl
    · refine r_istore_n (L' := [_, _, _, _, _, _, _]) dX12_cuts_13 rfl rfl (by decide) rfl ?_
      refine r_iload_n dX12_cuts_14 rfl rfl ?_
      refine r_if_eq (tgt := 24) dX12_cuts_15 rfl ⟨by decide, by decide⟩ (fun c_15 => ?_) (fun c_15 => absurd c_15 (by decide))
      refine r_iload_n dX12_cuts_24 rfl rfl ?_
      refine r_if_ne (tgt := 34) dX12_cuts_25 rfl ⟨by decide, by decide⟩ (fun c_25 => absurd c_25 (by decide)) (fun c_25 => ?_)
      refine r_iload_n dX12_cuts_28 rfl rfl ?_
      refine r_if_ne (tgt := 34) dX12_cuts_29 rfl ⟨by decide, by decide⟩ (fun c_29 => absurd c_29 (by decide)) (fun c_29 => ?_)
      refine r_iconst dX12_cuts_32 ?_
      refine r_zret dX12_cuts_33 rfl (.inr rfl) ?_
      refine ⟨_, rfl, k1 h (fun a k z1 z2 => rfl) ⟨?_, ?_, ?_, ?_⟩ (fun z => b1 z.1)⟩
      · unfold cuA
        rw [if_neg b1]
      · unfold cuA
        rw [if_neg b2]
      · unfold cuB
        rw [if_neg b1]
      · unfold cuB
        rw [if_neg b2]
set_option maxRecDepth 20000 in
set_option maxHeartbeats 400000 in
theorem sp_cuts_1 {d : Nat} (hd : 2 ≤ d) {h : Hp}  (hb : LnB (h 67 0) (h 68 0) (h 67 1) (h 68 1)) (hs : -2000 ≤ (h 63 1) ∧ (h 63 1) ≤ 2000) {P : Int → Hp → Prop} (k0 : (cuN (-1) (h 63 1) (h 67 0) (h 67 1)) → P (0) h) (k1 : ∀ h' : Hp, (∀ a k, a ≠ 67 → a ≠ 68 → h' a k = h a k) → (h' 67 0 = cuA (-1) (h 63 1) (h 67 0) ∧ h' 67 1 = cuA (-1) (h 63 1) (h 67 1) ∧ h' 68 0 = cuB (-1) (h 63 1) (h 67 0) (h 67 1) (h 68 0) (h 68 1) ∧ h' 68 1 = cuB (-1) (h 63 1) (h 67 1) (h 67 0) (h 68 1) (h 68 0)) → (¬ cuN (-1) (h 63 1) (h 67 0) (h 67 1)) → P (1) h') : Cl d mX12_cuts [.inr (.inr 49), .inl 1] h (pI P) := by
  refine Cl.of (L := [some (.inr (.inr 49)), some (.inl 1), none, none, none, none, none]) (by decide +kernel) (Nat.le_of_ble_eq_true rfl) rfl ?_
  obtain ⟨d, rfl⟩ : ∃ q, d = q + 1 := ⟨d - 1, by omega⟩
  refine r_aload_n dX12_cuts_0 rfl rfl ?_
  refine r_iload_n dX12_cuts_1 rfl rfl ?_
  refine r_iconst dX12_cuts_2 ?_
  refine r_callVI (av := [_, _]) (M' := mX12_isBeyond) dX12_cuts_3 vX12_isBeyond ml_X12_294 sh_49 (by decide) rfl rfl rfl rfl (by simp [wtA]) (sp_bey_1_0 (by omega) ⟨by omega, hs⟩ (fun b1 => ?_) (fun b1 => ?_))
  · refine r_istore_n (L' := [_, _, _, _, _, _, _]) dX12_cuts_6 rfl rfl (by decide) rfl ?_
    refine r_aload_n dX12_cuts_7 rfl rfl ?_
    refine r_iload_n dX12_cuts_8 rfl rfl ?_
    refine r_iconst dX12_cuts_9 ?_
    refine r_callVI (av := [_, _]) (M' := mX12_isBeyond) dX12_cuts_10 vX12_isBeyond ml_X12_294 sh_49 (by decide) rfl rfl rfl rfl (by simp [wtA]) (sp_bey_1_1 (by omega) ⟨by omega, hs⟩ (fun b2 => ?_) (fun b2 => ?_))
    · refine r_istore_n (L' := [_, _, _, _, _, _, _]) dX12_cuts_13 rfl rfl (by decide) rfl ?_
      refine r_iload_n dX12_cuts_14 rfl rfl ?_
      refine r_if_eq (tgt := 24) dX12_cuts_15 rfl ⟨by decide, by decide⟩ (fun c_15 => absurd c_15 (by decide)) (fun c_15 => ?_)
      refine r_iload_n dX12_cuts_18 rfl rfl ?_
      refine r_if_eq (tgt := 24) dX12_cuts_19 rfl ⟨by decide, by decide⟩ (fun c_19 => absurd c_19 (by decide)) (fun c_19 => ?_)
      refine r_iconst dX12_cuts_22 ?_
      refine r_zret dX12_cuts_23 rfl (.inl rfl) ?_
      exact ⟨_, rfl, k0 ⟨b1, b2⟩⟩
    · refine r_istore_n (L' := [_, _, _, _, _, _, _]) dX12_cuts_13 rfl rfl (by decide) rfl ?_
      refine r_iload_n dX12_cuts_14 rfl rfl ?_
      refine r_if_eq (tgt := 24) dX12_cuts_15 rfl ⟨by decide, by decide⟩ (fun c_15 => absurd c_15 (by decide)) (fun c_15 => ?_)
      refine r_iload_n dX12_cuts_18 rfl rfl ?_
      refine r_if_eq (tgt := 24) dX12_cuts_19 rfl ⟨by decide, by decide⟩ (fun c_19 => ?_) (fun c_19 => absurd c_19 (by decide))
      refine r_iload_n dX12_cuts_24 rfl rfl ?_
      refine r_if_ne (tgt := 34) dX12_cuts_25 rfl ⟨by decide, by decide⟩ (fun c_25 => ?_) (fun c_25 => absurd c_25 (by decide))
      refine r_iload_n dX12_cuts_34 rfl rfl ?_
      refine r_if_eq (tgt := 42) dX12_cuts_35 rfl ⟨by decide, by decide⟩ (fun c_35 => absurd c_35 (by decide)) (fun c_35 => ?_)
      refine r_iconst dX12_cuts_38 ?_
      refine r_goto (tgt := 43) dX12_cuts_39 rfl ?_
      refine r_istore (L' := [_, _, _, _, _, _, _]) dX12_cuts_43 rfl (by decide) rfl ?_
      have cm := cu_m (show LnB (h 67 0) (h 68 0) (h 67 1) (h 68 1) by omega) (Or.inr rfl) b1 b2
      have sR : R32 (h 63 1) := by omega
      have mR : R64 ((h 68 1 - h 68 0) * ((h 63 1) - h 67 0)) := by omega
      have dR : R64 (h 67 1 - h 67 0) := by omega
      clear hb hs
      refine r_aload_n dX12_cuts_45 rfl rfl ?_
      refine r_getR dX12_cuts_46 fl_X12_69 sh_49 rfl ?_
      refine r_iload_n dX12_cuts_49 rfl rfl ?_
      refine r_iald dX12_cuts_50 sh_63 (by decide) ⟨by decide, by decide⟩ ?_
      refine r_i2l dX12_cuts_51 sR ?_
      refine r_lstore (L' := [_, _, _, _, _, _, _]) dX12_cuts_52 rfl (by decide) rfl ?_
      refine r_iload_n dX12_cuts_54 rfl rfl ?_
      refine r_iconst dX12_cuts_55 ?_
      refine r_icmp_ge (tgt := 127) dX12_cuts_56 rfl ⟨by decide, by decide⟩ ⟨by decide, by decide⟩ (fun c_56 => absurd c_56 (by decide)) (fun c_56 => ?_)
      refine r_aload_n dX12_cuts_59 rfl rfl ?_
      refine r_getR dX12_cuts_60 fl_X12_85 sh_49 rfl ?_
      refine r_iload dX12_cuts_63 rfl ?_
      refine r_dup2 dX12_cuts_65 ?_
      refine r_lald dX12_cuts_66 sh_68 (by decide) ⟨by decide, by decide⟩ ?_
      refine r_aload_n dX12_cuts_67 rfl rfl ?_
      refine r_getR dX12_cuts_68 fl_X12_85 sh_49 rfl ?_
      refine r_iconst dX12_cuts_71 ?_
      refine r_iload dX12_cuts_72 rfl ?_
      refine r_isub dX12_cuts_74 ?_
      refine r_lald dX12_cuts_75 sh_68 (by decide) ⟨by decide, by decide⟩ ?_
      refine r_aload_n dX12_cuts_76 rfl rfl ?_
      refine r_getR dX12_cuts_77 fl_X12_85 sh_49 rfl ?_
      refine r_iload dX12_cuts_80 rfl ?_
      refine r_lald dX12_cuts_82 sh_68 (by decide) ⟨by decide, by decide⟩ ?_
      refine r_lsub dX12_cuts_83 ?_
      refine r_lload dX12_cuts_84 rfl ?_
      refine r_aload_n dX12_cuts_86 rfl rfl ?_
      refine r_getR dX12_cuts_87 fl_X12_81 sh_49 rfl ?_
      refine r_iload dX12_cuts_90 rfl ?_
      refine r_lald dX12_cuts_92 sh_67 (by decide) ⟨by decide, by decide⟩ ?_
      refine r_lsub dX12_cuts_93 ?_
      refine r_lmul dX12_cuts_94 ?_
      refine r_aload_n dX12_cuts_95 rfl rfl ?_
      refine r_getR dX12_cuts_96 fl_X12_81 sh_49 rfl ?_
      refine r_iconst dX12_cuts_99 ?_
      refine r_iload dX12_cuts_100 rfl ?_
      refine r_isub dX12_cuts_102 ?_
      refine r_lald dX12_cuts_103 sh_67 (by decide) ⟨by decide, by decide⟩ ?_
      refine r_aload_n dX12_cuts_104 rfl rfl ?_
      refine r_getR dX12_cuts_105 fl_X12_81 sh_49 rfl ?_
      refine r_iload dX12_cuts_108 rfl ?_
      refine r_lald dX12_cuts_110 sh_67 (by decide) ⟨by decide, by decide⟩ ?_
      refine r_lsub dX12_cuts_111 ?_
      refine r_ldiv dX12_cuts_112 mR dR cm.1 ?_
      refine r_ladd dX12_cuts_113 ?_
      refine r_last dX12_cuts_114 sh_68 (by decide) ⟨by decide, by decide⟩ ?_
      refine r_aload_n dX12_cuts_115 rfl rfl ?_
      refine r_getR dX12_cuts_116 fl_X12_81 sh_49 rfl ?_
      refine r_iload dX12_cuts_119 rfl ?_
      refine r_lload dX12_cuts_121 rfl ?_
      refine r_last dX12_cuts_123 sh_67 (by decide) ⟨by decide, by decide⟩ ?_
      refine r_goto (tgt := 192) dX12_cuts_124 rfl ?_
      refine r_iconst dX12_cuts_192 ?_
      refine r_zret dX12_cuts_193 rfl (.inr rfl) ?_
      refine ⟨_, rfl, k1 _ (fun a k z1 z2 => ?_) ⟨?_, ?_, ?_, ?_⟩ (fun z => b2 z.2)⟩
      · rw [up_nc z1, up_nc z2]
      · unfold cuA
        rw [if_pos b1]
        rfl
      · unfold cuA
        rw [if_neg b2]
        rfl
      · unfold cuB
        rw [if_pos b1]
        rfl
      · unfold cuB
        rw [if_neg b2]
        rfl
  · refine r_istore_n (L' := [_, _, _, _, _, _, _]) dX12_cuts_6 rfl rfl (by decide) rfl ?_
    refine r_aload_n dX12_cuts_7 rfl rfl ?_
    refine r_iload_n dX12_cuts_8 rfl rfl ?_
    refine r_iconst dX12_cuts_9 ?_
    refine r_callVI (av := [_, _]) (M' := mX12_isBeyond) dX12_cuts_10 vX12_isBeyond ml_X12_294 sh_49 (by decide) rfl rfl rfl rfl (by simp [wtA]) (sp_bey_1_1 (by omega) ⟨by omega, hs⟩ (fun b2 => ?_) (fun b2 => ?_))
    · refine r_istore_n (L' := [_, _, _, _, _, _, _]) dX12_cuts_13 rfl rfl (by decide) rfl ?_
      refine r_iload_n dX12_cuts_14 rfl rfl ?_
      refine r_if_eq (tgt := 24) dX12_cuts_15 rfl ⟨by decide, by decide⟩ (fun c_15 => ?_) (fun c_15 => absurd c_15 (by decide))
      refine r_iload_n dX12_cuts_24 rfl rfl ?_
      refine r_if_ne (tgt := 34) dX12_cuts_25 rfl ⟨by decide, by decide⟩ (fun c_25 => absurd c_25 (by decide)) (fun c_25 => ?_)
      refine r_iload_n dX12_cuts_28 rfl rfl ?_
      refine r_if_ne (tgt := 34) dX12_cuts_29 rfl ⟨by decide, by decide⟩ (fun c_29 => ?_) (fun c_29 => absurd c_29 (by decide))
      refine r_iload_n dX12_cuts_34 rfl rfl ?_
      refine r_if_eq (tgt := 42) dX12_cuts_35 rfl ⟨by decide, by decide⟩ (fun c_35 => ?_) (fun c_35 => absurd c_35 (by decide))
      refine r_iconst dX12_cuts_42 ?_
      refine r_istore (L' := [_, _, _, _, _, _, _]) dX12_cuts_43 rfl (by decide) rfl ?_
      have cm := cu_m (show LnB (h 67 1) (h 68 1) (h 67 0) (h 68 0) by omega) (Or.inr rfl) b2 b1
      have sR : R32 (h 63 1) := by omega
      have mR : R64 ((h 68 0 - h 68 1) * ((h 63 1) - h 67 1)) := by omega
      have dR : R64 (h 67 0 - h 67 1) := by omega
      clear hb hs
      refine r_aload_n dX12_cuts_45 rfl rfl ?_
      refine r_getR dX12_cuts_46 fl_X12_69 sh_49 rfl ?_
      refine r_iload_n dX12_cuts_49 rfl rfl ?_
      refine r_iald dX12_cuts_50 sh_63 (by decide) ⟨by decide, by decide⟩ ?_
      refine r_i2l dX12_cuts_51 sR ?_
      refine r_lstore (L' := [_, _, _, _, _, _, _]) dX12_cuts_52 rfl (by decide) rfl ?_
      refine r_iload_n dX12_cuts_54 rfl rfl ?_
      refine r_iconst dX12_cuts_55 ?_
      refine r_icmp_ge (tgt := 127) dX12_cuts_56 rfl ⟨by decide, by decide⟩ ⟨by decide, by decide⟩ (fun c_56 => absurd c_56 (by decide)) (fun c_56 => ?_)
      refine r_aload_n dX12_cuts_59 rfl rfl ?_
      refine r_getR dX12_cuts_60 fl_X12_85 sh_49 rfl ?_
      refine r_iload dX12_cuts_63 rfl ?_
      refine r_dup2 dX12_cuts_65 ?_
      refine r_lald dX12_cuts_66 sh_68 (by decide) ⟨by decide, by decide⟩ ?_
      refine r_aload_n dX12_cuts_67 rfl rfl ?_
      refine r_getR dX12_cuts_68 fl_X12_85 sh_49 rfl ?_
      refine r_iconst dX12_cuts_71 ?_
      refine r_iload dX12_cuts_72 rfl ?_
      refine r_isub dX12_cuts_74 ?_
      refine r_lald dX12_cuts_75 sh_68 (by decide) ⟨by decide, by decide⟩ ?_
      refine r_aload_n dX12_cuts_76 rfl rfl ?_
      refine r_getR dX12_cuts_77 fl_X12_85 sh_49 rfl ?_
      refine r_iload dX12_cuts_80 rfl ?_
      refine r_lald dX12_cuts_82 sh_68 (by decide) ⟨by decide, by decide⟩ ?_
      refine r_lsub dX12_cuts_83 ?_
      refine r_lload dX12_cuts_84 rfl ?_
      refine r_aload_n dX12_cuts_86 rfl rfl ?_
      refine r_getR dX12_cuts_87 fl_X12_81 sh_49 rfl ?_
      refine r_iload dX12_cuts_90 rfl ?_
      refine r_lald dX12_cuts_92 sh_67 (by decide) ⟨by decide, by decide⟩ ?_
      refine r_lsub dX12_cuts_93 ?_
      refine r_lmul dX12_cuts_94 ?_
      refine r_aload_n dX12_cuts_95 rfl rfl ?_
      refine r_getR dX12_cuts_96 fl_X12_81 sh_49 rfl ?_
      refine r_iconst dX12_cuts_99 ?_
      refine r_iload dX12_cuts_100 rfl ?_
      refine r_isub dX12_cuts_102 ?_
      refine r_lald dX12_cuts_103 sh_67 (by decide) ⟨by decide, by decide⟩ ?_
      refine r_aload_n dX12_cuts_104 rfl rfl ?_
      refine r_getR dX12_cuts_105 fl_X12_81 sh_49 rfl ?_
      refine r_iload dX12_cuts_108 rfl ?_
      refine r_lald dX12_cuts_110 sh_67 (by decide) ⟨by decide, by decide⟩ ?_
      refine r_lsub dX12_cuts_111 ?_
      refine r_ldiv dX12_cuts_112 mR dR cm.1 ?_
      refine r_ladd dX12_cuts_113 ?_
      refine r_last dX12_cuts_114 sh_68 (by decide) ⟨by decide, by decide⟩ ?_
      refine r_aload_n dX12_cuts_115 rfl rfl ?_
      refine r_getR dX12_cuts_116 fl_X12_81 sh_49 rfl ?_
      refine r_iload dX12_cuts_119 rfl ?_
      refine r_lload dX12_cuts_121 rfl ?_
      refine r_last dX12_cuts_123 sh_67 (by decide) ⟨by decide, by decide⟩ ?_
      refine r_goto (tgt := 192) dX12_cuts_124 rfl ?_
      refine r_iconst dX12_cuts_192 ?_
      refine r_zret dX12_cuts_193 rfl (.inr rfl) ?_
      refine ⟨_, rfl, k1 _ (fun a k z1 z2 => ?_) ⟨?_, ?_, ?_, ?_⟩ (fun z => b1 z.1)⟩
      · rw [up_nc z1, up_nc z2]
      · unfold cuA
        rw [if_neg b1]
        rfl
      · unfold cuA
        rw [if_pos b2]
        rfl
      · unfold cuB
        rw [if_neg b1]
        rfl
      · unfold cuB
        rw [if_pos b2]
        rfl
    · refine r_istore_n (L' := [_, _, _, _, _, _, _]) dX12_cuts_13 rfl rfl (by decide) rfl ?_
      refine r_iload_n dX12_cuts_14 rfl rfl ?_
      refine r_if_eq (tgt := 24) dX12_cuts_15 rfl ⟨by decide, by decide⟩ (fun c_15 => ?_) (fun c_15 => absurd c_15 (by decide))
      refine r_iload_n dX12_cuts_24 rfl rfl ?_
      refine r_if_ne (tgt := 34) dX12_cuts_25 rfl ⟨by decide, by decide⟩ (fun c_25 => absurd c_25 (by decide)) (fun c_25 => ?_)
      refine r_iload_n dX12_cuts_28 rfl rfl ?_
      refine r_if_ne (tgt := 34) dX12_cuts_29 rfl ⟨by decide, by decide⟩ (fun c_29 => absurd c_29 (by decide)) (fun c_29 => ?_)
      refine r_iconst dX12_cuts_32 ?_
      refine r_zret dX12_cuts_33 rfl (.inr rfl) ?_
      refine ⟨_, rfl, k1 h (fun a k z1 z2 => rfl) ⟨?_, ?_, ?_, ?_⟩ (fun z => b1 z.1)⟩
      · unfold cuA
        rw [if_neg b1]
      · unfold cuA
        rw [if_neg b2]
      · unfold cuB
        rw [if_neg b1]
      · unfold cuB
        rw [if_neg b2]
set_option maxRecDepth 20000 in
set_option maxHeartbeats 400000 in
theorem sp_cuts_2 {d : Nat} (hd : 2 ≤ d) {h : Hp}  (hb : LnB (h 68 0) (h 67 0) (h 68 1) (h 67 1)) (hs : -2000 ≤ (h 63 2) ∧ (h 63 2) ≤ 2000) {P : Int → Hp → Prop} (k0 : (cuN 1 (h 63 2) (h 68 0) (h 68 1)) → P (0) h) (k1 : ∀ h' : Hp, (∀ a k, a ≠ 67 → a ≠ 68 → h' a k = h a k) → (h' 68 0 = cuA 1 (h 63 2) (h 68 0) ∧ h' 68 1 = cuA 1 (h 63 2) (h 68 1) ∧ h' 67 0 = cuB 1 (h 63 2) (h 68 0) (h 68 1) (h 67 0) (h 67 1) ∧ h' 67 1 = cuB 1 (h 63 2) (h 68 1) (h 68 0) (h 67 1) (h 67 0)) → (¬ cuN 1 (h 63 2) (h 68 0) (h 68 1)) → P (1) h') : Cl d mX12_cuts [.inr (.inr 49), .inl 2] h (pI P) := by
  refine Cl.of (L := [some (.inr (.inr 49)), some (.inl 2), none, none, none, none, none]) (by decide +kernel) (Nat.le_of_ble_eq_true rfl) rfl ?_
  obtain ⟨d, rfl⟩ : ∃ q, d = q + 1 := ⟨d - 1, by omega⟩
  refine r_aload_n dX12_cuts_0 rfl rfl ?_
  refine r_iload_n dX12_cuts_1 rfl rfl ?_
  refine r_iconst dX12_cuts_2 ?_
  refine r_callVI (av := [_, _]) (M' := mX12_isBeyond) dX12_cuts_3 vX12_isBeyond ml_X12_294 sh_49 (by decide) rfl rfl rfl rfl (by simp [wtA]) (sp_bey_2_0 (by omega) ⟨by omega, hs⟩ (fun b1 => ?_) (fun b1 => ?_))
  · refine r_istore_n (L' := [_, _, _, _, _, _, _]) dX12_cuts_6 rfl rfl (by decide) rfl ?_
    refine r_aload_n dX12_cuts_7 rfl rfl ?_
    refine r_iload_n dX12_cuts_8 rfl rfl ?_
    refine r_iconst dX12_cuts_9 ?_
    refine r_callVI (av := [_, _]) (M' := mX12_isBeyond) dX12_cuts_10 vX12_isBeyond ml_X12_294 sh_49 (by decide) rfl rfl rfl rfl (by simp [wtA]) (sp_bey_2_1 (by omega) ⟨by omega, hs⟩ (fun b2 => ?_) (fun b2 => ?_))
    · refine r_istore_n (L' := [_, _, _, _, _, _, _]) dX12_cuts_13 rfl rfl (by decide) rfl ?_
      refine r_iload_n dX12_cuts_14 rfl rfl ?_
      refine r_if_eq (tgt := 24) dX12_cuts_15 rfl ⟨by decide, by decide⟩ (fun c_15 => absurd c_15 (by decide)) (fun c_15 => ?_)
      refine r_iload_n dX12_cuts_18 rfl rfl ?_
      refine r_if_eq (tgt := 24) dX12_cuts_19 rfl ⟨by decide, by decide⟩ (fun c_19 => absurd c_19 (by decide)) (fun c_19 => ?_)
      refine r_iconst dX12_cuts_22 ?_
      refine r_zret dX12_cuts_23 rfl (.inl rfl) ?_
      exact ⟨_, rfl, k0 ⟨b1, b2⟩⟩
    · refine r_istore_n (L' := [_, _, _, _, _, _, _]) dX12_cuts_13 rfl rfl (by decide) rfl ?_
      refine r_iload_n dX12_cuts_14 rfl rfl ?_
      refine r_if_eq (tgt := 24) dX12_cuts_15 rfl ⟨by decide, by decide⟩ (fun c_15 => absurd c_15 (by decide)) (fun c_15 => ?_)
      refine r_iload_n dX12_cuts_18 rfl rfl ?_
      refine r_if_eq (tgt := 24) dX12_cuts_19 rfl ⟨by decide, by decide⟩ (fun c_19 => ?_) (fun c_19 => absurd c_19 (by decide))
      refine r_iload_n dX12_cuts_24 rfl rfl ?_
      refine r_if_ne (tgt := 34) dX12_cuts_25 rfl ⟨by decide, by decide⟩ (fun c_25 => ?_) (fun c_25 => absurd c_25 (by decide))
      refine r_iload_n dX12_cuts_34 rfl rfl ?_
      refine r_if_eq (tgt := 42) dX12_cuts_35 rfl ⟨by decide, by decide⟩ (fun c_35 => absurd c_35 (by decide)) (fun c_35 => ?_)
      refine r_iconst dX12_cuts_38 ?_
      refine r_goto (tgt := 43) dX12_cuts_39 rfl ?_
      refine r_istore (L' := [_, _, _, _, _, _, _]) dX12_cuts_43 rfl (by decide) rfl ?_
      have cm := cu_m (show LnB (h 68 0) (h 67 0) (h 68 1) (h 67 1) by omega) (Or.inl rfl) b1 b2
      have sR : R32 (h 63 2) := by omega
      have mR : R64 ((h 67 1 - h 67 0) * ((h 63 2) - h 68 0)) := by omega
      have dR : R64 (h 68 1 - h 68 0) := by omega
      clear hb hs
      refine r_aload_n dX12_cuts_45 rfl rfl ?_
      refine r_getR dX12_cuts_46 fl_X12_69 sh_49 rfl ?_
      refine r_iload_n dX12_cuts_49 rfl rfl ?_
      refine r_iald dX12_cuts_50 sh_63 (by decide) ⟨by decide, by decide⟩ ?_
      refine r_i2l dX12_cuts_51 sR ?_
      refine r_lstore (L' := [_, _, _, _, _, _, _]) dX12_cuts_52 rfl (by decide) rfl ?_
      refine r_iload_n dX12_cuts_54 rfl rfl ?_
      refine r_iconst dX12_cuts_55 ?_
      refine r_icmp_ge (tgt := 127) dX12_cuts_56 rfl ⟨by decide, by decide⟩ ⟨by decide, by decide⟩ (fun c_56 => ?_) (fun c_56 => absurd c_56 (by decide))
      refine r_aload_n dX12_cuts_127 rfl rfl ?_
      refine r_getR dX12_cuts_128 fl_X12_81 sh_49 rfl ?_
      refine r_iload dX12_cuts_131 rfl ?_
      refine r_dup2 dX12_cuts_133 ?_
      refine r_lald dX12_cuts_134 sh_67 (by decide) ⟨by decide, by decide⟩ ?_
      refine r_aload_n dX12_cuts_135 rfl rfl ?_
      refine r_getR dX12_cuts_136 fl_X12_81 sh_49 rfl ?_
      refine r_iconst dX12_cuts_139 ?_
      refine r_iload dX12_cuts_140 rfl ?_
      refine r_isub dX12_cuts_142 ?_
      refine r_lald dX12_cuts_143 sh_67 (by decide) ⟨by decide, by decide⟩ ?_
      refine r_aload_n dX12_cuts_144 rfl rfl ?_
      refine r_getR dX12_cuts_145 fl_X12_81 sh_49 rfl ?_
      refine r_iload dX12_cuts_148 rfl ?_
      refine r_lald dX12_cuts_150 sh_67 (by decide) ⟨by decide, by decide⟩ ?_
      refine r_lsub dX12_cuts_151 ?_
      refine r_lload dX12_cuts_152 rfl ?_
      refine r_aload_n dX12_cuts_154 rfl rfl ?_
      refine r_getR dX12_cuts_155 fl_X12_85 sh_49 rfl ?_
      refine r_iload dX12_cuts_158 rfl ?_
      refine r_lald dX12_cuts_160 sh_68 (by decide) ⟨by decide, by decide⟩ ?_
      refine r_lsub dX12_cuts_161 ?_
      refine r_lmul dX12_cuts_162 ?_
      refine r_aload_n dX12_cuts_163 rfl rfl ?_
      refine r_getR dX12_cuts_164 fl_X12_85 sh_49 rfl ?_
      refine r_iconst dX12_cuts_167 ?_
      refine r_iload dX12_cuts_168 rfl ?_
      refine r_isub dX12_cuts_170 ?_
      refine r_lald dX12_cuts_171 sh_68 (by decide) ⟨by decide, by decide⟩ ?_
      refine r_aload_n dX12_cuts_172 rfl rfl ?_
      refine r_getR dX12_cuts_173 fl_X12_85 sh_49 rfl ?_
      refine r_iload dX12_cuts_176 rfl ?_
      refine r_lald dX12_cuts_178 sh_68 (by decide) ⟨by decide, by decide⟩ ?_
      refine r_lsub dX12_cuts_179 ?_
      refine r_ldiv dX12_cuts_180 mR dR cm.1 ?_
      refine r_ladd dX12_cuts_181 ?_
      refine r_last dX12_cuts_182 sh_67 (by decide) ⟨by decide, by decide⟩ ?_
      refine r_aload_n dX12_cuts_183 rfl rfl ?_
      refine r_getR dX12_cuts_184 fl_X12_85 sh_49 rfl ?_
      refine r_iload dX12_cuts_187 rfl ?_
      refine r_lload dX12_cuts_189 rfl ?_
      refine r_last dX12_cuts_191 sh_68 (by decide) ⟨by decide, by decide⟩ ?_
      refine r_iconst dX12_cuts_192 ?_
      refine r_zret dX12_cuts_193 rfl (.inr rfl) ?_
      refine ⟨_, rfl, k1 _ (fun a k z1 z2 => ?_) ⟨?_, ?_, ?_, ?_⟩ (fun z => b2 z.2)⟩
      · rw [up_nc z2, up_nc z1]
      · unfold cuA
        rw [if_pos b1]
        rfl
      · unfold cuA
        rw [if_neg b2]
        rfl
      · unfold cuB
        rw [if_pos b1]
        rfl
      · unfold cuB
        rw [if_neg b2]
        rfl
  · refine r_istore_n (L' := [_, _, _, _, _, _, _]) dX12_cuts_6 rfl rfl (by decide) rfl ?_
    refine r_aload_n dX12_cuts_7 rfl rfl ?_
    refine r_iload_n dX12_cuts_8 rfl rfl ?_
    refine r_iconst dX12_cuts_9 ?_
    refine r_callVI (av := [_, _]) (M' := mX12_isBeyond) dX12_cuts_10 vX12_isBeyond ml_X12_294 sh_49 (by decide) rfl rfl rfl rfl (by simp [wtA]) (sp_bey_2_1 (by omega) ⟨by omega, hs⟩ (fun b2 => ?_) (fun b2 => ?_))
    · refine r_istore_n (L' := [_, _, _, _, _, _, _]) dX12_cuts_13 rfl rfl (by decide) rfl ?_
      refine r_iload_n dX12_cuts_14 rfl rfl ?_
      refine r_if_eq (tgt := 24) dX12_cuts_15 rfl ⟨by decide, by decide⟩ (fun c_15 => ?_) (fun c_15 => absurd c_15 (by decide))
      refine r_iload_n dX12_cuts_24 rfl rfl ?_
      refine r_if_ne (tgt := 34) dX12_cuts_25 rfl ⟨by decide, by decide⟩ (fun c_25 => absurd c_25 (by decide)) (fun c_25 => ?_)
      refine r_iload_n dX12_cuts_28 rfl rfl ?_
      refine r_if_ne (tgt := 34) dX12_cuts_29 rfl ⟨by decide, by decide⟩ (fun c_29 => ?_) (fun c_29 => absurd c_29 (by decide))
      refine r_iload_n dX12_cuts_34 rfl rfl ?_
      refine r_if_eq (tgt := 42) dX12_cuts_35 rfl ⟨by decide, by decide⟩ (fun c_35 => ?_) (fun c_35 => absurd c_35 (by decide))
      refine r_iconst dX12_cuts_42 ?_
      refine r_istore (L' := [_, _, _, _, _, _, _]) dX12_cuts_43 rfl (by decide) rfl ?_
      have cm := cu_m (show LnB (h 68 1) (h 67 1) (h 68 0) (h 67 0) by omega) (Or.inl rfl) b2 b1
      have sR : R32 (h 63 2) := by omega
      have mR : R64 ((h 67 0 - h 67 1) * ((h 63 2) - h 68 1)) := by omega
      have dR : R64 (h 68 0 - h 68 1) := by omega
      clear hb hs
      refine r_aload_n dX12_cuts_45 rfl rfl ?_
      refine r_getR dX12_cuts_46 fl_X12_69 sh_49 rfl ?_
      refine r_iload_n dX12_cuts_49 rfl rfl ?_
      refine r_iald dX12_cuts_50 sh_63 (by decide) ⟨by decide, by decide⟩ ?_
      refine r_i2l dX12_cuts_51 sR ?_
      refine r_lstore (L' := [_, _, _, _, _, _, _]) dX12_cuts_52 rfl (by decide) rfl ?_
      refine r_iload_n dX12_cuts_54 rfl rfl ?_
      refine r_iconst dX12_cuts_55 ?_
      refine r_icmp_ge (tgt := 127) dX12_cuts_56 rfl ⟨by decide, by decide⟩ ⟨by decide, by decide⟩ (fun c_56 => ?_) (fun c_56 => absurd c_56 (by decide))
      refine r_aload_n dX12_cuts_127 rfl rfl ?_
      refine r_getR dX12_cuts_128 fl_X12_81 sh_49 rfl ?_
      refine r_iload dX12_cuts_131 rfl ?_
      refine r_dup2 dX12_cuts_133 ?_
      refine r_lald dX12_cuts_134 sh_67 (by decide) ⟨by decide, by decide⟩ ?_
      refine r_aload_n dX12_cuts_135 rfl rfl ?_
      refine r_getR dX12_cuts_136 fl_X12_81 sh_49 rfl ?_
      refine r_iconst dX12_cuts_139 ?_
      refine r_iload dX12_cuts_140 rfl ?_
      refine r_isub dX12_cuts_142 ?_
      refine r_lald dX12_cuts_143 sh_67 (by decide) ⟨by decide, by decide⟩ ?_
      refine r_aload_n dX12_cuts_144 rfl rfl ?_
      refine r_getR dX12_cuts_145 fl_X12_81 sh_49 rfl ?_
      refine r_iload dX12_cuts_148 rfl ?_
      refine r_lald dX12_cuts_150 sh_67 (by decide) ⟨by decide, by decide⟩ ?_
      refine r_lsub dX12_cuts_151 ?_
      refine r_lload dX12_cuts_152 rfl ?_
      refine r_aload_n dX12_cuts_154 rfl rfl ?_
      refine r_getR dX12_cuts_155 fl_X12_85 sh_49 rfl ?_
      refine r_iload dX12_cuts_158 rfl ?_
      refine r_lald dX12_cuts_160 sh_68 (by decide) ⟨by decide, by decide⟩ ?_
      refine r_lsub dX12_cuts_161 ?_
      refine r_lmul dX12_cuts_162 ?_
      refine r_aload_n dX12_cuts_163 rfl rfl ?_
      refine r_getR dX12_cuts_164 fl_X12_85 sh_49 rfl ?_
      refine r_iconst dX12_cuts_167 ?_
      refine r_iload dX12_cuts_168 rfl ?_
      refine r_isub dX12_cuts_170 ?_
      refine r_lald dX12_cuts_171 sh_68 (by decide) ⟨by decide, by decide⟩ ?_
      refine r_aload_n dX12_cuts_172 rfl rfl ?_
      refine r_getR dX12_cuts_173 fl_X12_85 sh_49 rfl ?_
      refine r_iload dX12_cuts_176 rfl ?_
      refine r_lald dX12_cuts_178 sh_68 (by decide) ⟨by decide, by decide⟩ ?_
      refine r_lsub dX12_cuts_179 ?_
      refine r_ldiv dX12_cuts_180 mR dR cm.1 ?_
      refine r_ladd dX12_cuts_181 ?_
      refine r_last dX12_cuts_182 sh_67 (by decide) ⟨by decide, by decide⟩ ?_
      refine r_aload_n dX12_cuts_183 rfl rfl ?_
      refine r_getR dX12_cuts_184 fl_X12_85 sh_49 rfl ?_
      refine r_iload dX12_cuts_187 rfl ?_
      refine r_lload dX12_cuts_189 rfl ?_
      refine r_last dX12_cuts_191 sh_68 (by decide) ⟨by decide, by decide⟩ ?_
      refine r_iconst dX12_cuts_192 ?_
      refine r_zret dX12_cuts_193 rfl (.inr rfl) ?_
      refine ⟨_, rfl, k1 _ (fun a k z1 z2 => ?_) ⟨?_, ?_, ?_, ?_⟩ (fun z => b1 z.1)⟩
      · rw [up_nc z2, up_nc z1]
      · unfold cuA
        rw [if_neg b1]
        rfl
      · unfold cuA
        rw [if_pos b2]
        rfl
      · unfold cuB
        rw [if_neg b1]
        rfl
      · unfold cuB
        rw [if_pos b2]
        rfl
    · refine r_istore_n (L' := [_, _, _, _, _, _, _]) dX12_cuts_13 rfl rfl (by decide) rfl ?_
      refine r_iload_n dX12_cuts_14 rfl rfl ?_
      refine r_if_eq (tgt := 24) dX12_cuts_15 rfl ⟨by decide, by decide⟩ (fun c_15 => ?_) (fun c_15 => absurd c_15 (by decide))
      refine r_iload_n dX12_cuts_24 rfl rfl ?_
      refine r_if_ne (tgt := 34) dX12_cuts_25 rfl ⟨by decide, by decide⟩ (fun c_25 => absurd c_25 (by decide)) (fun c_25 => ?_)
      refine r_iload_n dX12_cuts_28 rfl rfl ?_
      refine r_if_ne (tgt := 34) dX12_cuts_29 rfl ⟨by decide, by decide⟩ (fun c_29 => absurd c_29 (by decide)) (fun c_29 => ?_)
      refine r_iconst dX12_cuts_32 ?_
      refine r_zret dX12_cuts_33 rfl (.inr rfl) ?_
      refine ⟨_, rfl, k1 h (fun a k z1 z2 => rfl) ⟨?_, ?_, ?_, ?_⟩ (fun z => b1 z.1)⟩
      · unfold cuA
        rw [if_neg b1]
      · unfold cuA
        rw [if_neg b2]
      · unfold cuB
        rw [if_neg b1]
      · unfold cuB
        rw [if_neg b2]
set_option maxRecDepth 20000 in
set_option maxHeartbeats 400000 in
theorem sp_cuts_3 {d : Nat} (hd : 2 ≤ d) {h : Hp}  (hb : LnB (h 68 0) (h 67 0) (h 68 1) (h 67 1)) (hs : -2000 ≤ (h 63 3) ∧ (h 63 3) ≤ 2000) {P : Int → Hp → Prop} (k0 : (cuN (-1) (h 63 3) (h 68 0) (h 68 1)) → P (0) h) (k1 : ∀ h' : Hp, (∀ a k, a ≠ 67 → a ≠ 68 → h' a k = h a k) → (h' 68 0 = cuA (-1) (h 63 3) (h 68 0) ∧ h' 68 1 = cuA (-1) (h 63 3) (h 68 1) ∧ h' 67 0 = cuB (-1) (h 63 3) (h 68 0) (h 68 1) (h 67 0) (h 67 1) ∧ h' 67 1 = cuB (-1) (h 63 3) (h 68 1) (h 68 0) (h 67 1) (h 67 0)) → (¬ cuN (-1) (h 63 3) (h 68 0) (h 68 1)) → P (1) h') : Cl d mX12_cuts [.inr (.inr 49), .inl 3] h (pI P) := by
  refine Cl.of (L := [some (.inr (.inr 49)), some (.inl 3), none, none, none, none, none]) (by decide +kernel) (Nat.le_of_ble_eq_true rfl) rfl ?_
  obtain ⟨d, rfl⟩ : ∃ q, d = q + 1 := ⟨d - 1, by omega⟩
  refine r_aload_n dX12_cuts_0 rfl rfl ?_
  refine r_iload_n dX12_cuts_1 rfl rfl ?_
  refine r_iconst dX12_cuts_2 ?_
  refine r_callVI (av := [_, _]) (M' := mX12_isBeyond) dX12_cuts_3 vX12_isBeyond ml_X12_294 sh_49 (by decide) rfl rfl rfl rfl (by simp [wtA]) (sp_bey_3_0 (by omega) ⟨by omega, hs⟩ (fun b1 => ?_) (fun b1 => ?_))
  · refine r_istore_n (L' := [_, _, _, _, _, _, _]) dX12_cuts_6 rfl rfl (by decide) rfl ?_
    refine r_aload_n dX12_cuts_7 rfl rfl ?_
    refine r_iload_n dX12_cuts_8 rfl rfl ?_
    refine r_iconst dX12_cuts_9 ?_
    refine r_callVI (av := [_, _]) (M' := mX12_isBeyond) dX12_cuts_10 vX12_isBeyond ml_X12_294 sh_49 (by decide) rfl rfl rfl rfl (by simp [wtA]) (sp_bey_3_1 (by omega) ⟨by omega, hs⟩ (fun b2 => ?_) (fun b2 => ?_))
    · refine r_istore_n (L' := [_, _, _, _, _, _, _]) dX12_cuts_13 rfl rfl (by decide) rfl ?_
      refine r_iload_n dX12_cuts_14 rfl rfl ?_
      refine r_if_eq (tgt := 24) dX12_cuts_15 rfl ⟨by decide, by decide⟩ (fun c_15 => absurd c_15 (by decide)) (fun c_15 => ?_)
      refine r_iload_n dX12_cuts_18 rfl rfl ?_
      refine r_if_eq (tgt := 24) dX12_cuts_19 rfl ⟨by decide, by decide⟩ (fun c_19 => absurd c_19 (by decide)) (fun c_19 => ?_)
      refine r_iconst dX12_cuts_22 ?_
      refine r_zret dX12_cuts_23 rfl (.inl rfl) ?_
      exact ⟨_, rfl, k0 ⟨b1, b2⟩⟩
    · refine r_istore_n (L' := [_, _, _, _, _, _, _]) dX12_cuts_13 rfl rfl (by decide) rfl ?_
      refine r_iload_n dX12_cuts_14 rfl rfl ?_
      refine r_if_eq (tgt := 24) dX12_cuts_15 rfl ⟨by decide, by decide⟩ (fun c_15 => absurd c_15 (by decide)) (fun c_15 => ?_)
      refine r_iload_n dX12_cuts_18 rfl rfl ?_
      refine r_if_eq (tgt := 24) dX12_cuts_19 rfl ⟨by decide, by decide⟩ (fun c_19 => ?_) (fun c_19 => absurd c_19 (by decide))
      refine r_iload_n dX12_cuts_24 rfl rfl ?_
      refine r_if_ne (tgt := 34) dX12_cuts_25 rfl ⟨by decide, by decide⟩ (fun c_25 => ?_) (fun c_25 => absurd c_25 (by decide))
      refine r_iload_n dX12_cuts_34 rfl rfl ?_
      refine r_if_eq (tgt := 42) dX12_cuts_35 rfl ⟨by decide, by decide⟩ (fun c_35 => absurd c_35 (by decide)) (fun c_35 => ?_)
      refine r_iconst dX12_cuts_38 ?_
      refine r_goto (tgt := 43) dX12_cuts_39 rfl ?_
      refine r_istore (L' := [_, _, _, _, _, _, _]) dX12_cuts_43 rfl (by decide) rfl ?_
      have cm := cu_m (show LnB (h 68 0) (h 67 0) (h 68 1) (h 67 1) by omega) (Or.inr rfl) b1 b2
      have sR : R32 (h 63 3) := by omega
      have mR : R64 ((h 67 1 - h 67 0) * ((h 63 3) - h 68 0)) := by omega
      have dR : R64 (h 68 1 - h 68 0) := by omega
      clear hb hs
      refine r_aload_n dX12_cuts_45 rfl rfl ?_
      refine r_getR dX12_cuts_46 fl_X12_69 sh_49 rfl ?_
      refine r_iload_n dX12_cuts_49 rfl rfl ?_
      refine r_iald dX12_cuts_50 sh_63 (by decide) ⟨by decide, by decide⟩ ?_
      refine r_i2l dX12_cuts_51 sR ?_
      refine r_lstore (L' := [_, _, _, _, _, _, _]) dX12_cuts_52 rfl (by decide) rfl ?_
      refine r_iload_n dX12_cuts_54 rfl rfl ?_
      refine r_iconst dX12_cuts_55 ?_
      refine r_icmp_ge (tgt := 127) dX12_cuts_56 rfl ⟨by decide, by decide⟩ ⟨by decide, by decide⟩ (fun c_56 => ?_) (fun c_56 => absurd c_56 (by decide))
      refine r_aload_n dX12_cuts_127 rfl rfl ?_
      refine r_getR dX12_cuts_128 fl_X12_81 sh_49 rfl ?_
      refine r_iload dX12_cuts_131 rfl ?_
      refine r_dup2 dX12_cuts_133 ?_
      refine r_lald dX12_cuts_134 sh_67 (by decide) ⟨by decide, by decide⟩ ?_
      refine r_aload_n dX12_cuts_135 rfl rfl ?_
      refine r_getR dX12_cuts_136 fl_X12_81 sh_49 rfl ?_
      refine r_iconst dX12_cuts_139 ?_
      refine r_iload dX12_cuts_140 rfl ?_
      refine r_isub dX12_cuts_142 ?_
      refine r_lald dX12_cuts_143 sh_67 (by decide) ⟨by decide, by decide⟩ ?_
      refine r_aload_n dX12_cuts_144 rfl rfl ?_
      refine r_getR dX12_cuts_145 fl_X12_81 sh_49 rfl ?_
      refine r_iload dX12_cuts_148 rfl ?_
      refine r_lald dX12_cuts_150 sh_67 (by decide) ⟨by decide, by decide⟩ ?_
      refine r_lsub dX12_cuts_151 ?_
      refine r_lload dX12_cuts_152 rfl ?_
      refine r_aload_n dX12_cuts_154 rfl rfl ?_
      refine r_getR dX12_cuts_155 fl_X12_85 sh_49 rfl ?_
      refine r_iload dX12_cuts_158 rfl ?_
      refine r_lald dX12_cuts_160 sh_68 (by decide) ⟨by decide, by decide⟩ ?_
      refine r_lsub dX12_cuts_161 ?_
      refine r_lmul dX12_cuts_162 ?_
      refine r_aload_n dX12_cuts_163 rfl rfl ?_
      refine r_getR dX12_cuts_164 fl_X12_85 sh_49 rfl ?_
      refine r_iconst dX12_cuts_167 ?_
      refine r_iload dX12_cuts_168 rfl ?_
      refine r_isub dX12_cuts_170 ?_
      refine r_lald dX12_cuts_171 sh_68 (by decide) ⟨by decide, by decide⟩ ?_
      refine r_aload_n dX12_cuts_172 rfl rfl ?_
      refine r_getR dX12_cuts_173 fl_X12_85 sh_49 rfl ?_
      refine r_iload dX12_cuts_176 rfl ?_
      refine r_lald dX12_cuts_178 sh_68 (by decide) ⟨by decide, by decide⟩ ?_
      refine r_lsub dX12_cuts_179 ?_
      refine r_ldiv dX12_cuts_180 mR dR cm.1 ?_
      refine r_ladd dX12_cuts_181 ?_
      refine r_last dX12_cuts_182 sh_67 (by decide) ⟨by decide, by decide⟩ ?_
      refine r_aload_n dX12_cuts_183 rfl rfl ?_
      refine r_getR dX12_cuts_184 fl_X12_85 sh_49 rfl ?_
      refine r_iload dX12_cuts_187 rfl ?_
      refine r_lload dX12_cuts_189 rfl ?_
      refine r_last dX12_cuts_191 sh_68 (by decide) ⟨by decide, by decide⟩ ?_
      refine r_iconst dX12_cuts_192 ?_
      refine r_zret dX12_cuts_193 rfl (.inr rfl) ?_
      refine ⟨_, rfl, k1 _ (fun a k z1 z2 => ?_) ⟨?_, ?_, ?_, ?_⟩ (fun z => b2 z.2)⟩
      · rw [up_nc z2, up_nc z1]
      · unfold cuA
        rw [if_pos b1]
        rfl
      · unfold cuA
        rw [if_neg b2]
        rfl
      · unfold cuB
        rw [if_pos b1]
        rfl
      · unfold cuB
        rw [if_neg b2]
        rfl
  · refine r_istore_n (L' := [_, _, _, _, _, _, _]) dX12_cuts_6 rfl rfl (by decide) rfl ?_
    refine r_aload_n dX12_cuts_7 rfl rfl ?_
    refine r_iload_n dX12_cuts_8 rfl rfl ?_
    refine r_iconst dX12_cuts_9 ?_
    refine r_callVI (av := [_, _]) (M' := mX12_isBeyond) dX12_cuts_10 vX12_isBeyond ml_X12_294 sh_49 (by decide) rfl rfl rfl rfl (by simp [wtA]) (sp_bey_3_1 (by omega) ⟨by omega, hs⟩ (fun b2 => ?_) (fun b2 => ?_))
    · refine r_istore_n (L' := [_, _, _, _, _, _, _]) dX12_cuts_13 rfl rfl (by decide) rfl ?_
      refine r_iload_n dX12_cuts_14 rfl rfl ?_
      refine r_if_eq (tgt := 24) dX12_cuts_15 rfl ⟨by decide, by decide⟩ (fun c_15 => ?_) (fun c_15 => absurd c_15 (by decide))
      refine r_iload_n dX12_cuts_24 rfl rfl ?_
      refine r_if_ne (tgt := 34) dX12_cuts_25 rfl ⟨by decide, by decide⟩ (fun c_25 => absurd c_25 (by decide)) (fun c_25 => ?_)
      refine r_iload_n dX12_cuts_28 rfl rfl ?_
      refine r_if_ne (tgt := 34) dX12_cuts_29 rfl ⟨by decide, by decide⟩ (fun c_29 => ?_) (fun c_29 => absurd c_29 (by decide))
      refine r_iload_n dX12_cuts_34 rfl rfl ?_
      refine r_if_eq (tgt := 42) dX12_cuts_35 rfl ⟨by decide, by decide⟩ (fun c_35 => ?_) (fun c_35 => absurd c_35 (by decide))
      refine r_iconst dX12_cuts_42 ?_
      refine r_istore (L' := [_, _, _, _, _, _, _]) dX12_cuts_43 rfl (by decide) rfl ?_
      have cm := cu_m (show LnB (h 68 1) (h 67 1) (h 68 0) (h 67 0) by omega) (Or.inr rfl) b2 b1
      have sR : R32 (h 63 3) := by omega
      have mR : R64 ((h 67 0 - h 67 1) * ((h 63 3) - h 68 1)) := by omega
      have dR : R64 (h 68 0 - h 68 1) := by omega
      clear hb hs
      refine r_aload_n dX12_cuts_45 rfl rfl ?_
      refine r_getR dX12_cuts_46 fl_X12_69 sh_49 rfl ?_
      refine r_iload_n dX12_cuts_49 rfl rfl ?_
      refine r_iald dX12_cuts_50 sh_63 (by decide) ⟨by decide, by decide⟩ ?_
      refine r_i2l dX12_cuts_51 sR ?_
      refine r_lstore (L' := [_, _, _, _, _, _, _]) dX12_cuts_52 rfl (by decide) rfl ?_
      refine r_iload_n dX12_cuts_54 rfl rfl ?_
      refine r_iconst dX12_cuts_55 ?_
      refine r_icmp_ge (tgt := 127) dX12_cuts_56 rfl ⟨by decide, by decide⟩ ⟨by decide, by decide⟩ (fun c_56 => ?_) (fun c_56 => absurd c_56 (by decide))
      refine r_aload_n dX12_cuts_127 rfl rfl ?_
      refine r_getR dX12_cuts_128 fl_X12_81 sh_49 rfl ?_
      refine r_iload dX12_cuts_131 rfl ?_
      refine r_dup2 dX12_cuts_133 ?_
      refine r_lald dX12_cuts_134 sh_67 (by decide) ⟨by decide, by decide⟩ ?_
      refine r_aload_n dX12_cuts_135 rfl rfl ?_
      refine r_getR dX12_cuts_136 fl_X12_81 sh_49 rfl ?_
      refine r_iconst dX12_cuts_139 ?_
      refine r_iload dX12_cuts_140 rfl ?_
      refine r_isub dX12_cuts_142 ?_
      refine r_lald dX12_cuts_143 sh_67 (by decide) ⟨by decide, by decide⟩ ?_
      refine r_aload_n dX12_cuts_144 rfl rfl ?_
      refine r_getR dX12_cuts_145 fl_X12_81 sh_49 rfl ?_
      refine r_iload dX12_cuts_148 rfl ?_
      refine r_lald dX12_cuts_150 sh_67 (by decide) ⟨by decide, by decide⟩ ?_
      refine r_lsub dX12_cuts_151 ?_
      refine r_lload dX12_cuts_152 rfl ?_
      refine r_aload_n dX12_cuts_154 rfl rfl ?_
      refine r_getR dX12_cuts_155 fl_X12_85 sh_49 rfl ?_
      refine r_iload dX12_cuts_158 rfl ?_
      refine r_lald dX12_cuts_160 sh_68 (by decide) ⟨by decide, by decide⟩ ?_
      refine r_lsub dX12_cuts_161 ?_
      refine r_lmul dX12_cuts_162 ?_
      refine r_aload_n dX12_cuts_163 rfl rfl ?_
      refine r_getR dX12_cuts_164 fl_X12_85 sh_49 rfl ?_
      refine r_iconst dX12_cuts_167 ?_
      refine r_iload dX12_cuts_168 rfl ?_
      refine r_isub dX12_cuts_170 ?_
      refine r_lald dX12_cuts_171 sh_68 (by decide) ⟨by decide, by decide⟩ ?_
      refine r_aload_n dX12_cuts_172 rfl rfl ?_
      refine r_getR dX12_cuts_173 fl_X12_85 sh_49 rfl ?_
      refine r_iload dX12_cuts_176 rfl ?_
      refine r_lald dX12_cuts_178 sh_68 (by decide) ⟨by decide, by decide⟩ ?_
      refine r_lsub dX12_cuts_179 ?_
      refine r_ldiv dX12_cuts_180 mR dR cm.1 ?_
      refine r_ladd dX12_cuts_181 ?_
      refine r_last dX12_cuts_182 sh_67 (by decide) ⟨by decide, by decide⟩ ?_
      refine r_aload_n dX12_cuts_183 rfl rfl ?_
      refine r_getR dX12_cuts_184 fl_X12_85 sh_49 rfl ?_
      refine r_iload dX12_cuts_187 rfl ?_
      refine r_lload dX12_cuts_189 rfl ?_
      refine r_last dX12_cuts_191 sh_68 (by decide) ⟨by decide, by decide⟩ ?_
      refine r_iconst dX12_cuts_192 ?_
      refine r_zret dX12_cuts_193 rfl (.inr rfl) ?_
      refine ⟨_, rfl, k1 _ (fun a k z1 z2 => ?_) ⟨?_, ?_, ?_, ?_⟩ (fun z => b1 z.1)⟩
      · rw [up_nc z2, up_nc z1]
      · unfold cuA
        rw [if_neg b1]
        rfl
      · unfold cuA
        rw [if_pos b2]
        rfl
      · unfold cuB
        rw [if_neg b1]
        rfl
      · unfold cuB
        rw [if_pos b2]
        rfl
    · refine r_istore_n (L' := [_, _, _, _, _, _, _]) dX12_cuts_13 rfl rfl (by decide) rfl ?_
      refine r_iload_n dX12_cuts_14 rfl rfl ?_
      refine r_if_eq (tgt := 24) dX12_cuts_15 rfl ⟨by decide, by decide⟩ (fun c_15 => ?_) (fun c_15 => absurd c_15 (by decide))
      refine r_iload_n dX12_cuts_24 rfl rfl ?_
      refine r_if_ne (tgt := 34) dX12_cuts_25 rfl ⟨by decide, by decide⟩ (fun c_25 => absurd c_25 (by decide)) (fun c_25 => ?_)
      refine r_iload_n dX12_cuts_28 rfl rfl ?_
      refine r_if_ne (tgt := 34) dX12_cuts_29 rfl ⟨by decide, by decide⟩ (fun c_29 => absurd c_29 (by decide)) (fun c_29 => ?_)
      refine r_iconst dX12_cuts_32 ?_
      refine r_zret dX12_cuts_33 rfl (.inr rfl) ?_
      refine ⟨_, rfl, k1 h (fun a k z1 z2 => rfl) ⟨?_, ?_, ?_, ?_⟩ (fun z => b1 z.1)⟩
      · unfold cuA
        rw [if_neg b1]
      · unfold cuA
        rw [if_neg b2]
      · unfold cuB
        rw [if_neg b1]
      · unfold cuB
        rw [if_neg b2]
set_option maxRecDepth 20000 in
set_option maxHeartbeats 400000 in
theorem sp_goes_0 {d : Nat} (hd : 1 ≤ d) {x y : Int} {h : Hp}  (hm : 0 ≤ h 49 29 ∧ h 49 29 ≤ 150) (hx : R32 x ∧ R32 y) {P : Int → Hp → Prop} (k0 : ∀ h' : Hp, (∀ a k, ¬ (a = 49 ∧ k = 29) → a ≠ 60 → a ≠ 61 → a ≠ 62 → h' a k = h a k) → (h 49 29 < 150 ∧ h' 49 29 = h 49 29 + 1 ∧ h' 60 = upG (h 60) (h 49 29 + 1).toNat x ∧ h' 61 = upG (h 61) (h 49 29 + 1).toNat y ∧ h' 62 = upG (h 62) (h 49 29 + 1).toNat 0) → P (1) h') (k1 : ∀ h' : Hp, (¬ h 49 29 < 150) → (h' = upH h 49 12 1) → P (0) h') : Cl d mX12_goes [.inr (.inr 49), .inr (.inl x), .inr (.inl y), .inl 0] h (pI P) := by
  refine Cl.of (L := [some (.inr (.inr 49)), some (.inr (.inl x)), none, some (.inr (.inl y)), none, some (.inl 0)]) (by decide +kernel) (Nat.le_of_ble_eq_true rfl) rfl ?_
  refine r_aload_n dX12_goes_0 rfl rfl ?_
  refine r_getI dX12_goes_1 fl_X12_164 sh_49 rfl ?_
  refine r_sipush dX12_goes_4 (by decide +kernel) ?_
  refine r_icmp_ne (tgt := 17) dX12_goes_7 rfl (by omega) ⟨by decide, by decide⟩ (fun c_7 => ?_) (fun c_7 => ?_)
  · refine r_aload_n dX12_goes_17 rfl rfl ?_
    refine r_dup dX12_goes_18 (fun _ h => by cases h) ?_
    refine r_getI dX12_goes_19 fl_X12_164 sh_49 rfl ?_
    refine r_iconst dX12_goes_22 ?_
    refine r_iadd dX12_goes_23 ?_
    refine r_putI dX12_goes_24 fl_X12_164 sh_49 rfl ?_
    refine r_aload_n dX12_goes_27 rfl rfl ?_
    refine r_getR dX12_goes_28 fl_X12_59 sh_49 rfl ?_
    refine r_aload_n dX12_goes_31 rfl rfl ?_
    refine r_getI dX12_goes_32 fl_X12_164 sh_49 rfl ?_
    refine r_eqI (up_s _ _ _ _) ?_
    refine r_lload_n dX12_goes_35 rfl rfl ?_
    refine r_l2i dX12_goes_36 ?_
    refine r_iast dX12_goes_37 sh_60 (by decide) (by omega) ?_
    refine r_aload_n dX12_goes_38 rfl rfl ?_
    refine r_getR dX12_goes_39 fl_X12_62 sh_49 rfl ?_
    refine r_aload_n dX12_goes_42 rfl rfl ?_
    refine r_getI dX12_goes_43 fl_X12_164 sh_49 rfl ?_
    refine r_eqI (((up_nc (by decide)).trans (up_s _ _ _ _))) ?_
    refine r_lload_n dX12_goes_46 rfl rfl ?_
    refine r_l2i dX12_goes_47 ?_
    refine r_iast dX12_goes_48 sh_61 (by decide) (by omega) ?_
    refine r_aload_n dX12_goes_49 rfl rfl ?_
    refine r_getR dX12_goes_50 fl_X12_65 sh_49 rfl ?_
    refine r_aload_n dX12_goes_53 rfl rfl ?_
    refine r_getI dX12_goes_54 fl_X12_164 sh_49 rfl ?_
    refine r_eqI (((up_nc (by decide)).trans (((up_nc (by decide)).trans (up_s _ _ _ _))))) ?_
    refine r_iload dX12_goes_57 rfl ?_
    refine r_zast dX12_goes_59 sh_62 (by decide) (by omega) (.inl rfl) ?_
    refine r_iconst dX12_goes_60 ?_
    refine r_zret dX12_goes_61 rfl (.inr rfl) ?_
    refine ⟨_, rfl, k0 _ (fun a k z1 z2 z3 z4 => ?_) ⟨by omega, ?_, ?_, ?_, ?_⟩⟩
    · rw [up_nc z4, up_nc z3, up_nc z2]
      unfold upH
      rw [if_neg z1]
    · rw [up_nc (by decide), up_nc (by decide), up_nc (by decide), up_s]
    · rw [upH_f (by decide), upH_f (by decide), upG_u, upH_f (by decide)]
    · rw [upH_f (by decide), upG_u, upH_f (by decide), upH_f (by decide)]
    · rw [upG_u, upH_f (by decide), upH_f (by decide), upH_f (by decide)]
  · refine r_aload_n dX12_goes_10 rfl rfl ?_
    refine r_iconst dX12_goes_11 ?_
    refine r_putZ dX12_goes_12 fl_X12_291 sh_49 rfl (.inr rfl) ?_
    refine r_iconst dX12_goes_15 ?_
    refine r_zret dX12_goes_16 rfl (.inl rfl) ?_
    exact ⟨_, rfl, k1 _ (by omega) rfl⟩
set_option maxRecDepth 20000 in
set_option maxHeartbeats 400000 in
theorem sp_goes_1 {d : Nat} (hd : 1 ≤ d) {x y : Int} {h : Hp}  (hm : 0 ≤ h 49 29 ∧ h 49 29 ≤ 150) (hx : R32 x ∧ R32 y) {P : Int → Hp → Prop} (k0 : ∀ h' : Hp, (∀ a k, ¬ (a = 49 ∧ k = 29) → a ≠ 60 → a ≠ 61 → a ≠ 62 → h' a k = h a k) → (h 49 29 < 150 ∧ h' 49 29 = h 49 29 + 1 ∧ h' 60 = upG (h 60) (h 49 29 + 1).toNat x ∧ h' 61 = upG (h 61) (h 49 29 + 1).toNat y ∧ h' 62 = upG (h 62) (h 49 29 + 1).toNat 1) → P (1) h') (k1 : ∀ h' : Hp, (¬ h 49 29 < 150) → (h' = upH h 49 12 1) → P (0) h') : Cl d mX12_goes [.inr (.inr 49), .inr (.inl x), .inr (.inl y), .inl 1] h (pI P) := by
  refine Cl.of (L := [some (.inr (.inr 49)), some (.inr (.inl x)), none, some (.inr (.inl y)), none, some (.inl 1)]) (by decide +kernel) (Nat.le_of_ble_eq_true rfl) rfl ?_
  refine r_aload_n dX12_goes_0 rfl rfl ?_
  refine r_getI dX12_goes_1 fl_X12_164 sh_49 rfl ?_
  refine r_sipush dX12_goes_4 (by decide +kernel) ?_
  refine r_icmp_ne (tgt := 17) dX12_goes_7 rfl (by omega) ⟨by decide, by decide⟩ (fun c_7 => ?_) (fun c_7 => ?_)
  · refine r_aload_n dX12_goes_17 rfl rfl ?_
    refine r_dup dX12_goes_18 (fun _ h => by cases h) ?_
    refine r_getI dX12_goes_19 fl_X12_164 sh_49 rfl ?_
    refine r_iconst dX12_goes_22 ?_
    refine r_iadd dX12_goes_23 ?_
    refine r_putI dX12_goes_24 fl_X12_164 sh_49 rfl ?_
    refine r_aload_n dX12_goes_27 rfl rfl ?_
    refine r_getR dX12_goes_28 fl_X12_59 sh_49 rfl ?_
    refine r_aload_n dX12_goes_31 rfl rfl ?_
    refine r_getI dX12_goes_32 fl_X12_164 sh_49 rfl ?_
    refine r_eqI (up_s _ _ _ _) ?_
    refine r_lload_n dX12_goes_35 rfl rfl ?_
    refine r_l2i dX12_goes_36 ?_
    refine r_iast dX12_goes_37 sh_60 (by decide) (by omega) ?_
    refine r_aload_n dX12_goes_38 rfl rfl ?_
    refine r_getR dX12_goes_39 fl_X12_62 sh_49 rfl ?_
    refine r_aload_n dX12_goes_42 rfl rfl ?_
    refine r_getI dX12_goes_43 fl_X12_164 sh_49 rfl ?_
    refine r_eqI (((up_nc (by decide)).trans (up_s _ _ _ _))) ?_
    refine r_lload_n dX12_goes_46 rfl rfl ?_
    refine r_l2i dX12_goes_47 ?_
    refine r_iast dX12_goes_48 sh_61 (by decide) (by omega) ?_
    refine r_aload_n dX12_goes_49 rfl rfl ?_
    refine r_getR dX12_goes_50 fl_X12_65 sh_49 rfl ?_
    refine r_aload_n dX12_goes_53 rfl rfl ?_
    refine r_getI dX12_goes_54 fl_X12_164 sh_49 rfl ?_
    refine r_eqI (((up_nc (by decide)).trans (((up_nc (by decide)).trans (up_s _ _ _ _))))) ?_
    refine r_iload dX12_goes_57 rfl ?_
    refine r_zast dX12_goes_59 sh_62 (by decide) (by omega) (.inr rfl) ?_
    refine r_iconst dX12_goes_60 ?_
    refine r_zret dX12_goes_61 rfl (.inr rfl) ?_
    refine ⟨_, rfl, k0 _ (fun a k z1 z2 z3 z4 => ?_) ⟨by omega, ?_, ?_, ?_, ?_⟩⟩
    · rw [up_nc z4, up_nc z3, up_nc z2]
      unfold upH
      rw [if_neg z1]
    · rw [up_nc (by decide), up_nc (by decide), up_nc (by decide), up_s]
    · rw [upH_f (by decide), upH_f (by decide), upG_u, upH_f (by decide)]
    · rw [upH_f (by decide), upG_u, upH_f (by decide), upH_f (by decide)]
    · rw [upG_u, upH_f (by decide), upH_f (by decide), upH_f (by decide)]
  · refine r_aload_n dX12_goes_10 rfl rfl ?_
    refine r_iconst dX12_goes_11 ?_
    refine r_putZ dX12_goes_12 fl_X12_291 sh_49 rfl (.inr rfl) ?_
    refine r_iconst dX12_goes_15 ?_
    refine r_zret dX12_goes_16 rfl (.inl rfl) ?_
    exact ⟨_, rfl, k1 _ (by omega) rfl⟩
set_option maxRecDepth 20000 in
set_option maxHeartbeats 400000 in
theorem sp_there {d : Nat} (hd : 1 ≤ d) {x y : Int} {h : Hp}  (hm : 0 ≤ h 49 29 ∧ h 49 29 ≤ 150) (hr : R32 (h 60 (h 49 29).toNat) ∧ R32 (h 61 (h 49 29).toNat)) (hx : R32 x ∧ R32 y) {P : Int → Hp → Prop} (kt : (h 60 (h 49 29).toNat = x ∧ h 61 (h 49 29).toNat = y) → P 1 h) (kf : ¬ (h 60 (h 49 29).toNat = x ∧ h 61 (h 49 29).toNat = y) → P 0 h) : Cl d mX12_isThere [.inr (.inr 49), .inr (.inl x), .inr (.inl y)] h (pI P) := by
  refine Cl.of (L := [some (.inr (.inr 49)), some (.inr (.inl x)), none, some (.inr (.inl y)), none]) (by decide +kernel) (Nat.le_of_ble_eq_true rfl) rfl ?_
  refine r_aload_n dX12_isThere_0 rfl rfl ?_
  refine r_getR dX12_isThere_1 fl_X12_59 sh_49 rfl ?_
  refine r_aload_n dX12_isThere_4 rfl rfl ?_
  refine r_getI dX12_isThere_5 fl_X12_164 sh_49 rfl ?_
  refine r_iald dX12_isThere_8 sh_60 (by decide) (by omega) ?_
  refine r_i2l dX12_isThere_9 (by omega) ?_
  refine r_lload_n dX12_isThere_10 rfl rfl ?_
  refine r_lcmp_ne (tgt := 34) dX12_isThere_11 dX12_isThere_12 rfl (by omega) (by omega) (fun c_11 => ?_) (fun c_11 => ?_)
  · refine r_iconst dX12_isThere_34 ?_
    refine r_zret dX12_isThere_35 rfl (.inl rfl) ?_
    exact ⟨_, rfl, kf (by omega)⟩
  · refine r_aload_n dX12_isThere_15 rfl rfl ?_
    refine r_getR dX12_isThere_16 fl_X12_62 sh_49 rfl ?_
    refine r_aload_n dX12_isThere_19 rfl rfl ?_
    refine r_getI dX12_isThere_20 fl_X12_164 sh_49 rfl ?_
    refine r_iald dX12_isThere_23 sh_61 (by decide) (by omega) ?_
    refine r_i2l dX12_isThere_24 (by omega) ?_
    refine r_lload_n dX12_isThere_25 rfl rfl ?_
    refine r_lcmp_ne (tgt := 34) dX12_isThere_26 dX12_isThere_27 rfl (by omega) (by omega) (fun c_26 => ?_) (fun c_26 => ?_)
    · refine r_iconst dX12_isThere_34 ?_
      refine r_zret dX12_isThere_35 rfl (.inl rfl) ?_
      exact ⟨_, rfl, kf (by omega)⟩
    · refine r_iconst dX12_isThere_30 ?_
      refine r_goto (tgt := 35) dX12_isThere_31 rfl ?_
      refine r_zret dX12_isThere_35 rfl (.inr rfl) ?_
      exact ⟨_, rfl, kt (by omega)⟩
