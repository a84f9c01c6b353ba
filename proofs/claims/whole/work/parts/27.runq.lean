theorem eqV {P : Hp → Prop} {h g : Hp} (k : P h) (e : h = g) : P g := e ▸ k
/-! WHERE A RUN IS -/
def tsF (lf ms : Nat → Int) (c : Nat) (N m dn tk : Int) : Int := if m < N then btF (lf m.toNat) (lf (m.toNat + 1)) dn tk + msN ms c (m.toNat + 1) else lf N.toNat + msN ms c N.toNat
noncomputable def fnRun (W K E N m dn go v : Int) (lf rg ms : Nat → Int) : Int := if go = 1 then (if v = 0 then m else if v = 1 then dn else if v = 2 then pX K W E (tsF lf ms 0 N m dn (tkF lf rg m.toNat)) (tsF rg ms 1 N m dn (tkF lf rg m.toNat)) else if v = 3 then pY K W E (tsF lf ms 0 N m dn (tkF lf rg m.toNat)) (tsF rg ms 1 N m dn (tkF lf rg m.toNat)) else if v = 4 then (if N ≤ m then 1 else 0) else -2147483648) else -2147483648
theorem tsF_r {lf rg ms : Nat → Int} {c : Nat} {N m dn : Int} (hq : LR lf rg N) (hN : 0 ≤ N ∧ N ≤ 150) (hm : 0 ≤ m ∧ m ≤ N) (hd : 0 ≤ dn ∧ (m < N → dn < tkF lf rg m.toNat)) (hs : ∀ j : Nat, j < 300 → -9 ≤ ms j ∧ ms j ≤ 9) (hc : c < 2) : (-1350 ≤ tsF lf ms c N m dn (tkF lf rg m.toNat) ∧ tsF lf ms c N m dn (tkF lf rg m.toNat) ≤ 7010) ∧ (-1350 ≤ tsF rg ms c N m dn (tkF lf rg m.toNat) ∧ tsF rg ms c N m dn (tkF lf rg m.toNat) ≤ 7010) := by
  unfold tsF
  have qN := hq N.toNat (by omega)
  have zN := msN_r hs hc N.toNat (by omega)
  by_cases z : m < N
  · rw [if_pos z, if_pos z]
    have q0 := hq m.toNat (by omega)
    have q1 := hq (m.toNat + 1) (by omega)
    have z1 := msN_r hs hc (m.toNat + 1) (by omega)
    have b1 := btF_r (f := lf m.toNat) (l := lf (m.toNat + 1)) (i := dn) (n := tkF lf rg m.toNat) (by omega) (by omega) (by have := hd.2 z; omega)
    have b2 := btF_r (f := rg m.toNat) (l := rg (m.toNat + 1)) (i := dn) (n := tkF lf rg m.toNat) (by omega) (by omega) (by have := hd.2 z; omega)
    omega
  · rw [if_neg z, if_neg z]
    omega
set_option maxRecDepth 20000 in
set_option maxHeartbeats 400000 in
theorem sp_trueSteps0 {d : Nat} (hd : 3 ≤ d) {h : Hp}  (hq : LR (h 20) (h 21) (h 16 0)) (hN : 0 ≤ (h 16 0) ∧ (h 16 0) ≤ 150) (hs : ∀ j : Nat, j < 300 → -9 ≤ h 22 j ∧ h 22 j ≤ 9) (hm : 0 ≤ (h 48 1) ∧ (h 48 1) ≤ (h 16 0)) (hdn : 0 ≤ (h 48 2) ∧ ((h 48 1) < (h 16 0) → (h 48 2) < tkF (h 20) (h 21) (h 48 1).toNat)) {P : Int → Hp → Prop} (k : P (tsF (h 20) (h 22) 0 (h 16 0) (h 48 1) (h 48 2) (tkF (h 20) (h 21) (h 48 1).toNat)) (h)) : Cl d mX6_trueSteps [.inr (.inr 48), .inl 0] h (pI P) := by
  refine Cl.of (L := [some (.inr (.inr 48)), some (.inl 0), none, none]) (by decide +kernel) (Nat.le_of_ble_eq_true rfl) rfl ?_
  obtain ⟨d, rfl⟩ : ∃ q, d = q + 1 := ⟨d - 1, by omega⟩
  have e1 : ((h 48 1) + 1).toNat = (h 48 1).toNat + 1 := by omega
  have q0 := hq (h 48 1).toNat (by omega)
  refine r_iload_n dX6_trueSteps_0 rfl rfl ?_
  refine r_if_ne (tgt := 14) dX6_trueSteps_1 rfl ⟨by decide, by decide⟩ (fun c_1 => absurd c_1 (by decide)) (fun c_1 => ?_)
  refine r_aload_n dX6_trueSteps_4 rfl rfl ?_
  refine r_getR dX6_trueSteps_5 fl_X6_25 sh_48 rfl ?_
  refine r_getR dX6_trueSteps_8 fl_X6_41 sh_16 rfl ?_
  refine r_goto (tgt := 21) dX6_trueSteps_11 rfl ?_
  refine r_astore_n (L' := [_, _, _, _]) dX6_trueSteps_21 rfl rfl (by decide) rfl ?_
  refine r_aload_n dX6_trueSteps_22 rfl rfl ?_
  refine r_aload_n dX6_trueSteps_23 rfl rfl ?_
  refine r_getI dX6_trueSteps_24 fl_X6_15 sh_48 rfl ?_
  refine r_aload_n dX6_trueSteps_27 rfl rfl ?_
  refine r_getR dX6_trueSteps_28 fl_X6_25 sh_48 rfl ?_
  refine r_getI dX6_trueSteps_31 fl_X6_33 sh_16 rfl ?_
  refine r_mmin (by omega) (by omega) dX6_trueSteps_34 ml_X6_48 (by simp [wtA]) ?_
  refine r_iald dX6_trueSteps_37 sh_20 (by decide) (by omega) ?_
  refine r_nmI (fun x3 e_x3 => ?_)
  refine r_istore_n (L' := [_, _, _, _]) dX6_trueSteps_38 rfl rfl (by decide) rfl ?_
  refine r_aload_n dX6_trueSteps_39 rfl rfl ?_
  refine r_getR dX6_trueSteps_40 fl_X6_25 sh_48 rfl ?_
  refine r_aload_n dX6_trueSteps_43 rfl rfl ?_
  refine r_getI dX6_trueSteps_44 fl_X6_15 sh_48 rfl ?_
  refine r_callVI (av := [_]) (M' := mX2_has) dX6_trueSteps_47 vX2_has ml_X6_54 sh_16 (by decide) rfl rfl rfl rfl (by simp [wtA]) (sp_X2_has_16 (by omega) (by omega) hN (fun b_47 => ?_) (fun b_47 => ?_))
  · refine r_if_eq (tgt := 86) dX6_trueSteps_50 rfl ⟨by decide, by decide⟩ (fun c_50 => absurd c_50 (by decide)) (fun c_50 => ?_)
    have q1 := hq ((h 48 1).toNat + 1) (by omega)
    rw [← e1] at q1
    have t0 := tkF_r hq (m := (h 48 1).toNat) (by omega)
    have hd2 := hdn.2 (by omega)
    refine r_aload_n dX6_trueSteps_53 rfl rfl ?_
    refine r_aload_n dX6_trueSteps_54 rfl rfl ?_
    refine r_getI dX6_trueSteps_55 fl_X6_15 sh_48 rfl ?_
    refine r_iald dX6_trueSteps_58 sh_20 (by decide) (by omega) ?_
    refine r_aload_n dX6_trueSteps_59 rfl rfl ?_
    refine r_aload_n dX6_trueSteps_60 rfl rfl ?_
    refine r_getI dX6_trueSteps_61 fl_X6_15 sh_48 rfl ?_
    refine r_iconst dX6_trueSteps_64 ?_
    refine r_iadd dX6_trueSteps_65 ?_
    refine r_iald dX6_trueSteps_66 sh_20 (by decide) (by omega) ?_
    refine r_aload_n dX6_trueSteps_67 rfl rfl ?_
    refine r_getI dX6_trueSteps_68 fl_X6_19 sh_48 rfl ?_
    refine r_aload_n dX6_trueSteps_71 rfl rfl ?_
    refine r_getR dX6_trueSteps_72 fl_X6_25 sh_48 rfl ?_
    refine r_aload_n dX6_trueSteps_75 rfl rfl ?_
    refine r_getI dX6_trueSteps_76 fl_X6_15 sh_48 rfl ?_
    refine r_callVI (av := [_]) (M' := mX2_ticksOf) dX6_trueSteps_79 vX2_ticksOf ml_X6_38 sh_16 (by decide) rfl rfl rfl rfl (by simp [wtA]) (sp_X2_ticksOf_16 (by omega) (n := (h 16 0)) (by omega) hN.2 hq ?_)
    refine r_callSI (av := [_, _, _, _]) (M' := mX2_between) dX6_trueSteps_82 sX2_between ml_X6_58 rfl rfl (by simp [wtA]) (sp_X2_between (by omega) (by omega) (by omega) (by omega) (by omega) ?_)
    refine r_nmI (fun x3b e_x3b => ?_)
    refine r_istore_n (L' := [_, _, _, _]) dX6_trueSteps_85 rfl rfl (by decide) rfl ?_
    refine r_iload_n dX6_trueSteps_86 rfl rfl ?_
    refine r_aload_n dX6_trueSteps_87 rfl rfl ?_
    refine r_getR dX6_trueSteps_88 fl_X6_25 sh_48 rfl ?_
    refine r_aload_n dX6_trueSteps_91 rfl rfl ?_
    refine r_getI dX6_trueSteps_92 fl_X6_15 sh_48 rfl ?_
    refine r_iload_n dX6_trueSteps_95 rfl rfl ?_
    refine r_callVI (av := [_, _]) (M' := mX2_missedBy) dX6_trueSteps_96 vX2_missedBy ml_X6_62 sh_16 (by decide) rfl rfl rfl rfl (by simp [wtA]) (sp_X2_missedBy_16 (by omega) (by omega) (Or.inl rfl) (by omega) hs ?_)
    refine r_iadd dX6_trueSteps_99 ?_
    refine r_iret dX6_trueSteps_100 rfl ?_
    refine ⟨_, rfl, eqP k ?_⟩
    unfold tsF
    first
      | (rw [if_pos b_47.2, e_x3b, e1]
         have e5 : (min ((h 48 1) + 1) (h 16 0)).toNat = (h 48 1).toNat + 1 := by omega
         rw [e5]
         rfl)
      | (rw [if_neg (by omega), e_x3]
         have e5 : (min ((h 48 1) + 1) (h 16 0)).toNat = (h 16 0).toNat := by omega
         have e6 : (min (h 48 1) (h 16 0)).toNat = (h 16 0).toNat := by omega
         rw [e5, e6]
         rfl)
  · refine r_if_eq (tgt := 86) dX6_trueSteps_50 rfl ⟨by decide, by decide⟩ (fun c_50 => ?_) (fun c_50 => absurd c_50 (by decide))
    refine r_iload_n dX6_trueSteps_86 rfl rfl ?_
    refine r_aload_n dX6_trueSteps_87 rfl rfl ?_
    refine r_getR dX6_trueSteps_88 fl_X6_25 sh_48 rfl ?_
    refine r_aload_n dX6_trueSteps_91 rfl rfl ?_
    refine r_getI dX6_trueSteps_92 fl_X6_15 sh_48 rfl ?_
    refine r_iload_n dX6_trueSteps_95 rfl rfl ?_
    refine r_callVI (av := [_, _]) (M' := mX2_missedBy) dX6_trueSteps_96 vX2_missedBy ml_X6_62 sh_16 (by decide) rfl rfl rfl rfl (by simp [wtA]) (sp_X2_missedBy_16 (by omega) (by omega) (Or.inl rfl) (by omega) hs ?_)
    refine r_iadd dX6_trueSteps_99 ?_
    refine r_iret dX6_trueSteps_100 rfl ?_
    refine ⟨_, rfl, eqP k ?_⟩
    unfold tsF
    first
      | (rw [if_pos b_47.2, e_x3b, e1]
         have e5 : (min ((h 48 1) + 1) (h 16 0)).toNat = (h 48 1).toNat + 1 := by omega
         rw [e5]
         rfl)
      | (rw [if_neg (by omega), e_x3]
         have e5 : (min ((h 48 1) + 1) (h 16 0)).toNat = (h 16 0).toNat := by omega
         have e6 : (min (h 48 1) (h 16 0)).toNat = (h 16 0).toNat := by omega
         rw [e5, e6]
         rfl)
set_option maxRecDepth 20000 in
set_option maxHeartbeats 400000 in
theorem sp_trueSteps1 {d : Nat} (hd : 3 ≤ d) {h : Hp}  (hq : LR (h 20) (h 21) (h 16 0)) (hN : 0 ≤ (h 16 0) ∧ (h 16 0) ≤ 150) (hs : ∀ j : Nat, j < 300 → -9 ≤ h 22 j ∧ h 22 j ≤ 9) (hm : 0 ≤ (h 48 1) ∧ (h 48 1) ≤ (h 16 0)) (hdn : 0 ≤ (h 48 2) ∧ ((h 48 1) < (h 16 0) → (h 48 2) < tkF (h 20) (h 21) (h 48 1).toNat)) {P : Int → Hp → Prop} (k : P (tsF (h 21) (h 22) 1 (h 16 0) (h 48 1) (h 48 2) (tkF (h 20) (h 21) (h 48 1).toNat)) (h)) : Cl d mX6_trueSteps [.inr (.inr 48), .inl 1] h (pI P) := by
  refine Cl.of (L := [some (.inr (.inr 48)), some (.inl 1), none, none]) (by decide +kernel) (Nat.le_of_ble_eq_true rfl) rfl ?_
  obtain ⟨d, rfl⟩ : ∃ q, d = q + 1 := ⟨d - 1, by omega⟩
  have e1 : ((h 48 1) + 1).toNat = (h 48 1).toNat + 1 := by omega
  have q0 := hq (h 48 1).toNat (by omega)
  refine r_iload_n dX6_trueSteps_0 rfl rfl ?_
  refine r_if_ne (tgt := 14) dX6_trueSteps_1 rfl ⟨by decide, by decide⟩ (fun c_1 => ?_) (fun c_1 => absurd c_1 (by decide))
  refine r_aload_n dX6_trueSteps_14 rfl rfl ?_
  refine r_getR dX6_trueSteps_15 fl_X6_25 sh_48 rfl ?_
  refine r_getR dX6_trueSteps_18 fl_X6_45 sh_16 rfl ?_
  refine r_astore_n (L' := [_, _, _, _]) dX6_trueSteps_21 rfl rfl (by decide) rfl ?_
  refine r_aload_n dX6_trueSteps_22 rfl rfl ?_
  refine r_aload_n dX6_trueSteps_23 rfl rfl ?_
  refine r_getI dX6_trueSteps_24 fl_X6_15 sh_48 rfl ?_
  refine r_aload_n dX6_trueSteps_27 rfl rfl ?_
  refine r_getR dX6_trueSteps_28 fl_X6_25 sh_48 rfl ?_
  refine r_getI dX6_trueSteps_31 fl_X6_33 sh_16 rfl ?_
  refine r_mmin (by omega) (by omega) dX6_trueSteps_34 ml_X6_48 (by simp [wtA]) ?_
  refine r_iald dX6_trueSteps_37 sh_21 (by decide) (by omega) ?_
  refine r_nmI (fun x3 e_x3 => ?_)
  refine r_istore_n (L' := [_, _, _, _]) dX6_trueSteps_38 rfl rfl (by decide) rfl ?_
  refine r_aload_n dX6_trueSteps_39 rfl rfl ?_
  refine r_getR dX6_trueSteps_40 fl_X6_25 sh_48 rfl ?_
  refine r_aload_n dX6_trueSteps_43 rfl rfl ?_
  refine r_getI dX6_trueSteps_44 fl_X6_15 sh_48 rfl ?_
  refine r_callVI (av := [_]) (M' := mX2_has) dX6_trueSteps_47 vX2_has ml_X6_54 sh_16 (by decide) rfl rfl rfl rfl (by simp [wtA]) (sp_X2_has_16 (by omega) (by omega) hN (fun b_47 => ?_) (fun b_47 => ?_))
  · refine r_if_eq (tgt := 86) dX6_trueSteps_50 rfl ⟨by decide, by decide⟩ (fun c_50 => absurd c_50 (by decide)) (fun c_50 => ?_)
    have q1 := hq ((h 48 1).toNat + 1) (by omega)
    rw [← e1] at q1
    have t0 := tkF_r hq (m := (h 48 1).toNat) (by omega)
    have hd2 := hdn.2 (by omega)
    refine r_aload_n dX6_trueSteps_53 rfl rfl ?_
    refine r_aload_n dX6_trueSteps_54 rfl rfl ?_
    refine r_getI dX6_trueSteps_55 fl_X6_15 sh_48 rfl ?_
    refine r_iald dX6_trueSteps_58 sh_21 (by decide) (by omega) ?_
    refine r_aload_n dX6_trueSteps_59 rfl rfl ?_
    refine r_aload_n dX6_trueSteps_60 rfl rfl ?_
    refine r_getI dX6_trueSteps_61 fl_X6_15 sh_48 rfl ?_
    refine r_iconst dX6_trueSteps_64 ?_
    refine r_iadd dX6_trueSteps_65 ?_
    refine r_iald dX6_trueSteps_66 sh_21 (by decide) (by omega) ?_
    refine r_aload_n dX6_trueSteps_67 rfl rfl ?_
    refine r_getI dX6_trueSteps_68 fl_X6_19 sh_48 rfl ?_
    refine r_aload_n dX6_trueSteps_71 rfl rfl ?_
    refine r_getR dX6_trueSteps_72 fl_X6_25 sh_48 rfl ?_
    refine r_aload_n dX6_trueSteps_75 rfl rfl ?_
    refine r_getI dX6_trueSteps_76 fl_X6_15 sh_48 rfl ?_
    refine r_callVI (av := [_]) (M' := mX2_ticksOf) dX6_trueSteps_79 vX2_ticksOf ml_X6_38 sh_16 (by decide) rfl rfl rfl rfl (by simp [wtA]) (sp_X2_ticksOf_16 (by omega) (n := (h 16 0)) (by omega) hN.2 hq ?_)
    refine r_callSI (av := [_, _, _, _]) (M' := mX2_between) dX6_trueSteps_82 sX2_between ml_X6_58 rfl rfl (by simp [wtA]) (sp_X2_between (by omega) (by omega) (by omega) (by omega) (by omega) ?_)
    refine r_nmI (fun x3b e_x3b => ?_)
    refine r_istore_n (L' := [_, _, _, _]) dX6_trueSteps_85 rfl rfl (by decide) rfl ?_
    refine r_iload_n dX6_trueSteps_86 rfl rfl ?_
    refine r_aload_n dX6_trueSteps_87 rfl rfl ?_
    refine r_getR dX6_trueSteps_88 fl_X6_25 sh_48 rfl ?_
    refine r_aload_n dX6_trueSteps_91 rfl rfl ?_
    refine r_getI dX6_trueSteps_92 fl_X6_15 sh_48 rfl ?_
    refine r_iload_n dX6_trueSteps_95 rfl rfl ?_
    refine r_callVI (av := [_, _]) (M' := mX2_missedBy) dX6_trueSteps_96 vX2_missedBy ml_X6_62 sh_16 (by decide) rfl rfl rfl rfl (by simp [wtA]) (sp_X2_missedBy_16 (by omega) (by omega) (Or.inr rfl) (by omega) hs ?_)
    refine r_iadd dX6_trueSteps_99 ?_
    refine r_iret dX6_trueSteps_100 rfl ?_
    refine ⟨_, rfl, eqP k ?_⟩
    unfold tsF
    first
      | (rw [if_pos b_47.2, e_x3b, e1]
         have e5 : (min ((h 48 1) + 1) (h 16 0)).toNat = (h 48 1).toNat + 1 := by omega
         rw [e5]
         rfl)
      | (rw [if_neg (by omega), e_x3]
         have e5 : (min ((h 48 1) + 1) (h 16 0)).toNat = (h 16 0).toNat := by omega
         have e6 : (min (h 48 1) (h 16 0)).toNat = (h 16 0).toNat := by omega
         rw [e5, e6]
         rfl)
  · refine r_if_eq (tgt := 86) dX6_trueSteps_50 rfl ⟨by decide, by decide⟩ (fun c_50 => ?_) (fun c_50 => absurd c_50 (by decide))
    refine r_iload_n dX6_trueSteps_86 rfl rfl ?_
    refine r_aload_n dX6_trueSteps_87 rfl rfl ?_
    refine r_getR dX6_trueSteps_88 fl_X6_25 sh_48 rfl ?_
    refine r_aload_n dX6_trueSteps_91 rfl rfl ?_
    refine r_getI dX6_trueSteps_92 fl_X6_15 sh_48 rfl ?_
    refine r_iload_n dX6_trueSteps_95 rfl rfl ?_
    refine r_callVI (av := [_, _]) (M' := mX2_missedBy) dX6_trueSteps_96 vX2_missedBy ml_X6_62 sh_16 (by decide) rfl rfl rfl rfl (by simp [wtA]) (sp_X2_missedBy_16 (by omega) (by omega) (Or.inr rfl) (by omega) hs ?_)
    refine r_iadd dX6_trueSteps_99 ?_
    refine r_iret dX6_trueSteps_100 rfl ?_
    refine ⟨_, rfl, eqP k ?_⟩
    unfold tsF
    first
      | (rw [if_pos b_47.2, e_x3b, e1]
         have e5 : (min ((h 48 1) + 1) (h 16 0)).toNat = (h 48 1).toNat + 1 := by omega
         rw [e5]
         rfl)
      | (rw [if_neg (by omega), e_x3]
         have e5 : (min ((h 48 1) + 1) (h 16 0)).toNat = (h 16 0).toNat := by omega
         have e6 : (min (h 48 1) (h 16 0)).toNat = (h 16 0).toNat := by omega
         rw [e5, e6]
         rfl)
set_option maxRecDepth 20000 in
set_option maxHeartbeats 400000 in
theorem sp_X11_run {d : Nat} (hd : 4 ≤ d) {v : Int} {h : Hp}  (hw : WOK h) (hv : R32 v) (hg : (h 48 0) = 0 ∨ (h 48 0) = 1) (hq : LR (h 20) (h 21) (h 16 0)) (hN : 0 ≤ (h 16 0) ∧ (h 16 0) ≤ 150) (hs : ∀ j : Nat, j < 300 → -9 ≤ h 22 j ∧ h 22 j ≤ 9) (hm : (h 48 0) = 1 → 0 ≤ (h 48 1) ∧ (h 48 1) ≤ (h 16 0)) (hdn : (h 48 0) = 1 → 0 ≤ (h 48 2) ∧ ((h 48 1) < (h 16 0) → (h 48 2) < tkF (h 20) (h 21) (h 48 1).toNat)) {P : Int → Hp → Prop} (k : ∀ h' : Hp, (FrC h h') → P (fnRun (h 1 0) (h 1 2) (h 1 3) (h 16 0) (h 48 1) (h 48 2) (h 48 0) v (h 20) (h 21) (h 22)) h') : Cl d mX11_run [.inr (.inr 0), .inl v] h (pI P) := by
  refine Cl.of (L := [some (.inr (.inr 0)), some (.inl v)]) (by decide +kernel) (Nat.le_of_ble_eq_true rfl) rfl ?_
  obtain ⟨d, rfl⟩ : ∃ q, d = q + 1 := ⟨d - 1, by omega⟩
  refine r_aload_n dX11_run_0 rfl rfl ?_
  refine r_getR dX11_run_1 fl_X11_97 sh_0 rfl ?_
  refine r_getI dX11_run_4 fl_X11_322 sh_48 rfl ?_
  refine r_if_ne (tgt := 13) dX11_run_7 rfl (by omega) (fun c_7 => ?_) (fun c_7 => ?_)
  · have hg1 : (h 48 0) = 1 := by omega
    have hm := hm hg1
    have hdn := hdn hg1
    have y0 := (tsF_r (c := 0) hq hN hm hdn hs (by decide)).1
    have y1 := (tsF_r (c := 1) hq hN hm hdn hs (by decide)).2
    refine r_iload_n dX11_run_13 rfl rfl ?_
    by_cases c_14_0 : v = 0
    · refine r_tsIn (off := 34) (tgt := 48) dX11_run_14 c_14_0 ⟨by decide, by decide⟩ (by decide) (by decide) (by decide +kernel) rfl ?_
      refine r_aload_n dX11_run_48 rfl rfl ?_
      refine r_getR dX11_run_49 fl_X11_97 sh_0 rfl ?_
      refine r_getI dX11_run_52 fl_X11_329 sh_48 rfl ?_
      refine r_iret dX11_run_55 rfl ?_
      refine ⟨_, rfl, eqP (k h (FrC.rf hw)) ?_⟩
      unfold fnRun
      rw [if_pos hg1]
      (repeat' split) <;> first | rfl | omega
    by_cases c_14_1 : v = 1
    · refine r_tsIn (off := 42) (tgt := 56) dX11_run_14 c_14_1 ⟨by decide, by decide⟩ (by decide) (by decide) (by decide +kernel) rfl ?_
      refine r_aload_n dX11_run_56 rfl rfl ?_
      refine r_getR dX11_run_57 fl_X11_97 sh_0 rfl ?_
      refine r_getI dX11_run_60 fl_X11_332 sh_48 rfl ?_
      refine r_iret dX11_run_63 rfl ?_
      refine ⟨_, rfl, eqP (k h (FrC.rf hw)) ?_⟩
      unfold fnRun
      rw [if_pos hg1]
      (repeat' split) <;> first | rfl | omega
    by_cases c_14_2 : v = 2
    · refine r_tsIn (off := 50) (tgt := 64) dX11_run_14 c_14_2 ⟨by decide, by decide⟩ (by decide) (by decide) (by decide +kernel) rfl ?_
      refine r_aload_n dX11_run_64 rfl rfl ?_
      refine r_aload_n dX11_run_65 rfl rfl ?_
      refine r_getR dX11_run_66 fl_X11_97 sh_0 rfl ?_
      refine r_iconst dX11_run_69 ?_
      refine r_callVI (av := [_]) (M' := mX6_trueSteps) dX11_run_70 vX6_trueSteps ml_X11_335 sh_48 (by decide) rfl rfl rfl rfl (by simp [wtA]) (sp_trueSteps0 (by omega) hq hN hs hm hdn ?_)
      refine r_aload_n dX11_run_73 rfl rfl ?_
      refine r_getR dX11_run_74 fl_X11_97 sh_0 rfl ?_
      refine r_iconst dX11_run_77 ?_
      refine r_callVI (av := [_]) (M' := mX6_trueSteps) dX11_run_78 vX6_trueSteps ml_X11_335 sh_48 (by decide) rfl rfl rfl rfl (by simp [wtA]) (sp_trueSteps1 (by omega) hq hN hs hm hdn ?_)
      refine r_iconst dX11_run_81 ?_
      refine r_callVI (av := [_, _, _]) (M' := mX11_placeNumber) dX11_run_82 vX11_placeNumber ml_X11_218 sh_0 (by decide) rfl rfl rfl rfl (by simp [wtA]) (sp_X11_placeNumber (by omega) (by omega) (by omega) (by omega) (by omega) (fun h_82 f0_82 => ?_))
      refine r_iret dX11_run_85 rfl ?_
      refine ⟨_, rfl, eqP (k _ f0_82) ?_⟩
      unfold fnRun
      rw [if_pos hg1]
      (repeat' split) <;> first | rfl | omega
    by_cases c_14_3 : v = 3
    · refine r_tsIn (off := 72) (tgt := 86) dX11_run_14 c_14_3 ⟨by decide, by decide⟩ (by decide) (by decide) (by decide +kernel) rfl ?_
      refine r_aload_n dX11_run_86 rfl rfl ?_
      refine r_aload_n dX11_run_87 rfl rfl ?_
      refine r_getR dX11_run_88 fl_X11_97 sh_0 rfl ?_
      refine r_iconst dX11_run_91 ?_
      refine r_callVI (av := [_]) (M' := mX6_trueSteps) dX11_run_92 vX6_trueSteps ml_X11_335 sh_48 (by decide) rfl rfl rfl rfl (by simp [wtA]) (sp_trueSteps0 (by omega) hq hN hs hm hdn ?_)
      refine r_aload_n dX11_run_95 rfl rfl ?_
      refine r_getR dX11_run_96 fl_X11_97 sh_0 rfl ?_
      refine r_iconst dX11_run_99 ?_
      refine r_callVI (av := [_]) (M' := mX6_trueSteps) dX11_run_100 vX6_trueSteps ml_X11_335 sh_48 (by decide) rfl rfl rfl rfl (by simp [wtA]) (sp_trueSteps1 (by omega) hq hN hs hm hdn ?_)
      refine r_iconst dX11_run_103 ?_
      refine r_callVI (av := [_, _, _]) (M' := mX11_placeNumber) dX11_run_104 vX11_placeNumber ml_X11_218 sh_0 (by decide) rfl rfl rfl rfl (by simp [wtA]) (sp_X11_placeNumber (by omega) (by omega) (by omega) (by omega) (by omega) (fun h_104 f0_104 => ?_))
      refine r_iret dX11_run_107 rfl ?_
      refine ⟨_, rfl, eqP (k _ f0_104) ?_⟩
      unfold fnRun
      rw [if_pos hg1]
      (repeat' split) <;> first | rfl | omega
    by_cases c_14_4 : v = 4
    · refine r_tsIn (off := 94) (tgt := 108) dX11_run_14 c_14_4 ⟨by decide, by decide⟩ (by decide) (by decide) (by decide +kernel) rfl ?_
      refine r_aload_n dX11_run_108 rfl rfl ?_
      refine r_getR dX11_run_109 fl_X11_97 sh_0 rfl ?_
      refine r_getI dX11_run_112 fl_X11_329 sh_48 rfl ?_
      refine r_aload_n dX11_run_115 rfl rfl ?_
      refine r_getR dX11_run_116 fl_X11_44 sh_0 rfl ?_
      refine r_getI dX11_run_119 fl_X11_155 sh_16 rfl ?_
      refine r_icmp_lt (tgt := 129) dX11_run_122 rfl (by omega) (by omega) (fun c_122 => ?_) (fun c_122 => ?_)
      · refine r_iconst dX11_run_129 ?_
        refine r_iret dX11_run_130 rfl ?_
        refine ⟨_, rfl, eqP (k h (FrC.rf hw)) ?_⟩
        unfold fnRun
        rw [if_pos hg1]
        (repeat' split) <;> first | rfl | omega
      · refine r_iconst dX11_run_125 ?_
        refine r_goto (tgt := 130) dX11_run_126 rfl ?_
        refine r_iret dX11_run_130 rfl ?_
        refine ⟨_, rfl, eqP (k h (FrC.rf hw)) ?_⟩
        unfold fnRun
        rw [if_pos hg1]
        (repeat' split) <;> first | rfl | omega
    refine r_tsOut (tgt := 131) dX11_run_14 (by omega) (by omega) rfl ?_
    refine r_ldc (z := -2147483648) dX11_run_131 kc_X11_217 (by decide +kernel) ?_
    refine r_iret dX11_run_133 rfl ?_
    refine ⟨_, rfl, eqP (k h (FrC.rf hw)) ?_⟩
    unfold fnRun
    rw [if_pos hg1]
    (repeat' split) <;> first | rfl | omega
  · refine r_ldc (z := -2147483648) dX11_run_10 kc_X11_217 (by decide +kernel) ?_
    refine r_iret dX11_run_12 rfl ?_
    refine ⟨_, rfl, eqP (k h (FrC.rf hw)) ?_⟩
    unfold fnRun
    rw [if_neg (by omega)]
    
set_option maxRecDepth 20000 in
set_option maxHeartbeats 400000 in
theorem sp_X12_layWay {d : Nat} (hd : 2 ≤ d) {l1 r1 l2 r2 : Int} {h : Hp}  (h1 : 0 ≤ l1 ∧ l1 ≤ 5660) (h2 : 0 ≤ r1 ∧ r1 ≤ 5660) (h3 : 0 ≤ l2 ∧ l2 ≤ 5660) (h4 : 0 ≤ r2 ∧ r2 ≤ 5660) {P : Hp → Prop} (k : P (upH (upH (upH (upH (upH h 49 42 l1) 49 43 r1) 49 44 (l2 - l1)) 49 45 (r2 - r1)) 49 46 (max ((l2 - l1).natAbs : Int) ((r2 - r1).natAbs : Int)))) : Cl d mX12_layWay [.inr (.inr 49), .inl l1, .inl r1, .inl l2, .inl r2] h (pV P) := by
  refine Cl.of (L := [some (.inr (.inr 49)), some (.inl l1), some (.inl r1), some (.inl l2), some (.inl r2)]) (by decide +kernel) (Nat.le_of_ble_eq_true rfl) rfl ?_
  obtain ⟨d, rfl⟩ : ∃ q, d = q + 1 := ⟨d - 1, by omega⟩
  refine r_aload_n dX12_layWay_0 rfl rfl ?_
  refine r_iload_n dX12_layWay_1 rfl rfl ?_
  refine r_putI dX12_layWay_2 fl_X12_359 sh_49 rfl ?_
  refine r_aload_n dX12_layWay_5 rfl rfl ?_
  refine r_iload_n dX12_layWay_6 rfl rfl ?_
  refine r_putI dX12_layWay_7 fl_X12_362 sh_49 rfl ?_
  refine r_aload_n dX12_layWay_10 rfl rfl ?_
  refine r_iload_n dX12_layWay_11 rfl rfl ?_
  refine r_iload_n dX12_layWay_12 rfl rfl ?_
  refine r_isub dX12_layWay_13 ?_
  refine r_putI dX12_layWay_14 fl_X12_365 sh_49 rfl ?_
  refine r_aload_n dX12_layWay_17 rfl rfl ?_
  refine r_iload dX12_layWay_18 rfl ?_
  refine r_iload_n dX12_layWay_20 rfl rfl ?_
  refine r_isub dX12_layWay_21 ?_
  refine r_putI dX12_layWay_22 fl_X12_368 sh_49 rfl ?_
  refine r_aload_n dX12_layWay_25 rfl rfl ?_
  refine r_aload_n dX12_layWay_26 rfl rfl ?_
  refine r_getI dX12_layWay_27 fl_X12_365 sh_49 rfl ?_
  refine r_eqI (((up_nk (by decide)).trans (up_s _ _ _ _))) ?_
  refine r_callSI (av := [_]) (M' := mX12_sizeOf) dX12_layWay_30 sX12_sizeOf ml_X12_198 rfl rfl (by simp [wtA]) (sp_X12_sizeOf (by omega) (by omega) ?_)
  refine r_aload_n dX12_layWay_33 rfl rfl ?_
  refine r_getI dX12_layWay_34 fl_X12_368 sh_49 rfl ?_
  refine r_eqI (up_s _ _ _ _) ?_
  refine r_callSI (av := [_]) (M' := mX12_sizeOf) dX12_layWay_37 sX12_sizeOf ml_X12_198 rfl rfl (by simp [wtA]) (sp_X12_sizeOf (by omega) (by omega) ?_)
  refine r_icmp_le (tgt := 53) dX12_layWay_40 rfl (by omega) (by omega) (fun c_40 => ?_) (fun c_40 => ?_)
  · refine r_aload_n dX12_layWay_53 rfl rfl ?_
    refine r_getI dX12_layWay_54 fl_X12_368 sh_49 rfl ?_
    refine r_eqI (up_s _ _ _ _) ?_
    refine r_callSI (av := [_]) (M' := mX12_sizeOf) dX12_layWay_57 sX12_sizeOf ml_X12_198 rfl rfl (by simp [wtA]) (sp_X12_sizeOf (by omega) (by omega) ?_)
    refine r_putI dX12_layWay_60 fl_X12_371 sh_49 rfl ?_
    refine r_vret dX12_layWay_63 rfl ?_
    first
      | exact ⟨rfl, eqV k (by rw [show max ((l2 - l1).natAbs : Int) ((r2 - r1).natAbs : Int) = ((l2 - l1).natAbs : Int) by omega])⟩
      | exact ⟨rfl, eqV k (by rw [show max ((l2 - l1).natAbs : Int) ((r2 - r1).natAbs : Int) = ((r2 - r1).natAbs : Int) by omega])⟩
  · refine r_aload_n dX12_layWay_43 rfl rfl ?_
    refine r_getI dX12_layWay_44 fl_X12_365 sh_49 rfl ?_
    refine r_eqI (((up_nk (by decide)).trans (up_s _ _ _ _))) ?_
    refine r_callSI (av := [_]) (M' := mX12_sizeOf) dX12_layWay_47 sX12_sizeOf ml_X12_198 rfl rfl (by simp [wtA]) (sp_X12_sizeOf (by omega) (by omega) ?_)
    refine r_goto (tgt := 60) dX12_layWay_50 rfl ?_
    refine r_putI dX12_layWay_60 fl_X12_371 sh_49 rfl ?_
    refine r_vret dX12_layWay_63 rfl ?_
    first
      | exact ⟨rfl, eqV k (by rw [show max ((l2 - l1).natAbs : Int) ((r2 - r1).natAbs : Int) = ((l2 - l1).natAbs : Int) by omega])⟩
      | exact ⟨rfl, eqV k (by rw [show max ((l2 - l1).natAbs : Int) ((r2 - r1).natAbs : Int) = ((r2 - r1).natAbs : Int) by omega])⟩
set_option maxRecDepth 20000 in
set_option maxHeartbeats 400000 in
theorem sp_X12_wayLeft {d : Nat} (hd : 1 ≤ d) {i : Int} {h : Hp}  (hf : 0 ≤ h 49 42 ∧ h 49 42 ≤ 5660) (hl : 0 ≤ h 49 42 + h 49 44 ∧ h 49 42 + h 49 44 ≤ 5660) (ht : 0 ≤ (h 49 46) ∧ (h 49 46) ≤ 5660) (hi : 0 ≤ i ∧ i ≤ (h 49 46)) {P : Int → Hp → Prop} (k : P (btF (h 49 42) (h 49 42 + h 49 44) i (h 49 46)) (h)) : Cl d mX12_wayLeft [.inr (.inr 49), .inl i] h (pI P) := by
  refine Cl.of (L := [some (.inr (.inr 49)), some (.inl i)]) (by decide +kernel) (Nat.le_of_ble_eq_true rfl) rfl ?_
  have b := btF_r hf hl hi
  have m1 : -32035600 ≤ h 49 44 * i ∧ h 49 44 * i ≤ 32035600 := by
    rcases Int.le_total 0 (h 49 44) with q | q
    · have := mulR (a := h 49 44) (b := i) (A := 5660) (B := 5660) (by omega) (by omega)
      omega
    · have := mulR (a := -h 49 44) (b := i) (A := 5660) (B := 5660) (by omega) (by omega)
      rw [Int.neg_mul] at this
      omega
  have ee : i * (h 49 42 + h 49 44 - h 49 42) = h 49 44 * i := by rw [show h 49 42 + h 49 44 - h 49 42 = h 49 44 by omega, Int.mul_comm]
  refine r_aload_n dX12_wayLeft_0 rfl rfl ?_
  refine r_getI dX12_wayLeft_1 fl_X12_371 sh_49 rfl ?_
  refine r_if_ne (tgt := 14) dX12_wayLeft_4 rfl (by omega) (fun c_4 => ?_) (fun c_4 => ?_)
  · refine r_aload_n dX12_wayLeft_14 rfl rfl ?_
    refine r_getI dX12_wayLeft_15 fl_X12_359 sh_49 rfl ?_
    refine r_aload_n dX12_wayLeft_18 rfl rfl ?_
    refine r_getI dX12_wayLeft_19 fl_X12_365 sh_49 rfl ?_
    refine r_i2l dX12_wayLeft_22 (by omega) ?_
    refine r_iload_n dX12_wayLeft_23 rfl rfl ?_
    refine r_i2l dX12_wayLeft_24 (by omega) ?_
    refine r_lmul dX12_wayLeft_25 ?_
    refine r_aload_n dX12_wayLeft_26 rfl rfl ?_
    refine r_getI dX12_wayLeft_27 fl_X12_371 sh_49 rfl ?_
    refine r_i2l dX12_wayLeft_30 (by omega) ?_
    refine r_ldiv dX12_wayLeft_31 (by omega) (by omega) (by omega) ?_
    refine r_l2i dX12_wayLeft_32 ?_
    refine r_iadd dX12_wayLeft_33 ?_
    refine r_iret dX12_wayLeft_34 rfl ?_
    refine ⟨_, rfl, eqP k ?_⟩
    unfold btF
    first | rw [if_pos (by omega), ee] | rw [if_neg (by omega)]
  · refine r_aload_n dX12_wayLeft_7 rfl rfl ?_
    refine r_getI dX12_wayLeft_8 fl_X12_359 sh_49 rfl ?_
    refine r_goto (tgt := 34) dX12_wayLeft_11 rfl ?_
    refine r_iret dX12_wayLeft_34 rfl ?_
    refine ⟨_, rfl, eqP k ?_⟩
    unfold btF
    first | rw [if_pos (by omega), ee] | rw [if_neg (by omega)]
set_option maxRecDepth 20000 in
set_option maxHeartbeats 400000 in
theorem sp_X12_wayRight {d : Nat} (hd : 1 ≤ d) {i : Int} {h : Hp}  (hf : 0 ≤ h 49 43 ∧ h 49 43 ≤ 5660) (hl : 0 ≤ h 49 43 + h 49 45 ∧ h 49 43 + h 49 45 ≤ 5660) (ht : 0 ≤ (h 49 46) ∧ (h 49 46) ≤ 5660) (hi : 0 ≤ i ∧ i ≤ (h 49 46)) {P : Int → Hp → Prop} (k : P (btF (h 49 43) (h 49 43 + h 49 45) i (h 49 46)) (h)) : Cl d mX12_wayRight [.inr (.inr 49), .inl i] h (pI P) := by
  refine Cl.of (L := [some (.inr (.inr 49)), some (.inl i)]) (by decide +kernel) (Nat.le_of_ble_eq_true rfl) rfl ?_
  have b := btF_r hf hl hi
  have m1 : -32035600 ≤ h 49 45 * i ∧ h 49 45 * i ≤ 32035600 := by
    rcases Int.le_total 0 (h 49 45) with q | q
    · have := mulR (a := h 49 45) (b := i) (A := 5660) (B := 5660) (by omega) (by omega)
      omega
    · have := mulR (a := -h 49 45) (b := i) (A := 5660) (B := 5660) (by omega) (by omega)
      rw [Int.neg_mul] at this
      omega
  have ee : i * (h 49 43 + h 49 45 - h 49 43) = h 49 45 * i := by rw [show h 49 43 + h 49 45 - h 49 43 = h 49 45 by omega, Int.mul_comm]
  refine r_aload_n dX12_wayRight_0 rfl rfl ?_
  refine r_getI dX12_wayRight_1 fl_X12_371 sh_49 rfl ?_
  refine r_if_ne (tgt := 14) dX12_wayRight_4 rfl (by omega) (fun c_4 => ?_) (fun c_4 => ?_)
  · refine r_aload_n dX12_wayRight_14 rfl rfl ?_
    refine r_getI dX12_wayRight_15 fl_X12_362 sh_49 rfl ?_
    refine r_aload_n dX12_wayRight_18 rfl rfl ?_
    refine r_getI dX12_wayRight_19 fl_X12_368 sh_49 rfl ?_
    refine r_i2l dX12_wayRight_22 (by omega) ?_
    refine r_iload_n dX12_wayRight_23 rfl rfl ?_
    refine r_i2l dX12_wayRight_24 (by omega) ?_
    refine r_lmul dX12_wayRight_25 ?_
    refine r_aload_n dX12_wayRight_26 rfl rfl ?_
    refine r_getI dX12_wayRight_27 fl_X12_371 sh_49 rfl ?_
    refine r_i2l dX12_wayRight_30 (by omega) ?_
    refine r_ldiv dX12_wayRight_31 (by omega) (by omega) (by omega) ?_
    refine r_l2i dX12_wayRight_32 ?_
    refine r_iadd dX12_wayRight_33 ?_
    refine r_iret dX12_wayRight_34 rfl ?_
    refine ⟨_, rfl, eqP k ?_⟩
    unfold btF
    first | rw [if_pos (by omega), ee] | rw [if_neg (by omega)]
  · refine r_aload_n dX12_wayRight_7 rfl rfl ?_
    refine r_getI dX12_wayRight_8 fl_X12_362 sh_49 rfl ?_
    refine r_goto (tgt := 34) dX12_wayRight_11 rfl ?_
    refine r_iret dX12_wayRight_34 rfl ?_
    refine ⟨_, rfl, eqP k ?_⟩
    unfold btF
    first | rw [if_pos (by omega), ee] | rw [if_neg (by omega)]
