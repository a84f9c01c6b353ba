/-! LIFTS AND WINDOWS OF THE REFERENCE -/
set_option maxRecDepth 20000 in
set_option maxHeartbeats 400000 in
theorem sp_X12_lifts {d : Nat} (hd : 3 ≤ d) {h : Hp} {a : Nat} (ha : a < 60) (hn : (0 ≤ h 53 (5 * a) ∧ h 53 (5 * a) ≤ 999) ∧ (0 ≤ h 53 (5 * a + 1) ∧ h 53 (5 * a + 1) ≤ 999)) (hsh : (-500000 ≤ h 49 34 ∧ h 49 34 ≤ 500000) ∧ (-500000 ≤ h 49 35 ∧ h 49 35 ≤ 500000)) (hw : WnR (wnM h)) (hg : GmR (gmM h)) (h0 : h 49 12 = 0) {P : Int → Hp → Prop} (k0 : ∀ h' : Hp, (FrK h h') → (gmM h' = toF (wnM h) (h 53 (5 * a) + h 49 34) (h 53 (5 * a + 1) + h 49 35) (gmM h)) → (h' 49 12 = 0) → P (1) h') (k1 : ∀ h' : Hp, (FrK h h') → (gmM h' = toF (wnM h) (h 53 (5 * a) + h 49 34) (h 53 (5 * a + 1) + h 49 35) (gmM h)) → (h' 49 12 = 1) → P (0) h') : Cl d mX12_lifts [.inr (.inr 49), .inl (a : Int)] h (pI P) := by
  refine Cl.of (L := [some (.inr (.inr 49)), some (.inl (a : Int)), none, none]) (by decide +kernel) (Nat.le_of_ble_eq_true rfl) rfl ?_
  obtain ⟨d, rfl⟩ : ∃ q, d = q + 1 := ⟨d - 1, by omega⟩
  have w1 : 0 ≤ h 63 0 ∧ h 63 0 ≤ 999 := hw.1
  have w2 : 0 ≤ h 63 2 ∧ h 63 2 ≤ 999 := hw.2.1
  have w3 : 0 ≤ h 63 1 ∧ h 63 1 ≤ 999 := hw.2.2.1
  have w4 : 0 ≤ h 63 3 ∧ h 63 3 ≤ 999 := hw.2.2.2
  have hm : 0 ≤ h 49 29 ∧ h 49 29 ≤ 150 := hg.1
  have hl : (0 ≤ h 60 (h 49 29).toNat ∧ h 60 (h 49 29).toNat ≤ 2000) ∧ (0 ≤ h 61 (h 49 29).toNat ∧ h 61 (h 49 29).toNat ≤ 2000) := hg.2 (h 49 29).toNat (by show ((h 49 29).toNat : Int) ≤ h 49 29; omega)
  clear hg hw
  have i0 : (5 * (a : Int)).toNat = 5 * a := by omega
  have i1 : (5 * (a : Int) + 1).toNat = 5 * a + 1 := by omega
  refine r_aload_n dX12_lifts_0 rfl rfl ?_
  refine r_getR dX12_lifts_1 fl_X12_38 sh_49 rfl ?_
  refine r_iconst dX12_lifts_4 ?_
  refine r_iload_n dX12_lifts_5 rfl rfl ?_
  refine r_imul dX12_lifts_6 ?_
  refine r_iald dX12_lifts_7 sh_53 (by decide) (by omega) ?_
  rw [i0]
  refine r_aload_n dX12_lifts_8 rfl rfl ?_
  refine r_getI dX12_lifts_9 fl_X12_297 sh_49 rfl ?_
  refine r_iadd dX12_lifts_12 ?_
  refine r_istore_n (L' := [_, _, _, _]) dX12_lifts_13 rfl rfl (by decide) rfl ?_
  refine r_aload_n dX12_lifts_14 rfl rfl ?_
  refine r_getR dX12_lifts_15 fl_X12_38 sh_49 rfl ?_
  refine r_iconst dX12_lifts_18 ?_
  refine r_iload_n dX12_lifts_19 rfl rfl ?_
  refine r_imul dX12_lifts_20 ?_
  refine r_iconst dX12_lifts_21 ?_
  refine r_iadd dX12_lifts_22 ?_
  refine r_iald dX12_lifts_23 sh_53 (by decide) (by omega) ?_
  rw [i1]
  refine r_aload_n dX12_lifts_24 rfl rfl ?_
  refine r_getI dX12_lifts_25 fl_X12_300 sh_49 rfl ?_
  refine r_iadd dX12_lifts_28 ?_
  refine r_istore_n (L' := [_, _, _, _]) dX12_lifts_29 rfl rfl (by decide) rfl ?_
  refine r_iload_n dX12_lifts_30 rfl rfl ?_
  refine r_aload_n dX12_lifts_31 rfl rfl ?_
  refine r_getR dX12_lifts_32 fl_X12_69 sh_49 rfl ?_
  refine r_iconst dX12_lifts_35 ?_
  refine r_iald dX12_lifts_36 sh_63 (by decide) ⟨by decide, by decide⟩ ?_
  refine r_eqI (y := h 63 0) rfl ?_
  refine r_icmp_lt (tgt := 81) dX12_lifts_37 rfl (by omega) (by omega) (fun c_37 => ?_) (fun c_37 => ?_)
  · refine r_iconst dX12_lifts_81 ?_
    refine r_zret dX12_lifts_82 rfl (.inr rfl) ?_
    have nw : ¬ ((h 63 0 ≤ (h 53 (5 * a) + h 49 34) ∧ (h 53 (5 * a) + h 49 34) ≤ h 63 1) ∧ (h 63 2 ≤ (h 53 (5 * a + 1) + h 49 35) ∧ (h 53 (5 * a + 1) + h 49 35) ≤ h 63 3)) := by omega
    exact ⟨_, rfl, k0 _ FrK.rf (if_neg nw).symm h0⟩
  · refine r_iload_n dX12_lifts_40 rfl rfl ?_
    refine r_aload_n dX12_lifts_41 rfl rfl ?_
    refine r_getR dX12_lifts_42 fl_X12_69 sh_49 rfl ?_
    refine r_iconst dX12_lifts_45 ?_
    refine r_iald dX12_lifts_46 sh_63 (by decide) ⟨by decide, by decide⟩ ?_
    refine r_eqI (y := h 63 1) rfl ?_
    refine r_icmp_gt (tgt := 81) dX12_lifts_47 rfl (by omega) (by omega) (fun c_47 => ?_) (fun c_47 => ?_)
    · refine r_iconst dX12_lifts_81 ?_
      refine r_zret dX12_lifts_82 rfl (.inr rfl) ?_
      have nw : ¬ ((h 63 0 ≤ (h 53 (5 * a) + h 49 34) ∧ (h 53 (5 * a) + h 49 34) ≤ h 63 1) ∧ (h 63 2 ≤ (h 53 (5 * a + 1) + h 49 35) ∧ (h 53 (5 * a + 1) + h 49 35) ≤ h 63 3)) := by omega
      exact ⟨_, rfl, k0 _ FrK.rf (if_neg nw).symm h0⟩
    · refine r_iload_n dX12_lifts_50 rfl rfl ?_
      refine r_aload_n dX12_lifts_51 rfl rfl ?_
      refine r_getR dX12_lifts_52 fl_X12_69 sh_49 rfl ?_
      refine r_iconst dX12_lifts_55 ?_
      refine r_iald dX12_lifts_56 sh_63 (by decide) ⟨by decide, by decide⟩ ?_
      refine r_eqI (y := h 63 2) rfl ?_
      refine r_icmp_lt (tgt := 81) dX12_lifts_57 rfl (by omega) (by omega) (fun c_57 => ?_) (fun c_57 => ?_)
      · refine r_iconst dX12_lifts_81 ?_
        refine r_zret dX12_lifts_82 rfl (.inr rfl) ?_
        have nw : ¬ ((h 63 0 ≤ (h 53 (5 * a) + h 49 34) ∧ (h 53 (5 * a) + h 49 34) ≤ h 63 1) ∧ (h 63 2 ≤ (h 53 (5 * a + 1) + h 49 35) ∧ (h 53 (5 * a + 1) + h 49 35) ≤ h 63 3)) := by omega
        exact ⟨_, rfl, k0 _ FrK.rf (if_neg nw).symm h0⟩
      · refine r_iload_n dX12_lifts_60 rfl rfl ?_
        refine r_aload_n dX12_lifts_61 rfl rfl ?_
        refine r_getR dX12_lifts_62 fl_X12_69 sh_49 rfl ?_
        refine r_iconst dX12_lifts_65 ?_
        refine r_iald dX12_lifts_66 sh_63 (by decide) ⟨by decide, by decide⟩ ?_
        refine r_eqI (y := h 63 3) rfl ?_
        refine r_icmp_gt (tgt := 81) dX12_lifts_67 rfl (by omega) (by omega) (fun c_67 => ?_) (fun c_67 => ?_)
        · refine r_iconst dX12_lifts_81 ?_
          refine r_zret dX12_lifts_82 rfl (.inr rfl) ?_
          have nw : ¬ ((h 63 0 ≤ (h 53 (5 * a) + h 49 34) ∧ (h 53 (5 * a) + h 49 34) ≤ h 63 1) ∧ (h 63 2 ≤ (h 53 (5 * a + 1) + h 49 35) ∧ (h 53 (5 * a + 1) + h 49 35) ≤ h 63 3)) := by omega
          exact ⟨_, rfl, k0 _ FrK.rf (if_neg nw).symm h0⟩
        · refine r_aload_n dX12_lifts_70 rfl rfl ?_
          refine r_iload_n dX12_lifts_71 rfl rfl ?_
          refine r_i2l dX12_lifts_72 (by omega) ?_
          refine r_iload_n dX12_lifts_73 rfl rfl ?_
          refine r_i2l dX12_lifts_74 (by omega) ?_
          refine r_callVI (av := [_, _]) (M' := mX12_isThere) dX12_lifts_75 vX12_isThere ml_X12_306 sh_49 (by decide) rfl rfl rfl rfl (by simp [wtA]) (sp_there (by omega) hm ⟨by omega, by omega⟩ ⟨by omega, by omega⟩ (fun pt => ?_) (fun pt => ?_))
          · refine r_if_eq (tgt := 83) dX12_lifts_78 rfl ⟨by decide, by decide⟩ (fun c_78 => absurd c_78 (by decide)) (fun c_78 => ?_)
            refine r_iconst dX12_lifts_81 ?_
            refine r_zret dX12_lifts_82 rfl (.inr rfl) ?_
            have iw : (h 63 0 ≤ (h 53 (5 * a) + h 49 34) ∧ (h 53 (5 * a) + h 49 34) ≤ h 63 1) ∧ (h 63 2 ≤ (h 53 (5 * a + 1) + h 49 35) ∧ (h 53 (5 * a + 1) + h 49 35) ≤ h 63 3) := by omega
            have et : toF (wnM h) (h 53 (5 * a) + h 49 34) (h 53 (5 * a + 1) + h 49 35) (gmM h) = mv1 (h 53 (5 * a) + h 49 34) (h 53 (5 * a + 1) + h 49 35) (gmM h) := if_pos iw
            rw [et] at k0
            exact ⟨_, rfl, k0 _ FrK.rf (if_pos (show gmP (h 53 (5 * a) + h 49 34) (h 53 (5 * a + 1) + h 49 35) (gmM h) from pt)).symm h0⟩
          · refine r_if_eq (tgt := 83) dX12_lifts_78 rfl ⟨by decide, by decide⟩ (fun c_78 => ?_) (fun c_78 => absurd c_78 (by decide))
            refine r_aload_n dX12_lifts_83 rfl rfl ?_
            refine r_iload_n dX12_lifts_84 rfl rfl ?_
            refine r_i2l dX12_lifts_85 (by omega) ?_
            refine r_iload_n dX12_lifts_86 rfl rfl ?_
            refine r_i2l dX12_lifts_87 (by omega) ?_
            refine r_iconst dX12_lifts_88 ?_
            refine r_callVI (av := [_, _, _]) (M' := mX12_goes) dX12_lifts_89 vX12_goes ml_X12_310 sh_49 (by decide) rfl rfl rfl rfl (by simp [wtA]) (sp_goes_0 (by omega) hm ⟨by omega, by omega⟩ (fun g7 f7 v7 => ?_) (fun g7 v7 e7 => ?_))
            · refine r_zret dX12_lifts_92 rfl (.inr rfl) ?_
              have iw : (h 63 0 ≤ (h 53 (5 * a) + h 49 34) ∧ (h 53 (5 * a) + h 49 34) ≤ h 63 1) ∧ (h 63 2 ≤ (h 53 (5 * a + 1) + h 49 35) ∧ (h 53 (5 * a + 1) + h 49 35) ≤ h 63 3) := by omega
              have et : toF (wnM h) (h 53 (5 * a) + h 49 34) (h 53 (5 * a + 1) + h 49 35) (gmM h) = mv1 (h 53 (5 * a) + h 49 34) (h 53 (5 * a + 1) + h 49 35) (gmM h) := if_pos iw
              have em : mv1 (h 53 (5 * a) + h 49 34) (h 53 (5 * a + 1) + h 49 35) (gmM h) = gmA (h 53 (5 * a) + h 49 34) (h 53 (5 * a + 1) + h 49 35) 0 (gmM h) := if_neg (show ¬ gmP (h 53 (5 * a) + h 49 34) (h 53 (5 * a + 1) + h 49 35) (gmM h) from pt)
              rw [et, em] at k0 k1
              refine ⟨_, rfl, k0 _ (fun a k z1 z2 z3 z4 z5 z6 => f7 a k (fun z => z1 ⟨z.1, Or.inl z.2⟩) z2 z3 z4) ?_ (by rw [f7 49 12 (by decide) (by decide) (by decide) (by decide)]; exact h0)⟩
              rw [gmA_y (show (gmM h).1 < 150 from v7.1)]
              unfold gmM
              rw [v7.2.1, v7.2.2.1, v7.2.2.2.1, v7.2.2.2.2, f7 49 12 (by decide) (by decide) (by decide) (by decide)]
            · refine r_zret dX12_lifts_92 rfl (.inl rfl) ?_
              have iw : (h 63 0 ≤ (h 53 (5 * a) + h 49 34) ∧ (h 53 (5 * a) + h 49 34) ≤ h 63 1) ∧ (h 63 2 ≤ (h 53 (5 * a + 1) + h 49 35) ∧ (h 53 (5 * a + 1) + h 49 35) ≤ h 63 3) := by omega
              have et : toF (wnM h) (h 53 (5 * a) + h 49 34) (h 53 (5 * a + 1) + h 49 35) (gmM h) = mv1 (h 53 (5 * a) + h 49 34) (h 53 (5 * a + 1) + h 49 35) (gmM h) := if_pos iw
              have em : mv1 (h 53 (5 * a) + h 49 34) (h 53 (5 * a + 1) + h 49 35) (gmM h) = gmA (h 53 (5 * a) + h 49 34) (h 53 (5 * a + 1) + h 49 35) 0 (gmM h) := if_neg (show ¬ gmP (h 53 (5 * a) + h 49 34) (h 53 (5 * a + 1) + h 49 35) (gmM h) from pt)
              rw [et, em] at k0 k1
              refine ⟨_, rfl, k1 _ (fun a k z1 z2 z3 z4 z5 z6 => ?_) ?_ (by rw [e7, up_s])⟩
              · rw [e7]
                unfold upH
                rw [if_neg (fun z => z1 ⟨z.1, Or.inr z.2⟩)]
              · rw [gmA_n (show ¬ (gmM h).1 < 150 from v7), e7]
                unfold gmM
                rw [up_nk (by decide), upH_f (by decide), upH_f (by decide), upH_f (by decide), up_s]
