set_option maxRecDepth 20000 in
set_option maxHeartbeats 400000 in
theorem sp_X12_backTo {d : Nat} (hd : 1 ≤ d) {h : Hp} {i : Nat} (hi : i < 5) {P : Hp → Prop} (k : ∀ h' : Hp, (∀ a k, ¬ (a = 49 ∧ (k = 34 ∨ k = 35)) → ¬ (a = 63 ∧ k < 4) → h' a k = h a k) → (h' 49 34 = h 66 (6 * i) ∧ h' 49 35 = h 66 (6 * i + 1) ∧ h' 63 0 = h 66 (6 * i + 2) ∧ h' 63 1 = h 66 (6 * i + 3) ∧ h' 63 2 = h 66 (6 * i + 4) ∧ h' 63 3 = h 66 (6 * i + 5)) → P h') : Cl d mX12_backTo [.inr (.inr 49), .inl (i : Int)] h (pV P) := by
  refine Cl.of (L := [some (.inr (.inr 49)), some (.inl (i : Int)), none]) (by decide +kernel) (Nat.le_of_ble_eq_true rfl) rfl ?_
  have j0 : (6 * (i : Int)).toNat = 6 * i := by omega
  have j1 : (6 * (i : Int) + 1).toNat = 6 * i + 1 := by omega
  have j2 : (6 * (i : Int) + 2 + 0).toNat = 6 * i + 2 := by omega
  have j3 : (6 * (i : Int) + 2 + (0 + 1)).toNat = 6 * i + 3 := by omega
  have j4 : (6 * (i : Int) + 2 + (0 + 1 + 1)).toNat = 6 * i + 4 := by omega
  have j5 : (6 * (i : Int) + 2 + (0 + 1 + 1 + 1)).toNat = 6 * i + 5 := by omega
  refine r_aload_n dX12_backTo_0 rfl rfl ?_
  refine r_aload_n dX12_backTo_1 rfl rfl ?_
  refine r_getR dX12_backTo_2 fl_X12_78 sh_49 rfl ?_
  refine r_bipush dX12_backTo_5 (by decide +kernel) ?_
  refine r_iload_n dX12_backTo_7 rfl rfl ?_
  refine r_imul dX12_backTo_8 ?_
  refine r_iald dX12_backTo_9 sh_66 (by decide) (by omega) ?_
  rw [j0]
  refine r_putI dX12_backTo_10 fl_X12_297 sh_49 rfl ?_
  refine r_aload_n dX12_backTo_13 rfl rfl ?_
  refine r_aload_n dX12_backTo_14 rfl rfl ?_
  refine r_getR dX12_backTo_15 fl_X12_78 sh_49 rfl ?_
  refine r_bipush dX12_backTo_18 (by decide +kernel) ?_
  refine r_iload_n dX12_backTo_20 rfl rfl ?_
  refine r_imul dX12_backTo_21 ?_
  refine r_iconst dX12_backTo_22 ?_
  refine r_iadd dX12_backTo_23 ?_
  refine r_iald dX12_backTo_24 sh_66 (by decide) (by omega) ?_
  refine r_eqI (up_nc (by decide)) ?_
  rw [j1]
  refine r_putI dX12_backTo_25 fl_X12_300 sh_49 rfl ?_
  refine r_iconst dX12_backTo_28 ?_
  refine r_istore_n (L' := [_, _, _]) dX12_backTo_29 rfl rfl (by decide) rfl ?_
  refine r_iload_n dX12_backTo_30 rfl rfl ?_
  refine r_iconst dX12_backTo_31 ?_
  refine r_icmp_ge (tgt := 60) dX12_backTo_32 rfl ⟨by decide, by decide⟩ ⟨by decide, by decide⟩ (fun c_32 => absurd c_32 (by decide)) (fun c_32 => ?_)
  refine r_aload_n dX12_backTo_35 rfl rfl ?_
  refine r_getR dX12_backTo_36 fl_X12_69 sh_49 rfl ?_
  refine r_iload_n dX12_backTo_39 rfl rfl ?_
  refine r_aload_n dX12_backTo_40 rfl rfl ?_
  refine r_getR dX12_backTo_41 fl_X12_78 sh_49 rfl ?_
  refine r_bipush dX12_backTo_44 (by decide +kernel) ?_
  refine r_iload_n dX12_backTo_46 rfl rfl ?_
  refine r_imul dX12_backTo_47 ?_
  refine r_iconst dX12_backTo_48 ?_
  refine r_iadd dX12_backTo_49 ?_
  refine r_iload_n dX12_backTo_50 rfl rfl ?_
  refine r_iadd dX12_backTo_51 ?_
  refine r_iald dX12_backTo_52 sh_66 (by decide) (by omega) ?_
  refine r_eqI (((up_nc (by decide)).trans (up_nc (by decide)))) ?_
  refine r_iast dX12_backTo_53 sh_63 (by decide) ⟨by decide, by decide⟩ ?_
  refine r_iinc (L' := [_, _, _]) dX12_backTo_54 rfl rfl (by decide) rfl ?_
  refine r_goto (tgt := 30) dX12_backTo_57 rfl ?_
  refine r_iload_n dX12_backTo_30 rfl rfl ?_
  refine r_iconst dX12_backTo_31 ?_
  refine r_icmp_ge (tgt := 60) dX12_backTo_32 rfl ⟨by decide, by decide⟩ ⟨by decide, by decide⟩ (fun c_32 => absurd c_32 (by decide)) (fun c_32 => ?_)
  refine r_aload_n dX12_backTo_35 rfl rfl ?_
  refine r_getR dX12_backTo_36 fl_X12_69 sh_49 rfl ?_
  refine r_iload_n dX12_backTo_39 rfl rfl ?_
  refine r_aload_n dX12_backTo_40 rfl rfl ?_
  refine r_getR dX12_backTo_41 fl_X12_78 sh_49 rfl ?_
  refine r_bipush dX12_backTo_44 (by decide +kernel) ?_
  refine r_iload_n dX12_backTo_46 rfl rfl ?_
  refine r_imul dX12_backTo_47 ?_
  refine r_iconst dX12_backTo_48 ?_
  refine r_iadd dX12_backTo_49 ?_
  refine r_iload_n dX12_backTo_50 rfl rfl ?_
  refine r_iadd dX12_backTo_51 ?_
  refine r_iald dX12_backTo_52 sh_66 (by decide) (by omega) ?_
  refine r_eqI (((up_nc (by decide)).trans (((up_nc (by decide)).trans (up_nc (by decide)))))) ?_
  refine r_iast dX12_backTo_53 sh_63 (by decide) ⟨by decide, by decide⟩ ?_
  refine r_iinc (L' := [_, _, _]) dX12_backTo_54 rfl rfl (by decide) rfl ?_
  refine r_goto (tgt := 30) dX12_backTo_57 rfl ?_
  refine r_iload_n dX12_backTo_30 rfl rfl ?_
  refine r_iconst dX12_backTo_31 ?_
  refine r_icmp_ge (tgt := 60) dX12_backTo_32 rfl ⟨by decide, by decide⟩ ⟨by decide, by decide⟩ (fun c_32 => absurd c_32 (by decide)) (fun c_32 => ?_)
  refine r_aload_n dX12_backTo_35 rfl rfl ?_
  refine r_getR dX12_backTo_36 fl_X12_69 sh_49 rfl ?_
  refine r_iload_n dX12_backTo_39 rfl rfl ?_
  refine r_aload_n dX12_backTo_40 rfl rfl ?_
  refine r_getR dX12_backTo_41 fl_X12_78 sh_49 rfl ?_
  refine r_bipush dX12_backTo_44 (by decide +kernel) ?_
  refine r_iload_n dX12_backTo_46 rfl rfl ?_
  refine r_imul dX12_backTo_47 ?_
  refine r_iconst dX12_backTo_48 ?_
  refine r_iadd dX12_backTo_49 ?_
  refine r_iload_n dX12_backTo_50 rfl rfl ?_
  refine r_iadd dX12_backTo_51 ?_
  refine r_iald dX12_backTo_52 sh_66 (by decide) (by omega) ?_
  refine r_eqI (((up_nc (by decide)).trans (((up_nc (by decide)).trans (((up_nc (by decide)).trans (up_nc (by decide)))))))) ?_
  refine r_iast dX12_backTo_53 sh_63 (by decide) ⟨by decide, by decide⟩ ?_
  refine r_iinc (L' := [_, _, _]) dX12_backTo_54 rfl rfl (by decide) rfl ?_
  refine r_goto (tgt := 30) dX12_backTo_57 rfl ?_
  refine r_iload_n dX12_backTo_30 rfl rfl ?_
  refine r_iconst dX12_backTo_31 ?_
  refine r_icmp_ge (tgt := 60) dX12_backTo_32 rfl ⟨by decide, by decide⟩ ⟨by decide, by decide⟩ (fun c_32 => absurd c_32 (by decide)) (fun c_32 => ?_)
  refine r_aload_n dX12_backTo_35 rfl rfl ?_
  refine r_getR dX12_backTo_36 fl_X12_69 sh_49 rfl ?_
  refine r_iload_n dX12_backTo_39 rfl rfl ?_
  refine r_aload_n dX12_backTo_40 rfl rfl ?_
  refine r_getR dX12_backTo_41 fl_X12_78 sh_49 rfl ?_
  refine r_bipush dX12_backTo_44 (by decide +kernel) ?_
  refine r_iload_n dX12_backTo_46 rfl rfl ?_
  refine r_imul dX12_backTo_47 ?_
  refine r_iconst dX12_backTo_48 ?_
  refine r_iadd dX12_backTo_49 ?_
  refine r_iload_n dX12_backTo_50 rfl rfl ?_
  refine r_iadd dX12_backTo_51 ?_
  refine r_iald dX12_backTo_52 sh_66 (by decide) (by omega) ?_
  refine r_eqI (((up_nc (by decide)).trans (((up_nc (by decide)).trans (((up_nc (by decide)).trans (((up_nc (by decide)).trans (up_nc (by decide)))))))))) ?_
  refine r_iast dX12_backTo_53 sh_63 (by decide) ⟨by decide, by decide⟩ ?_
  refine r_iinc (L' := [_, _, _]) dX12_backTo_54 rfl rfl (by decide) rfl ?_
  refine r_goto (tgt := 30) dX12_backTo_57 rfl ?_
  refine r_iload_n dX12_backTo_30 rfl rfl ?_
  refine r_iconst dX12_backTo_31 ?_
  refine r_icmp_ge (tgt := 60) dX12_backTo_32 rfl ⟨by decide, by decide⟩ ⟨by decide, by decide⟩ (fun c_32 => ?_) (fun c_32 => absurd c_32 (by decide))
  refine r_vret dX12_backTo_60 rfl ?_
  refine ⟨rfl, k _ (fun a k z1 z2 => ?_) ⟨?_, ?_, ?_, ?_, ?_, ?_⟩⟩
  · have t0 : Int.toNat 0 = 0 := rfl
    unfold upH
    rw [if_neg (by omega), if_neg (by omega), if_neg (by omega), if_neg (by omega), if_neg (by omega), if_neg (by omega)]
  · rfl
  · rfl
  · rw [← j2]; rfl
  · rw [← j3]; rfl
  · rw [← j4]; rfl
  · rw [← j5]; rfl
