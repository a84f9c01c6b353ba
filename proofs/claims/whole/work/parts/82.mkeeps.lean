/-! WHAT AN AGAIN KEEPS, THE REFERENCE -/
set_option maxRecDepth 20000 in
set_option maxHeartbeats 400000 in
theorem sp_X12_keeps {d : Nat} (hd : 1 ≤ d) {h : Hp} {i : Nat} (hi : i < 5) {P : Hp → Prop} (k : ∀ h' : Hp, (∀ a k, ¬ (a = 66 ∧ 6 * i ≤ k ∧ k < 6 * i + 6) → h' a k = h a k) → (h' 66 (6 * i) = h 49 34 ∧ h' 66 (6 * i + 1) = h 49 35 ∧ h' 66 (6 * i + 2) = h 63 0 ∧ h' 66 (6 * i + 3) = h 63 1 ∧ h' 66 (6 * i + 4) = h 63 2 ∧ h' 66 (6 * i + 5) = h 63 3) → P h') : Cl d mX12_keeps [.inr (.inr 49), .inl (i : Int)] h (pV P) := by
  refine Cl.of (L := [some (.inr (.inr 49)), some (.inl (i : Int)), none]) (by decide +kernel) (Nat.le_of_ble_eq_true rfl) rfl ?_
  refine r_aload_n dX12_keeps_0 rfl rfl ?_
  refine r_getR dX12_keeps_1 fl_X12_78 sh_49 rfl ?_
  refine r_bipush dX12_keeps_4 (by decide +kernel) ?_
  refine r_iload_n dX12_keeps_6 rfl rfl ?_
  refine r_imul dX12_keeps_7 ?_
  refine r_aload_n dX12_keeps_8 rfl rfl ?_
  refine r_getI dX12_keeps_9 fl_X12_297 sh_49 rfl ?_
  refine r_iast dX12_keeps_12 sh_66 (by decide) (by omega) ?_
  refine r_aload_n dX12_keeps_13 rfl rfl ?_
  refine r_getR dX12_keeps_14 fl_X12_78 sh_49 rfl ?_
  refine r_bipush dX12_keeps_17 (by decide +kernel) ?_
  refine r_iload_n dX12_keeps_19 rfl rfl ?_
  refine r_imul dX12_keeps_20 ?_
  refine r_iconst dX12_keeps_21 ?_
  refine r_iadd dX12_keeps_22 ?_
  refine r_aload_n dX12_keeps_23 rfl rfl ?_
  refine r_getI dX12_keeps_24 fl_X12_300 sh_49 rfl ?_
  refine r_eqI (up_nc (by decide)) ?_
  refine r_iast dX12_keeps_27 sh_66 (by decide) (by omega) ?_
  refine r_iconst dX12_keeps_28 ?_
  refine r_istore_n (L' := [_, _, _]) dX12_keeps_29 rfl rfl (by decide) rfl ?_
  refine r_iload_n dX12_keeps_30 rfl rfl ?_
  refine r_iconst dX12_keeps_31 ?_
  refine r_icmp_ge (tgt := 60) dX12_keeps_32 rfl ⟨by decide, by decide⟩ ⟨by decide, by decide⟩ (fun c_32 => absurd c_32 (by decide)) (fun c_32 => ?_)
  refine r_aload_n dX12_keeps_35 rfl rfl ?_
  refine r_getR dX12_keeps_36 fl_X12_78 sh_49 rfl ?_
  refine r_bipush dX12_keeps_39 (by decide +kernel) ?_
  refine r_iload_n dX12_keeps_41 rfl rfl ?_
  refine r_imul dX12_keeps_42 ?_
  refine r_iconst dX12_keeps_43 ?_
  refine r_iadd dX12_keeps_44 ?_
  refine r_iload_n dX12_keeps_45 rfl rfl ?_
  refine r_iadd dX12_keeps_46 ?_
  refine r_aload_n dX12_keeps_47 rfl rfl ?_
  refine r_getR dX12_keeps_48 fl_X12_69 sh_49 rfl ?_
  refine r_iload_n dX12_keeps_51 rfl rfl ?_
  refine r_iald dX12_keeps_52 sh_63 (by decide) ⟨by decide, by decide⟩ ?_
  refine r_eqI (((up_nc (by decide)).trans (up_nc (by decide)))) ?_
  refine r_iast dX12_keeps_53 sh_66 (by decide) (by omega) ?_
  refine r_iinc (L' := [_, _, _]) dX12_keeps_54 rfl rfl (by decide) rfl ?_
  refine r_goto (tgt := 30) dX12_keeps_57 rfl ?_
  refine r_iload_n dX12_keeps_30 rfl rfl ?_
  refine r_iconst dX12_keeps_31 ?_
  refine r_icmp_ge (tgt := 60) dX12_keeps_32 rfl ⟨by decide, by decide⟩ ⟨by decide, by decide⟩ (fun c_32 => absurd c_32 (by decide)) (fun c_32 => ?_)
  refine r_aload_n dX12_keeps_35 rfl rfl ?_
  refine r_getR dX12_keeps_36 fl_X12_78 sh_49 rfl ?_
  refine r_bipush dX12_keeps_39 (by decide +kernel) ?_
  refine r_iload_n dX12_keeps_41 rfl rfl ?_
  refine r_imul dX12_keeps_42 ?_
  refine r_iconst dX12_keeps_43 ?_
  refine r_iadd dX12_keeps_44 ?_
  refine r_iload_n dX12_keeps_45 rfl rfl ?_
  refine r_iadd dX12_keeps_46 ?_
  refine r_aload_n dX12_keeps_47 rfl rfl ?_
  refine r_getR dX12_keeps_48 fl_X12_69 sh_49 rfl ?_
  refine r_iload_n dX12_keeps_51 rfl rfl ?_
  refine r_iald dX12_keeps_52 sh_63 (by decide) ⟨by decide, by decide⟩ ?_
  refine r_eqI (((up_nc (by decide)).trans (((up_nc (by decide)).trans (up_nc (by decide)))))) ?_
  refine r_iast dX12_keeps_53 sh_66 (by decide) (by omega) ?_
  refine r_iinc (L' := [_, _, _]) dX12_keeps_54 rfl rfl (by decide) rfl ?_
  refine r_goto (tgt := 30) dX12_keeps_57 rfl ?_
  refine r_iload_n dX12_keeps_30 rfl rfl ?_
  refine r_iconst dX12_keeps_31 ?_
  refine r_icmp_ge (tgt := 60) dX12_keeps_32 rfl ⟨by decide, by decide⟩ ⟨by decide, by decide⟩ (fun c_32 => absurd c_32 (by decide)) (fun c_32 => ?_)
  refine r_aload_n dX12_keeps_35 rfl rfl ?_
  refine r_getR dX12_keeps_36 fl_X12_78 sh_49 rfl ?_
  refine r_bipush dX12_keeps_39 (by decide +kernel) ?_
  refine r_iload_n dX12_keeps_41 rfl rfl ?_
  refine r_imul dX12_keeps_42 ?_
  refine r_iconst dX12_keeps_43 ?_
  refine r_iadd dX12_keeps_44 ?_
  refine r_iload_n dX12_keeps_45 rfl rfl ?_
  refine r_iadd dX12_keeps_46 ?_
  refine r_aload_n dX12_keeps_47 rfl rfl ?_
  refine r_getR dX12_keeps_48 fl_X12_69 sh_49 rfl ?_
  refine r_iload_n dX12_keeps_51 rfl rfl ?_
  refine r_iald dX12_keeps_52 sh_63 (by decide) ⟨by decide, by decide⟩ ?_
  refine r_eqI (((up_nc (by decide)).trans (((up_nc (by decide)).trans (((up_nc (by decide)).trans (up_nc (by decide)))))))) ?_
  refine r_iast dX12_keeps_53 sh_66 (by decide) (by omega) ?_
  refine r_iinc (L' := [_, _, _]) dX12_keeps_54 rfl rfl (by decide) rfl ?_
  refine r_goto (tgt := 30) dX12_keeps_57 rfl ?_
  refine r_iload_n dX12_keeps_30 rfl rfl ?_
  refine r_iconst dX12_keeps_31 ?_
  refine r_icmp_ge (tgt := 60) dX12_keeps_32 rfl ⟨by decide, by decide⟩ ⟨by decide, by decide⟩ (fun c_32 => absurd c_32 (by decide)) (fun c_32 => ?_)
  refine r_aload_n dX12_keeps_35 rfl rfl ?_
  refine r_getR dX12_keeps_36 fl_X12_78 sh_49 rfl ?_
  refine r_bipush dX12_keeps_39 (by decide +kernel) ?_
  refine r_iload_n dX12_keeps_41 rfl rfl ?_
  refine r_imul dX12_keeps_42 ?_
  refine r_iconst dX12_keeps_43 ?_
  refine r_iadd dX12_keeps_44 ?_
  refine r_iload_n dX12_keeps_45 rfl rfl ?_
  refine r_iadd dX12_keeps_46 ?_
  refine r_aload_n dX12_keeps_47 rfl rfl ?_
  refine r_getR dX12_keeps_48 fl_X12_69 sh_49 rfl ?_
  refine r_iload_n dX12_keeps_51 rfl rfl ?_
  refine r_iald dX12_keeps_52 sh_63 (by decide) ⟨by decide, by decide⟩ ?_
  refine r_eqI (((up_nc (by decide)).trans (((up_nc (by decide)).trans (((up_nc (by decide)).trans (((up_nc (by decide)).trans (up_nc (by decide)))))))))) ?_
  refine r_iast dX12_keeps_53 sh_66 (by decide) (by omega) ?_
  refine r_iinc (L' := [_, _, _]) dX12_keeps_54 rfl rfl (by decide) rfl ?_
  refine r_goto (tgt := 30) dX12_keeps_57 rfl ?_
  refine r_iload_n dX12_keeps_30 rfl rfl ?_
  refine r_iconst dX12_keeps_31 ?_
  refine r_icmp_ge (tgt := 60) dX12_keeps_32 rfl ⟨by decide, by decide⟩ ⟨by decide, by decide⟩ (fun c_32 => ?_) (fun c_32 => absurd c_32 (by decide))
  refine r_vret dX12_keeps_60 rfl ?_
  refine ⟨rfl, k _ (fun a k z => ?_) ⟨?_, ?_, ?_, ?_, ?_, ?_⟩⟩
  · unfold upH
    rw [if_neg (by omega), if_neg (by omega), if_neg (by omega), if_neg (by omega), if_neg (by omega), if_neg (by omega)]
  all_goals
    unfold upH
    repeat (first | rw [if_pos (by omega)] | rw [if_neg (by omega)])
    try rfl
