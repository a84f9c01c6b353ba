/-! A WINDOW OF THE REFERENCE -/
theorem wn_up {h : Hp} {x0 x1 x2 x3 y0 y1 y2 y3 : Int} (e0 : x0 = y0) (e1 : x2 = y1) (e2 : x1 = y2) (e3 : x3 = y3) : wnM (upH (upH (upH (upH h 63 0 x0) 63 1 x1) 63 2 x2) 63 3 x3) = (y0, y1, y2, y3) := by
  rw [← e0, ← e1, ← e2, ← e3]
  rfl
set_option maxRecDepth 20000 in
set_option maxHeartbeats 400000 in
theorem sp_X12_opens {d : Nat} (hd : 1 ≤ d) {h : Hp} {a : Nat} (ha : a < 60) (hn : ∀ q : Nat, q < 4 → 0 ≤ h 53 (5 * a + q) ∧ h 53 (5 * a + q) ≤ 999) (hW : (0 ≤ h 49 3 ∧ h 49 3 ≤ 999) ∧ (0 ≤ h 49 4 ∧ h 49 4 ≤ 999)) {P : Hp → Prop} (k : ∀ h' : Hp, (∀ a k, a ≠ 63 → h' a k = h a k) → (wnM h' = (max (h 53 (5 * a)) 0, max (h 53 (5 * a + 1)) 1, min (h 53 (5 * a + 2)) (h 49 3), min (h 53 (5 * a + 3)) (h 49 4))) → P h') : Cl d mX12_opens [.inr (.inr 49), .inl (a : Int)] h (pV P) := by
  refine Cl.of (L := [some (.inr (.inr 49)), some (.inl (a : Int))]) (by decide +kernel) (Nat.le_of_ble_eq_true rfl) rfl ?_
  have n0 : 0 ≤ h 53 (5 * a) ∧ h 53 (5 * a) ≤ 999 := hn 0 (by decide)
  have n1 := hn 1 (by decide)
  have n2 := hn 2 (by decide)
  have n3 := hn 3 (by decide)
  have i0 : (5 * (a : Int)).toNat = 5 * a := by omega
  have i1 : (5 * (a : Int) + 1).toNat = 5 * a + 1 := by omega
  have i2 : (5 * (a : Int) + 2).toNat = 5 * a + 2 := by omega
  have i3 : (5 * (a : Int) + 3).toNat = 5 * a + 3 := by omega
  refine r_aload_n dX12_opens_0 rfl rfl ?_
  refine r_getR dX12_opens_1 fl_X12_69 sh_49 rfl ?_
  refine r_iconst dX12_opens_4 ?_
  refine r_aload_n dX12_opens_5 rfl rfl ?_
  refine r_getR dX12_opens_6 fl_X12_38 sh_49 rfl ?_
  refine r_iconst dX12_opens_9 ?_
  refine r_iload_n dX12_opens_10 rfl rfl ?_
  refine r_imul dX12_opens_11 ?_
  refine r_iald dX12_opens_12 sh_53 (by decide) (by omega) ?_
  rw [i0]
  refine r_iast dX12_opens_13 sh_63 (by decide) ⟨by decide, by decide⟩ ?_
  refine r_aload_n dX12_opens_14 rfl rfl ?_
  refine r_getR dX12_opens_15 fl_X12_69 sh_49 rfl ?_
  refine r_iconst dX12_opens_18 ?_
  refine r_aload_n dX12_opens_19 rfl rfl ?_
  refine r_getR dX12_opens_20 fl_X12_38 sh_49 rfl ?_
  refine r_iconst dX12_opens_23 ?_
  refine r_iload_n dX12_opens_24 rfl rfl ?_
  refine r_imul dX12_opens_25 ?_
  refine r_iconst dX12_opens_26 ?_
  refine r_iadd dX12_opens_27 ?_
  refine r_iald dX12_opens_28 sh_53 (by decide) (by omega) ?_
  refine r_eqI (up_nc (by decide)) ?_
  rw [i2]
  refine r_aload_n dX12_opens_29 rfl rfl ?_
  refine r_getI dX12_opens_30 fl_X12_13 sh_49 rfl ?_
  refine r_eqI (up_nc (by decide)) ?_
  refine r_icmp_ge (tgt := 49) dX12_opens_33 rfl (by omega) (by omega) (fun c_33 => ?_) (fun c_33 => ?_)
  · refine r_aload_n dX12_opens_49 rfl rfl ?_
    refine r_getI dX12_opens_50 fl_X12_13 sh_49 rfl ?_
    refine r_eqI (up_nc (by decide)) ?_
    refine r_iast dX12_opens_53 sh_63 (by decide) ⟨by decide, by decide⟩ ?_
    refine r_aload_n dX12_opens_54 rfl rfl ?_
    refine r_getR dX12_opens_55 fl_X12_69 sh_49 rfl ?_
    refine r_iconst dX12_opens_58 ?_
    refine r_aload_n dX12_opens_59 rfl rfl ?_
    refine r_getR dX12_opens_60 fl_X12_38 sh_49 rfl ?_
    refine r_iconst dX12_opens_63 ?_
    refine r_iload_n dX12_opens_64 rfl rfl ?_
    refine r_imul dX12_opens_65 ?_
    refine r_iconst dX12_opens_66 ?_
    refine r_iadd dX12_opens_67 ?_
    refine r_iald dX12_opens_68 sh_53 (by decide) (by omega) ?_
    refine r_eqI (((up_nc (by decide)).trans (up_nc (by decide)))) ?_
    rw [i1]
    refine r_iconst dX12_opens_69 ?_
    refine r_icmp_le (tgt := 86) dX12_opens_70 rfl (by omega) ⟨by decide, by decide⟩ (fun c_70 => ?_) (fun c_70 => ?_)
    · refine r_iconst dX12_opens_86 ?_
      refine r_iast dX12_opens_87 sh_63 (by decide) ⟨by decide, by decide⟩ ?_
      refine r_aload_n dX12_opens_88 rfl rfl ?_
      refine r_getR dX12_opens_89 fl_X12_69 sh_49 rfl ?_
      refine r_iconst dX12_opens_92 ?_
      refine r_aload_n dX12_opens_93 rfl rfl ?_
      refine r_getR dX12_opens_94 fl_X12_38 sh_49 rfl ?_
      refine r_iconst dX12_opens_97 ?_
      refine r_iload_n dX12_opens_98 rfl rfl ?_
      refine r_imul dX12_opens_99 ?_
      refine r_iconst dX12_opens_100 ?_
      refine r_iadd dX12_opens_101 ?_
      refine r_iald dX12_opens_102 sh_53 (by decide) (by omega) ?_
      refine r_eqI (((up_nc (by decide)).trans (((up_nc (by decide)).trans (up_nc (by decide)))))) ?_
      rw [i3]
      refine r_aload_n dX12_opens_103 rfl rfl ?_
      refine r_getI dX12_opens_104 fl_X12_17 sh_49 rfl ?_
      refine r_eqI (((up_nc (by decide)).trans (((up_nc (by decide)).trans (up_nc (by decide)))))) ?_
      refine r_icmp_ge (tgt := 123) dX12_opens_107 rfl (by omega) (by omega) (fun c_107 => ?_) (fun c_107 => ?_)
      · refine r_aload_n dX12_opens_123 rfl rfl ?_
        refine r_getI dX12_opens_124 fl_X12_17 sh_49 rfl ?_
        refine r_eqI (((up_nc (by decide)).trans (((up_nc (by decide)).trans (up_nc (by decide)))))) ?_
        refine r_iast dX12_opens_127 sh_63 (by decide) ⟨by decide, by decide⟩ ?_
        refine r_vret dX12_opens_128 rfl ?_
        exact ⟨rfl, k _ (fun a k z => by rw [up_nc z, up_nc z, up_nc z, up_nc z]) (wn_up (by omega) (by omega) (by omega) (by omega))⟩
      · refine r_aload_n dX12_opens_110 rfl rfl ?_
        refine r_getR dX12_opens_111 fl_X12_38 sh_49 rfl ?_
        refine r_iconst dX12_opens_114 ?_
        refine r_iload_n dX12_opens_115 rfl rfl ?_
        refine r_imul dX12_opens_116 ?_
        refine r_iconst dX12_opens_117 ?_
        refine r_iadd dX12_opens_118 ?_
        refine r_iald dX12_opens_119 sh_53 (by decide) (by omega) ?_
        refine r_eqI (((up_nc (by decide)).trans (((up_nc (by decide)).trans (up_nc (by decide)))))) ?_
        rw [i3]
        refine r_goto (tgt := 127) dX12_opens_120 rfl ?_
        refine r_iast dX12_opens_127 sh_63 (by decide) ⟨by decide, by decide⟩ ?_
        refine r_vret dX12_opens_128 rfl ?_
        exact ⟨rfl, k _ (fun a k z => by rw [up_nc z, up_nc z, up_nc z, up_nc z]) (wn_up (by omega) (by omega) (by omega) (by omega))⟩
    · refine r_aload_n dX12_opens_73 rfl rfl ?_
      refine r_getR dX12_opens_74 fl_X12_38 sh_49 rfl ?_
      refine r_iconst dX12_opens_77 ?_
      refine r_iload_n dX12_opens_78 rfl rfl ?_
      refine r_imul dX12_opens_79 ?_
      refine r_iconst dX12_opens_80 ?_
      refine r_iadd dX12_opens_81 ?_
      refine r_iald dX12_opens_82 sh_53 (by decide) (by omega) ?_
      refine r_eqI (((up_nc (by decide)).trans (up_nc (by decide)))) ?_
      rw [i1]
      refine r_goto (tgt := 87) dX12_opens_83 rfl ?_
      refine r_iast dX12_opens_87 sh_63 (by decide) ⟨by decide, by decide⟩ ?_
      refine r_aload_n dX12_opens_88 rfl rfl ?_
      refine r_getR dX12_opens_89 fl_X12_69 sh_49 rfl ?_
      refine r_iconst dX12_opens_92 ?_
      refine r_aload_n dX12_opens_93 rfl rfl ?_
      refine r_getR dX12_opens_94 fl_X12_38 sh_49 rfl ?_
      refine r_iconst dX12_opens_97 ?_
      refine r_iload_n dX12_opens_98 rfl rfl ?_
      refine r_imul dX12_opens_99 ?_
      refine r_iconst dX12_opens_100 ?_
      refine r_iadd dX12_opens_101 ?_
      refine r_iald dX12_opens_102 sh_53 (by decide) (by omega) ?_
      refine r_eqI (((up_nc (by decide)).trans (((up_nc (by decide)).trans (up_nc (by decide)))))) ?_
      rw [i3]
      refine r_aload_n dX12_opens_103 rfl rfl ?_
      refine r_getI dX12_opens_104 fl_X12_17 sh_49 rfl ?_
      refine r_eqI (((up_nc (by decide)).trans (((up_nc (by decide)).trans (up_nc (by decide)))))) ?_
      refine r_icmp_ge (tgt := 123) dX12_opens_107 rfl (by omega) (by omega) (fun c_107 => ?_) (fun c_107 => ?_)
      · refine r_aload_n dX12_opens_123 rfl rfl ?_
        refine r_getI dX12_opens_124 fl_X12_17 sh_49 rfl ?_
        refine r_eqI (((up_nc (by decide)).trans (((up_nc (by decide)).trans (up_nc (by decide)))))) ?_
        refine r_iast dX12_opens_127 sh_63 (by decide) ⟨by decide, by decide⟩ ?_
        refine r_vret dX12_opens_128 rfl ?_
        exact ⟨rfl, k _ (fun a k z => by rw [up_nc z, up_nc z, up_nc z, up_nc z]) (wn_up (by omega) (by omega) (by omega) (by omega))⟩
      · refine r_aload_n dX12_opens_110 rfl rfl ?_
        refine r_getR dX12_opens_111 fl_X12_38 sh_49 rfl ?_
        refine r_iconst dX12_opens_114 ?_
        refine r_iload_n dX12_opens_115 rfl rfl ?_
        refine r_imul dX12_opens_116 ?_
        refine r_iconst dX12_opens_117 ?_
        refine r_iadd dX12_opens_118 ?_
        refine r_iald dX12_opens_119 sh_53 (by decide) (by omega) ?_
        refine r_eqI (((up_nc (by decide)).trans (((up_nc (by decide)).trans (up_nc (by decide)))))) ?_
        rw [i3]
        refine r_goto (tgt := 127) dX12_opens_120 rfl ?_
        refine r_iast dX12_opens_127 sh_63 (by decide) ⟨by decide, by decide⟩ ?_
        refine r_vret dX12_opens_128 rfl ?_
        exact ⟨rfl, k _ (fun a k z => by rw [up_nc z, up_nc z, up_nc z, up_nc z]) (wn_up (by omega) (by omega) (by omega) (by omega))⟩
  · refine r_aload_n dX12_opens_36 rfl rfl ?_
    refine r_getR dX12_opens_37 fl_X12_38 sh_49 rfl ?_
    refine r_iconst dX12_opens_40 ?_
    refine r_iload_n dX12_opens_41 rfl rfl ?_
    refine r_imul dX12_opens_42 ?_
    refine r_iconst dX12_opens_43 ?_
    refine r_iadd dX12_opens_44 ?_
    refine r_iald dX12_opens_45 sh_53 (by decide) (by omega) ?_
    refine r_eqI (up_nc (by decide)) ?_
    rw [i2]
    refine r_goto (tgt := 53) dX12_opens_46 rfl ?_
    refine r_iast dX12_opens_53 sh_63 (by decide) ⟨by decide, by decide⟩ ?_
    refine r_aload_n dX12_opens_54 rfl rfl ?_
    refine r_getR dX12_opens_55 fl_X12_69 sh_49 rfl ?_
    refine r_iconst dX12_opens_58 ?_
    refine r_aload_n dX12_opens_59 rfl rfl ?_
    refine r_getR dX12_opens_60 fl_X12_38 sh_49 rfl ?_
    refine r_iconst dX12_opens_63 ?_
    refine r_iload_n dX12_opens_64 rfl rfl ?_
    refine r_imul dX12_opens_65 ?_
    refine r_iconst dX12_opens_66 ?_
    refine r_iadd dX12_opens_67 ?_
    refine r_iald dX12_opens_68 sh_53 (by decide) (by omega) ?_
    refine r_eqI (((up_nc (by decide)).trans (up_nc (by decide)))) ?_
    rw [i1]
    refine r_iconst dX12_opens_69 ?_
    refine r_icmp_le (tgt := 86) dX12_opens_70 rfl (by omega) ⟨by decide, by decide⟩ (fun c_70 => ?_) (fun c_70 => ?_)
    · refine r_iconst dX12_opens_86 ?_
      refine r_iast dX12_opens_87 sh_63 (by decide) ⟨by decide, by decide⟩ ?_
      refine r_aload_n dX12_opens_88 rfl rfl ?_
      refine r_getR dX12_opens_89 fl_X12_69 sh_49 rfl ?_
      refine r_iconst dX12_opens_92 ?_
      refine r_aload_n dX12_opens_93 rfl rfl ?_
      refine r_getR dX12_opens_94 fl_X12_38 sh_49 rfl ?_
      refine r_iconst dX12_opens_97 ?_
      refine r_iload_n dX12_opens_98 rfl rfl ?_
      refine r_imul dX12_opens_99 ?_
      refine r_iconst dX12_opens_100 ?_
      refine r_iadd dX12_opens_101 ?_
      refine r_iald dX12_opens_102 sh_53 (by decide) (by omega) ?_
      refine r_eqI (((up_nc (by decide)).trans (((up_nc (by decide)).trans (up_nc (by decide)))))) ?_
      rw [i3]
      refine r_aload_n dX12_opens_103 rfl rfl ?_
      refine r_getI dX12_opens_104 fl_X12_17 sh_49 rfl ?_
      refine r_eqI (((up_nc (by decide)).trans (((up_nc (by decide)).trans (up_nc (by decide)))))) ?_
      refine r_icmp_ge (tgt := 123) dX12_opens_107 rfl (by omega) (by omega) (fun c_107 => ?_) (fun c_107 => ?_)
      · refine r_aload_n dX12_opens_123 rfl rfl ?_
        refine r_getI dX12_opens_124 fl_X12_17 sh_49 rfl ?_
        refine r_eqI (((up_nc (by decide)).trans (((up_nc (by decide)).trans (up_nc (by decide)))))) ?_
        refine r_iast dX12_opens_127 sh_63 (by decide) ⟨by decide, by decide⟩ ?_
        refine r_vret dX12_opens_128 rfl ?_
        exact ⟨rfl, k _ (fun a k z => by rw [up_nc z, up_nc z, up_nc z, up_nc z]) (wn_up (by omega) (by omega) (by omega) (by omega))⟩
      · refine r_aload_n dX12_opens_110 rfl rfl ?_
        refine r_getR dX12_opens_111 fl_X12_38 sh_49 rfl ?_
        refine r_iconst dX12_opens_114 ?_
        refine r_iload_n dX12_opens_115 rfl rfl ?_
        refine r_imul dX12_opens_116 ?_
        refine r_iconst dX12_opens_117 ?_
        refine r_iadd dX12_opens_118 ?_
        refine r_iald dX12_opens_119 sh_53 (by decide) (by omega) ?_
        refine r_eqI (((up_nc (by decide)).trans (((up_nc (by decide)).trans (up_nc (by decide)))))) ?_
        rw [i3]
        refine r_goto (tgt := 127) dX12_opens_120 rfl ?_
        refine r_iast dX12_opens_127 sh_63 (by decide) ⟨by decide, by decide⟩ ?_
        refine r_vret dX12_opens_128 rfl ?_
        exact ⟨rfl, k _ (fun a k z => by rw [up_nc z, up_nc z, up_nc z, up_nc z]) (wn_up (by omega) (by omega) (by omega) (by omega))⟩
    · refine r_aload_n dX12_opens_73 rfl rfl ?_
      refine r_getR dX12_opens_74 fl_X12_38 sh_49 rfl ?_
      refine r_iconst dX12_opens_77 ?_
      refine r_iload_n dX12_opens_78 rfl rfl ?_
      refine r_imul dX12_opens_79 ?_
      refine r_iconst dX12_opens_80 ?_
      refine r_iadd dX12_opens_81 ?_
      refine r_iald dX12_opens_82 sh_53 (by decide) (by omega) ?_
      refine r_eqI (((up_nc (by decide)).trans (up_nc (by decide)))) ?_
      rw [i1]
      refine r_goto (tgt := 87) dX12_opens_83 rfl ?_
      refine r_iast dX12_opens_87 sh_63 (by decide) ⟨by decide, by decide⟩ ?_
      refine r_aload_n dX12_opens_88 rfl rfl ?_
      refine r_getR dX12_opens_89 fl_X12_69 sh_49 rfl ?_
      refine r_iconst dX12_opens_92 ?_
      refine r_aload_n dX12_opens_93 rfl rfl ?_
      refine r_getR dX12_opens_94 fl_X12_38 sh_49 rfl ?_
      refine r_iconst dX12_opens_97 ?_
      refine r_iload_n dX12_opens_98 rfl rfl ?_
      refine r_imul dX12_opens_99 ?_
      refine r_iconst dX12_opens_100 ?_
      refine r_iadd dX12_opens_101 ?_
      refine r_iald dX12_opens_102 sh_53 (by decide) (by omega) ?_
      refine r_eqI (((up_nc (by decide)).trans (((up_nc (by decide)).trans (up_nc (by decide)))))) ?_
      rw [i3]
      refine r_aload_n dX12_opens_103 rfl rfl ?_
      refine r_getI dX12_opens_104 fl_X12_17 sh_49 rfl ?_
      refine r_eqI (((up_nc (by decide)).trans (((up_nc (by decide)).trans (up_nc (by decide)))))) ?_
      refine r_icmp_ge (tgt := 123) dX12_opens_107 rfl (by omega) (by omega) (fun c_107 => ?_) (fun c_107 => ?_)
      · refine r_aload_n dX12_opens_123 rfl rfl ?_
        refine r_getI dX12_opens_124 fl_X12_17 sh_49 rfl ?_
        refine r_eqI (((up_nc (by decide)).trans (((up_nc (by decide)).trans (up_nc (by decide)))))) ?_
        refine r_iast dX12_opens_127 sh_63 (by decide) ⟨by decide, by decide⟩ ?_
        refine r_vret dX12_opens_128 rfl ?_
        exact ⟨rfl, k _ (fun a k z => by rw [up_nc z, up_nc z, up_nc z, up_nc z]) (wn_up (by omega) (by omega) (by omega) (by omega))⟩
      · refine r_aload_n dX12_opens_110 rfl rfl ?_
        refine r_getR dX12_opens_111 fl_X12_38 sh_49 rfl ?_
        refine r_iconst dX12_opens_114 ?_
        refine r_iload_n dX12_opens_115 rfl rfl ?_
        refine r_imul dX12_opens_116 ?_
        refine r_iconst dX12_opens_117 ?_
        refine r_iadd dX12_opens_118 ?_
        refine r_iald dX12_opens_119 sh_53 (by decide) (by omega) ?_
        refine r_eqI (((up_nc (by decide)).trans (((up_nc (by decide)).trans (up_nc (by decide)))))) ?_
        rw [i3]
        refine r_goto (tgt := 127) dX12_opens_120 rfl ?_
        refine r_iast dX12_opens_127 sh_63 (by decide) ⟨by decide, by decide⟩ ?_
        refine r_vret dX12_opens_128 rfl ?_
        exact ⟨rfl, k _ (fun a k z => by rw [up_nc z, up_nc z, up_nc z, up_nc z]) (wn_up (by omega) (by omega) (by omega) (by omega))⟩
