/-! A FORM OF THE REFERENCE -/
theorem FrK.wn {h g : Hp} (f : FrK h g) : wnM g = wnM h := by
  have e : g 63 = h 63 := funext fun j => f 63 j (fun q => absurd q.1 (by decide)) (by decide) (by decide) (by decide) (by decide) (by decide)
  unfold wnM
  rw [e]
theorem FrK.tr {h g u : Hp} (f : FrK h g) (f2 : FrK g u) : FrK h u := fun a k z1 z2 z3 z4 z5 z6 => (f2 a k z1 z2 z3 z4 z5 z6).trans (f a k z1 z2 z3 z4 z5 z6)
theorem FrK.rf {h : Hp} : FrK h h := fun _ _ _ _ _ _ _ _ => rfl
set_option maxRecDepth 20000 in
set_option maxHeartbeats 400000 in
theorem lp_mform2 {d : Nat} (hd : 5 ≤ d) {P : Int → Hp → Prop} {h : Hp} {a x y z : Int} {f c : Nat} {T : Gm} (hf : f < 8) (hc : h 57 f = c ∧ 1 ≤ c ∧ c ≤ 12) (hx : 0 ≤ x ∧ x ≤ 999) (hy : 0 ≤ y ∧ y ≤ 999) (hz : 0 ≤ z ∧ z ≤ 99) (hs : (-500000 ≤ h 49 34 ∧ h 49 34 ≤ 500000) ∧ (-500000 ≤ h 49 35 ∧ h 49 35 ≤ 500000)) (hp : ∀ q : Nat, q < c → (0 ≤ h 58 (12 * f + q) ∧ h 58 (12 * f + q) ≤ 99) ∧ (0 ≤ h 59 (12 * f + q) ∧ h 59 (12 * f + q) ≤ 99)) (hw : WnR (wnM h)) (k0 : ∀ g : Hp, FrK h g → gmM g = T → g 49 12 = 0 → P 1 g) (k1 : ∀ g : Hp, FrK h g → gmM g = T → g 49 12 = 1 → P 0 g) : ∀ (nn : Nat) (j m : Nat) (g : Hp), (j + m + 1 = c) → (FrK h g) → (GmR (gmM g)) → (g 49 12 = 0) → (itF (wnM h) (foE x y z (h 49 34) (h 49 35) (h 58) (h 59) (12 * f)) m j (gmM g) = T) → m < nn → WW mX12_puts (d + 1) (pI P) 50 [some (.inr (.inr 49)), some (.inl a), some (.inl (f : Int)), some (.inl x), some (.inl y), some (.inl z), some (.inl ((12 * f + j : Nat) : Int))] [] g := by
  intro nn
  induction nn with
  | zero => intro j m g hj gf gr g1 ge; intros; omega
  | succ nn ih =>
    intro j m g hj gf gr g1 ge hmu
    refine r_iload dX12_puts_50 rfl ?_
    refine r_bipush dX12_puts_52 (by decide +kernel) ?_
    refine r_iload_n dX12_puts_54 rfl rfl ?_
    refine r_imul dX12_puts_55 ?_
    refine r_aload_n dX12_puts_56 rfl rfl ?_
    refine r_getR dX12_puts_57 fl_X12_50 sh_49 rfl ?_
    refine r_iload_n dX12_puts_60 rfl rfl ?_
    refine r_iald dX12_puts_61 sh_57 (by decide) (by clear ge gr hw; omega) ?_
    rw [Int.toNat_natCast, (gf 57 f (fun q => absurd q.1 (by decide)) (by decide) (by decide) (by decide) (by decide) (by decide)).trans hc.1]
    refine r_iadd dX12_puts_62 ?_
    refine r_iconst dX12_puts_63 ?_
    refine r_isub dX12_puts_64 ?_
    refine r_icmp_ge (tgt := 137) dX12_puts_65 rfl (by clear ge gr hw; omega) (by clear ge gr hw; omega) (fun c_65 => ?_) (fun c_65 => ?_)
    · refine r_iconst dX12_puts_137 ?_
      refine r_zret dX12_puts_138 rfl (.inr rfl) ?_
      have m0 : m = 0 := by clear ge gr hw; omega
      subst m0
      exact ⟨_, rfl, k0 g gf ge g1⟩
    · have i1 : (((12 * f + j : Nat) : Int)).toNat = 12 * f + j := Int.toNat_natCast _
      have i2 : (((12 * f + j : Nat) : Int) + 1).toNat = 12 * f + j + 1 := by clear ge gr hw; omega
      have p1 : g 58 = h 58 := funext fun q => gf 58 q (fun q => absurd q.1 (by decide)) (by decide) (by decide) (by decide) (by decide) (by decide)
      have p2 : g 59 = h 59 := funext fun q => gf 59 q (fun q => absurd q.1 (by decide)) (by decide) (by decide) (by decide) (by decide) (by decide)
      have p3 := gf 49 34 (by decide) (by decide) (by decide) (by decide) (by decide) (by decide)
      have p4 := gf 49 35 (by decide) (by decide) (by decide) (by decide) (by decide) (by decide)
      obtain ⟨m, rfl⟩ : ∃ q, m = q + 1 := ⟨m - 1, by clear ge gr hw; omega⟩
      have lq : LQ ((foE x y z (h 49 34) (h 49 35) (h 58) (h 59) (12 * f)) j) := foE_b hx hy hz hs (hp j (by clear ge gr hw; omega)) (hp (j + 1) (by clear ge gr hw; omega))
      have f0 : (gmM g).2.2.2.2 = 0 := g1
      rw [itF, if_pos f0] at ge
      refine r_aload_n dX12_puts_68 rfl rfl ?_
      refine r_iload_n dX12_puts_69 rfl rfl ?_
      refine r_iload dX12_puts_70 rfl ?_
      refine r_aload_n dX12_puts_72 rfl rfl ?_
      refine r_getR dX12_puts_73 fl_X12_53 sh_49 rfl ?_
      refine r_iload dX12_puts_76 rfl ?_
      refine r_iald dX12_puts_78 sh_58 (by decide) (by clear ge gr hw; omega) ?_
      rw [i1, p1]
      refine r_imul dX12_puts_79 ?_
      refine r_iadd dX12_puts_80 ?_
      refine r_iload dX12_puts_81 rfl ?_
      refine r_iload dX12_puts_83 rfl ?_
      refine r_aload_n dX12_puts_85 rfl rfl ?_
      refine r_getR dX12_puts_86 fl_X12_56 sh_49 rfl ?_
      refine r_iload dX12_puts_89 rfl ?_
      refine r_iald dX12_puts_91 sh_59 (by decide) (by clear ge gr hw; omega) ?_
      rw [i1, p2]
      refine r_imul dX12_puts_92 ?_
      refine r_iadd dX12_puts_93 ?_
      refine r_iload_n dX12_puts_94 rfl rfl ?_
      refine r_iload dX12_puts_95 rfl ?_
      refine r_aload_n dX12_puts_97 rfl rfl ?_
      refine r_getR dX12_puts_98 fl_X12_53 sh_49 rfl ?_
      refine r_iload dX12_puts_101 rfl ?_
      refine r_iconst dX12_puts_103 ?_
      refine r_iadd dX12_puts_104 ?_
      refine r_iald dX12_puts_105 sh_58 (by decide) (by clear ge gr hw; omega) ?_
      rw [i2, p1]
      refine r_imul dX12_puts_106 ?_
      refine r_iadd dX12_puts_107 ?_
      refine r_iload dX12_puts_108 rfl ?_
      refine r_iload dX12_puts_110 rfl ?_
      refine r_aload_n dX12_puts_112 rfl rfl ?_
      refine r_getR dX12_puts_113 fl_X12_56 sh_49 rfl ?_
      refine r_iload dX12_puts_116 rfl ?_
      refine r_iconst dX12_puts_118 ?_
      refine r_iadd dX12_puts_119 ?_
      refine r_iald dX12_puts_120 sh_59 (by decide) (by clear ge gr hw; omega) ?_
      rw [i2, p2]
      refine r_imul dX12_puts_121 ?_
      refine r_iadd dX12_puts_122 ?_
      refine r_callVI (av := [_, _, _, _]) (M' := mX12_lines) dX12_puts_123 vX12_lines ml_X12_314 sh_49 (by decide) rfl rfl rfl rfl (by simp [wtA]) (sp_X12_lines (by omega) (by rw [p3, p4]; exact lq) (by rw [gf.wn]; exact hw) gr g1 (fun g2 f2 v2 z2 => ?_) (fun g2 f2 v2 z2 => ?_))
      · refine r_if_ne (tgt := 131) dX12_puts_126 rfl ⟨by decide, by decide⟩ (fun c_126 => ?_) (fun c_126 => absurd c_126 (by decide))
        refine r_iinc (L' := [_, _, _, _, _, _, _]) dX12_puts_131 rfl rfl (by decide) rfl ?_
        refine r_goto (tgt := 50) dX12_puts_134 rfl ?_
        rw [p3, p4, gf.wn] at v2
        have e2 : gmM g2 = liF (wnM h) ((foE x y z (h 49 34) (h 49 35) (h 58) (h 59) (12 * f)) j) (gmM g) := v2
        have r2 : GmR (gmM g2) := by rw [e2]; exact gr.li hw
        rw [← e2] at ge
        exact ih (j + 1) m g2 (by clear ge gr hw; omega) (gf.tr f2) r2 z2 ge (by clear ge gr hw; omega)
      · refine r_if_ne (tgt := 131) dX12_puts_126 rfl ⟨by decide, by decide⟩ (fun c_126 => absurd c_126 (by decide)) (fun c_126 => ?_)
        refine r_iconst dX12_puts_129 ?_
        refine r_zret dX12_puts_130 rfl (.inl rfl) ?_
        rw [p3, p4, gf.wn] at v2
        have e2 : gmM g2 = liF (wnM h) ((foE x y z (h 49 34) (h 49 35) (h 58) (h 59) (12 * f)) j) (gmM g) := v2
        rw [← e2, itF_f (show ¬ (gmM g2).2.2.2.2 = 0 from fun q => absurd (z2.symm.trans q) (by decide))] at ge
        exact ⟨_, rfl, k1 g2 (gf.tr f2) ge z2⟩
set_option maxRecDepth 20000 in
set_option maxHeartbeats 400000 in
theorem sp_X12_puts {d : Nat} (hd : 6 ≤ d) {h : Hp} {a f c : Nat} (ha : a < 60) (hf : h 53 (5 * a) = f ∧ f < 8) (hc : h 57 f = c ∧ 1 ≤ c ∧ c ≤ 12) (hn : (0 ≤ h 53 (5 * a + 1) ∧ h 53 (5 * a + 1) ≤ 999) ∧ (0 ≤ h 53 (5 * a + 2) ∧ h 53 (5 * a + 2) ≤ 999) ∧ (0 ≤ h 53 (5 * a + 3) ∧ h 53 (5 * a + 3) ≤ 99)) (hsh : (-500000 ≤ h 49 34 ∧ h 49 34 ≤ 500000) ∧ (-500000 ≤ h 49 35 ∧ h 49 35 ≤ 500000)) (hp : ∀ q : Nat, q < c → (0 ≤ h 58 (12 * f + q) ∧ h 58 (12 * f + q) ≤ 99) ∧ (0 ≤ h 59 (12 * f + q) ∧ h 59 (12 * f + q) ≤ 99)) (hw : WnR (wnM h)) (hg : GmR (gmM h)) (h0 : h 49 12 = 0) {P : Int → Hp → Prop} (k0 : ∀ h' : Hp, (FrK h h') → (gmM h' = itF (wnM h) (foE (h 53 (5 * a + 1)) (h 53 (5 * a + 2)) (h 53 (5 * a + 3)) (h 49 34) (h 49 35) (h 58) (h 59) (12 * f)) (c - 1) 0 (gmM h)) → (h' 49 12 = 0) → P (1) h') (k1 : ∀ h' : Hp, (FrK h h') → (gmM h' = itF (wnM h) (foE (h 53 (5 * a + 1)) (h 53 (5 * a + 2)) (h 53 (5 * a + 3)) (h 49 34) (h 49 35) (h 58) (h 59) (12 * f)) (c - 1) 0 (gmM h)) → (h' 49 12 = 1) → P (0) h') : Cl d mX12_puts [.inr (.inr 49), .inl (a : Int)] h (pI P) := by
  refine Cl.of (L := [some (.inr (.inr 49)), some (.inl (a : Int)), none, none, none, none, none]) (by decide +kernel) (Nat.le_of_ble_eq_true rfl) rfl ?_
  obtain ⟨d, rfl⟩ : ∃ q, d = q + 1 := ⟨d - 1, by omega⟩
  have i0 : (5 * (a : Int)).toNat = 5 * a := by clear hw hg hp; omega
  have i1 : (5 * (a : Int) + 1).toNat = 5 * a + 1 := by clear hw hg hp; omega
  have i2 : (5 * (a : Int) + 2).toNat = 5 * a + 2 := by clear hw hg hp; omega
  have i3 : (5 * (a : Int) + 3).toNat = 5 * a + 3 := by clear hw hg hp; omega
  refine r_aload_n dX12_puts_0 rfl rfl ?_
  refine r_getR dX12_puts_1 fl_X12_38 sh_49 rfl ?_
  refine r_iconst dX12_puts_4 ?_
  refine r_iload_n dX12_puts_5 rfl rfl ?_
  refine r_imul dX12_puts_6 ?_
  refine r_iald dX12_puts_7 sh_53 (by decide) (by clear hw hg hp; omega) ?_
  rw [i0, hf.1]
  refine r_istore_n (L' := [_, _, _, _, _, _, _]) dX12_puts_8 rfl rfl (by decide) rfl ?_
  refine r_aload_n dX12_puts_9 rfl rfl ?_
  refine r_getR dX12_puts_10 fl_X12_38 sh_49 rfl ?_
  refine r_iconst dX12_puts_13 ?_
  refine r_iload_n dX12_puts_14 rfl rfl ?_
  refine r_imul dX12_puts_15 ?_
  refine r_iconst dX12_puts_16 ?_
  refine r_iadd dX12_puts_17 ?_
  refine r_iald dX12_puts_18 sh_53 (by decide) (by clear hw hg hp; omega) ?_
  rw [i1]
  refine r_istore_n (L' := [_, _, _, _, _, _, _]) dX12_puts_19 rfl rfl (by decide) rfl ?_
  refine r_aload_n dX12_puts_20 rfl rfl ?_
  refine r_getR dX12_puts_21 fl_X12_38 sh_49 rfl ?_
  refine r_iconst dX12_puts_24 ?_
  refine r_iload_n dX12_puts_25 rfl rfl ?_
  refine r_imul dX12_puts_26 ?_
  refine r_iconst dX12_puts_27 ?_
  refine r_iadd dX12_puts_28 ?_
  refine r_iald dX12_puts_29 sh_53 (by decide) (by clear hw hg hp; omega) ?_
  rw [i2]
  refine r_istore (L' := [_, _, _, _, _, _, _]) dX12_puts_30 rfl (by decide) rfl ?_
  refine r_aload_n dX12_puts_32 rfl rfl ?_
  refine r_getR dX12_puts_33 fl_X12_38 sh_49 rfl ?_
  refine r_iconst dX12_puts_36 ?_
  refine r_iload_n dX12_puts_37 rfl rfl ?_
  refine r_imul dX12_puts_38 ?_
  refine r_iconst dX12_puts_39 ?_
  refine r_iadd dX12_puts_40 ?_
  refine r_iald dX12_puts_41 sh_53 (by decide) (by clear hw hg hp; omega) ?_
  rw [i3]
  refine r_istore (L' := [_, _, _, _, _, _, _]) dX12_puts_42 rfl (by decide) rfl ?_
  refine r_bipush dX12_puts_44 (by decide +kernel) ?_
  refine r_iload_n dX12_puts_46 rfl rfl ?_
  refine r_imul dX12_puts_47 ?_
  refine r_istore (L' := [_, _, _, _, _, _, _]) dX12_puts_48 rfl (by decide) rfl ?_
  exact lp_mform2 (h := h) (f := f) (c := c) (by omega) hf.2 hc hn.1 hn.2.1 hn.2.2 hsh hp hw (fun g a e z => k0 g a e z) (fun g a e z => k1 g a e z) (c - 1 + 1) 0 (c - 1) h (by clear hw hg hp; omega) FrK.rf hg h0 rfl (by clear hw hg hp; omega)
