/-! OTHER -/
def OTHC (h g : Hp) : Prop := (∀ a k, ¬ (a = 23 ∧ k = 0) → a ≠ 24 → a ≠ 25 → a ≠ 26 → a ≠ 27 → a ≠ 28 → g a k = h a k) ∧ g 23 0 = h 16 0 ∧ ∀ p : Nat, (p : Int) ≤ h 16 0 → g 24 p = h 17 p ∧ g 25 p = h 18 p ∧ g 26 p = h 19 p ∧ g 27 p = h 20 p ∧ g 28 p = h 21 p
def OTHM (h g : Hp) : Prop := (∀ a k, ¬ (a = 49 ∧ k = 30) → ¬ ((a = 60 ∨ a = 61 ∨ a = 62) ∧ 151 ≤ k) → g a k = h a k) ∧ g 49 30 = h 49 29 ∧ ∀ p : Nat, (p : Int) ≤ h 49 29 → g 60 (151 + p) = h 60 p ∧ g 61 (151 + p) = h 61 p ∧ g 62 (151 + p) = h 62 p
set_option maxRecDepth 20000 in
set_option maxHeartbeats 400000 in
theorem lp_copy {d : Nat} {P : Hp → Prop} {h : Hp} (hn : 0 ≤ (h 16 0) ∧ (h 16 0) ≤ 150) (hdn : ∀ p : Nat, (p : Int) ≤ (h 16 0) → h 19 p = 0 ∨ h 19 p = 1) (k : ∀ g : Hp, OTHC h g → P g) : ∀ (nn : Nat) (i : Nat) (g : Hp), ((i : Int) ≤ (h 16 0) + 1) → (∀ a k, ¬ (a = 23 ∧ k = 0) → a ≠ 24 → a ≠ 25 → a ≠ 26 → a ≠ 27 → a ≠ 28 → g a k = h a k) → (g 23 0 = (h 16 0)) → (∀ p : Nat, p < i → g 24 p = h 17 p ∧ g 25 p = h 18 p ∧ g 26 p = h 19 p ∧ g 27 p = h 20 p ∧ g 28 p = h 21 p) → ((h 16 0) + 1).toNat - i < nn → WW mX2_copy d (pV P) 10 [some (.inr (.inr 23)), some (.inr (.inr 16)), some (.inl (i : Int))] [] g := by
  intro nn
  induction nn with
  | zero => intro i g hi hg hz hv; intros; omega
  | succ nn ih =>
    intro i g hi hg hz hv hmu
    have e0 : ((i : Int)).toNat = i := Int.toNat_natCast i
    have v1 := hg 17 i (by omega) (by decide) (by decide) (by decide) (by decide) (by decide)
    have v2 := hg 18 i (by omega) (by decide) (by decide) (by decide) (by decide) (by decide)
    have v3 := hg 19 i (by omega) (by decide) (by decide) (by decide) (by decide) (by decide)
    have v4 := hg 20 i (by omega) (by decide) (by decide) (by decide) (by decide) (by decide)
    have v5 := hg 21 i (by omega) (by decide) (by decide) (by decide) (by decide) (by decide)
    refine r_iload_n dX2_copy_10 rfl rfl ?_
    refine r_aload_n dX2_copy_11 rfl rfl ?_
    refine r_getI dX2_copy_12 fl_X2_9 sh_23 rfl ?_
    refine r_icmp_gt (tgt := 84) dX2_copy_15 rfl (by omega) (by omega) (fun c_15 => ?_) (fun c_15 => ?_)
    · refine r_vret dX2_copy_84 rfl ?_
      exact ⟨rfl, k _ ⟨hg, hz, fun p hp => hv p (by omega)⟩⟩
    · refine r_aload_n dX2_copy_18 rfl rfl ?_
      refine r_getR dX2_copy_19 fl_X2_15 sh_23 rfl ?_
      refine r_iload_n dX2_copy_22 rfl rfl ?_
      refine r_aload_n dX2_copy_23 rfl rfl ?_
      refine r_getR dX2_copy_24 fl_X2_15 sh_16 rfl ?_
      refine r_iload_n dX2_copy_27 rfl rfl ?_
      refine r_iald dX2_copy_28 sh_17 (by decide) (by omega) ?_
      refine r_iast dX2_copy_29 sh_24 (by decide) (by omega) ?_
      refine r_aload_n dX2_copy_30 rfl rfl ?_
      refine r_getR dX2_copy_31 fl_X2_19 sh_23 rfl ?_
      refine r_iload_n dX2_copy_34 rfl rfl ?_
      refine r_aload_n dX2_copy_35 rfl rfl ?_
      refine r_getR dX2_copy_36 fl_X2_19 sh_16 rfl ?_
      refine r_iload_n dX2_copy_39 rfl rfl ?_
      refine r_iald dX2_copy_40 sh_18 (by decide) (by omega) ?_
      refine r_eqI (up_nc (by decide)) ?_
      refine r_iast dX2_copy_41 sh_25 (by decide) (by omega) ?_
      refine r_aload_n dX2_copy_42 rfl rfl ?_
      refine r_getR dX2_copy_43 fl_X2_22 sh_23 rfl ?_
      refine r_iload_n dX2_copy_46 rfl rfl ?_
      refine r_aload_n dX2_copy_47 rfl rfl ?_
      refine r_getR dX2_copy_48 fl_X2_22 sh_16 rfl ?_
      refine r_iload_n dX2_copy_51 rfl rfl ?_
      refine r_zald dX2_copy_52 sh_19 (by decide) (by omega) ?_
      refine r_eqI (((up_nc (by decide)).trans (up_nc (by decide)))) ?_
      refine r_zast dX2_copy_53 sh_26 (by decide) (by omega) (by rw [e0, v3]; exact hdn i (by omega)) ?_
      refine r_aload_n dX2_copy_54 rfl rfl ?_
      refine r_getR dX2_copy_55 fl_X2_26 sh_23 rfl ?_
      refine r_iload_n dX2_copy_58 rfl rfl ?_
      refine r_aload_n dX2_copy_59 rfl rfl ?_
      refine r_getR dX2_copy_60 fl_X2_26 sh_16 rfl ?_
      refine r_iload_n dX2_copy_63 rfl rfl ?_
      refine r_iald dX2_copy_64 sh_20 (by decide) (by omega) ?_
      refine r_eqI (((up_nc (by decide)).trans (((up_nc (by decide)).trans (up_nc (by decide)))))) ?_
      refine r_iast dX2_copy_65 sh_27 (by decide) (by omega) ?_
      refine r_aload_n dX2_copy_66 rfl rfl ?_
      refine r_getR dX2_copy_67 fl_X2_29 sh_23 rfl ?_
      refine r_iload_n dX2_copy_70 rfl rfl ?_
      refine r_aload_n dX2_copy_71 rfl rfl ?_
      refine r_getR dX2_copy_72 fl_X2_29 sh_16 rfl ?_
      refine r_iload_n dX2_copy_75 rfl rfl ?_
      refine r_iald dX2_copy_76 sh_21 (by decide) (by omega) ?_
      refine r_eqI (((up_nc (by decide)).trans (((up_nc (by decide)).trans (((up_nc (by decide)).trans (up_nc (by decide)))))))) ?_
      refine r_iast dX2_copy_77 sh_28 (by decide) (by omega) ?_
      refine r_iinc (L' := [_, _, _]) dX2_copy_78 rfl rfl (by decide) rfl ?_
      refine r_goto (tgt := 10) dX2_copy_81 rfl ?_
      refine ih (i + 1) _ (by omega) ?_ ?_ ?_ (by omega)
      · intro a k h1 h2 h3 h4 h5 h6
        rw [up_nc h6, up_nc h5, up_nc h4, up_nc h3, up_nc h2]
        exact hg a k h1 h2 h3 h4 h5 h6
      · exact hz
      · intro p hp
        rw [e0, v1, v2, v3, v4, v5]
        by_cases q : p = i
        · subst q
          simp [upH]
        · have := hv p (by omega)
          simp [upH, q]
          exact this
set_option maxRecDepth 20000 in
set_option maxHeartbeats 400000 in
theorem sp_X2_copy_23_16 {d : Nat} (hd : 1 ≤ d) {h : Hp}  (hn : 0 ≤ (h 16 0) ∧ (h 16 0) ≤ 150) (hdn : ∀ p : Nat, (p : Int) ≤ (h 16 0) → h 19 p = 0 ∨ h 19 p = 1) {P : Hp → Prop} (k : ∀ h' : Hp, (OTHC h h') → P h') : Cl d mX2_copy [.inr (.inr 23), .inr (.inr 16)] h (pV P) := by
  refine Cl.of (L := [some (.inr (.inr 23)), some (.inr (.inr 16)), none]) (by decide +kernel) (Nat.le_of_ble_eq_true rfl) rfl ?_
  refine r_aload_n dX2_copy_0 rfl rfl ?_
  refine r_aload_n dX2_copy_1 rfl rfl ?_
  refine r_getI dX2_copy_2 fl_X2_9 sh_16 rfl ?_
  refine r_putI dX2_copy_5 fl_X2_9 sh_23 rfl ?_
  refine r_iconst dX2_copy_8 ?_
  refine r_istore_n (L' := [_, _, _]) dX2_copy_9 rfl rfl (by decide) rfl ?_
  exact lp_copy hn hdn k 152 0 _ (by omega) (fun a q h1 _ _ _ _ _ => by unfold upH; rw [if_neg h1]) rfl (fun p hp => absurd hp (by omega)) (by omega)
set_option maxRecDepth 20000 in
set_option maxHeartbeats 400000 in
theorem sp_X11_other {d : Nat} (hd : 2 ≤ d) {h : Hp}  (hn : 0 ≤ (h 16 0) ∧ (h 16 0) ≤ 150) (hdn : ∀ p : Nat, (p : Int) ≤ (h 16 0) → h 19 p = 0 ∨ h 19 p = 1) {P : Int → Hp → Prop} (k : ∀ h' : Hp, (OTHC h h') → P ((h 16 0)) h') : Cl d mX11_other [.inr (.inr 0)] h (pI P) := by
  refine Cl.of (L := [some (.inr (.inr 0))]) (by decide +kernel) (Nat.le_of_ble_eq_true rfl) rfl ?_
  obtain ⟨d, rfl⟩ : ∃ q, d = q + 1 := ⟨d - 1, by omega⟩
  refine r_aload_n dX11_other_0 rfl rfl ?_
  refine r_getR dX11_other_1 fl_X11_48 sh_0 rfl ?_
  refine r_aload_n dX11_other_4 rfl rfl ?_
  refine r_getR dX11_other_5 fl_X11_44 sh_0 rfl ?_
  refine r_callVU (av := [_]) (M' := mX2_copy) dX11_other_8 vX2_copy ml_X11_276 sh_23 (by decide) rfl rfl rfl rfl (by simp [wtA]) (sp_X2_copy_23_16 (by omega) hn hdn (fun h_8 f0_8 => ?_))
  refine r_aload_n dX11_other_11 rfl rfl ?_
  refine r_getR dX11_other_12 fl_X11_48 sh_0 rfl ?_
  refine r_getI dX11_other_15 fl_X11_155 sh_23 rfl ?_
  refine r_iret dX11_other_18 rfl ?_
  exact ⟨_, rfl, eqP (k _ f0_8) f0_8.2.1.symm⟩
set_option maxRecDepth 20000 in
set_option maxHeartbeats 400000 in
theorem lp_mother {d : Nat} {P : Int → Hp → Prop} {h : Hp} (hn : 0 ≤ (h 49 29) ∧ (h 49 29) ≤ 150) (hdn : ∀ p : Nat, (p : Int) ≤ (h 49 29) → h 62 p = 0 ∨ h 62 p = 1) (k : ∀ g : Hp, OTHM h g → P (h 49 29) g) : ∀ (nn : Nat) (i : Nat) (g : Hp), ((i : Int) ≤ (h 49 29) + 1) → (∀ a k, ¬ (a = 49 ∧ k = 30) → ¬ ((a = 60 ∨ a = 61 ∨ a = 62) ∧ 151 ≤ k) → g a k = h a k) → (g 49 30 = (h 49 29)) → (∀ p : Nat, p < i → g 60 (151 + p) = h 60 p ∧ g 61 (151 + p) = h 61 p ∧ g 62 (151 + p) = h 62 p) → ((h 49 29) + 1).toNat - i < nn → WW mX12_other d (pI P) 15 [some (.inr (.inr 49)), some (.inl (i : Int))] [] g := by
  intro nn
  induction nn with
  | zero => intro i g hi hg hz hv; intros; omega
  | succ nn ih =>
    intro i g hi hg hz hv hmu
    have e0 : ((i : Int)).toNat = i := Int.toNat_natCast i
    have e1 : (151 + (i : Int)).toNat = 151 + i := by omega
    have wn := hg 49 29 (by decide) (by decide)
    refine r_iload_n dX12_other_15 rfl rfl ?_
    refine r_aload_n dX12_other_16 rfl rfl ?_
    refine r_getI dX12_other_17 fl_X12_164 sh_49 rfl ?_
    refine r_icmp_gt (tgt := 77) dX12_other_20 rfl (by omega) (by omega) (fun c_20 => ?_) (fun c_20 => ?_)
    · refine r_aload_n dX12_other_77 rfl rfl ?_
      refine r_getI dX12_other_78 fl_X12_171 sh_49 rfl ?_
      refine r_iret dX12_other_81 rfl ?_
      exact ⟨_, rfl, eqP (k _ ⟨hg, hz, fun p hp => hv p (by omega)⟩) hz.symm⟩
    · have v1 := hg 60 i (by omega) (by omega)
      have v2 := hg 61 i (by omega) (by omega)
      have v3 := hg 62 i (by omega) (by omega)
      refine r_aload_n dX12_other_23 rfl rfl ?_
      refine r_getR dX12_other_24 fl_X12_59 sh_49 rfl ?_
      refine r_sipush dX12_other_27 (by decide +kernel) ?_
      refine r_iload_n dX12_other_30 rfl rfl ?_
      refine r_iadd dX12_other_31 ?_
      refine r_aload_n dX12_other_32 rfl rfl ?_
      refine r_getR dX12_other_33 fl_X12_59 sh_49 rfl ?_
      refine r_iload_n dX12_other_36 rfl rfl ?_
      refine r_iald dX12_other_37 sh_60 (by decide) (by omega) ?_
      refine r_iast dX12_other_38 sh_60 (by decide) (by omega) ?_
      refine r_aload_n dX12_other_39 rfl rfl ?_
      refine r_getR dX12_other_40 fl_X12_62 sh_49 rfl ?_
      refine r_sipush dX12_other_43 (by decide +kernel) ?_
      refine r_iload_n dX12_other_46 rfl rfl ?_
      refine r_iadd dX12_other_47 ?_
      refine r_aload_n dX12_other_48 rfl rfl ?_
      refine r_getR dX12_other_49 fl_X12_62 sh_49 rfl ?_
      refine r_iload_n dX12_other_52 rfl rfl ?_
      refine r_iald dX12_other_53 sh_61 (by decide) (by omega) ?_
      refine r_eqI (up_nc (by decide)) ?_
      refine r_iast dX12_other_54 sh_61 (by decide) (by omega) ?_
      refine r_aload_n dX12_other_55 rfl rfl ?_
      refine r_getR dX12_other_56 fl_X12_65 sh_49 rfl ?_
      refine r_sipush dX12_other_59 (by decide +kernel) ?_
      refine r_iload_n dX12_other_62 rfl rfl ?_
      refine r_iadd dX12_other_63 ?_
      refine r_aload_n dX12_other_64 rfl rfl ?_
      refine r_getR dX12_other_65 fl_X12_65 sh_49 rfl ?_
      refine r_iload_n dX12_other_68 rfl rfl ?_
      refine r_zald dX12_other_69 sh_62 (by decide) (by omega) ?_
      refine r_eqI (((up_nc (by decide)).trans (up_nc (by decide)))) ?_
      refine r_zast dX12_other_70 sh_62 (by decide) (by omega) (by rw [e0, v3]; exact hdn i (by omega)) ?_
      refine r_iinc (L' := [_, _]) dX12_other_71 rfl rfl (by decide) rfl ?_
      refine r_goto (tgt := 15) dX12_other_74 rfl ?_
      refine ih (i + 1) _ (by omega) ?_ ?_ ?_ (by omega)
      · intro a q h1 h2
        rw [e1, ← hg a q h1 h2]
        unfold upH
        rw [if_neg (by omega), if_neg (by omega), if_neg (by omega)]
      · exact hz
      · intro p hp
        rw [e0, e1, v1, v2, v3]
        by_cases q : p = i
        · subst q
          simp [upH]
        · have := hv p (by omega)
          have q2 : ¬ 151 + p = 151 + i := by omega
          simp only [upH, q2]
          simp
          exact this
set_option maxRecDepth 20000 in
set_option maxHeartbeats 400000 in
theorem sp_X12_other {d : Nat} (hd : 1 ≤ d) {h : Hp}  (hw : MOK h) (hn : 0 ≤ (h 49 29) ∧ (h 49 29) ≤ 150) (hdn : ∀ p : Nat, (p : Int) ≤ (h 49 29) → h 62 p = 0 ∨ h 62 p = 1) {P : Int → Hp → Prop} (k : ∀ g : Hp, (∃ g0, FrM h g0 ∧ OTHM g0 g) → P (h 49 29) g) : Cl d mX12_other [.inr (.inr 49)] h (pI P) := by
  refine Cl.of (L := [some (.inr (.inr 49)), none]) (by decide +kernel) (Nat.le_of_ble_eq_true rfl) rfl ?_
  refine r_aload_n dX12_other_0 rfl rfl ?_
  refine r_iconst dX12_other_1 ?_
  refine r_putI dX12_other_2 fl_X12_127 sh_49 rfl ?_
  refine r_gh (fun g eg => ?_)
  have f : FrM h g := by rw [eg]; exact FrM.rf.up rfl
  have e3 : g 49 3 = h 49 3 := f 49 3 rfl
  have e4 : g 49 4 = h 49 4 := f 49 4 rfl
  have e5 : g 49 5 = h 49 5 := f 49 5 rfl
  have e6 : g 49 6 = h 49 6 := f 49 6 rfl
  have e7 : g 49 7 = h 49 7 := f 49 7 rfl
  have e8 : g 49 8 = h 49 8 := f 49 8 rfl
  have e29 : g 49 29 = h 49 29 := f 49 29 rfl
  have ea62 : g 62 = h 62 := funext fun j => f 62 j rfl
  have w : MOK g := by omega
  refine r_aload_n dX12_other_5 rfl rfl ?_
  refine r_aload_n dX12_other_6 rfl rfl ?_
  refine r_getI dX12_other_7 fl_X12_164 sh_49 rfl ?_
  refine r_putI dX12_other_10 fl_X12_171 sh_49 rfl ?_
  refine r_iconst dX12_other_13 ?_
  refine r_istore_n (L' := [_, _]) dX12_other_14 rfl rfl (by decide) rfl ?_
  exact lp_mother (h := g) (by omega) (by rw [e29, ea62]; exact hdn) (fun g2 q => eqP (k g2 ⟨g, f, q⟩) e29.symm) 152 0 _ (by omega) (fun a q h1 _ => by unfold upH; rw [if_neg h1]) rfl (fun p hp => absurd hp (by omega)) (by omega)
theorem REL.other {h g g0 g2 : Hp} (r : REL h) (C : OTHC h g) (f : FrM g g0) (D : OTHM g0 g2) : REL g2 := by
  obtain ⟨c1, c2, c3⟩ := C
  obtain ⟨d1, d2, d3⟩ := D
  have C1 : ∀ a k, a < 23 ∨ 28 < a → g a k = h a k := fun a k q => c1 a k (by omega) (by omega) (by omega) (by omega) (by omega) (by omega)
  have L : ∀ a k, a < 49 → g2 a k = g a k := fun a k ha => by
    rw [d1 a k (by omega) (by omega)]
    exact f a k (by simp [scrM]; omega)
  have K : ∀ a k, 49 ≤ a → ¬ (a = 49 ∧ k = 30) → ¬ ((a = 60 ∨ a = 61 ∨ a = 62) ∧ 151 ≤ k) → scrM a k = false → g2 a k = h a k := fun a k h0 h1 h2 h4 => by rw [d1 a k h1 h2, f a k h4, C1 a k (by omega)]
  have J : ∀ a k, a < 49 → (a < 23 ∨ 28 < a) → g2 a k = h a k := fun a k h1 h2 => by rw [L a k h1, C1 a k h2]
  have F : ∀ a, a < 49 → g2 a = g a := fun a ha => funext fun k => L a k ha
  have G : ∀ a, a < 49 → (a < 23 ∨ 28 < a) → g2 a = h a := fun a ha hk => funext fun k => J a k ha hk
  have A : ∀ a, 62 < a → (∀ k, scrM a k = false) → g2 a = h a := fun a h0 h3 => funext fun k => K a k (by omega) (by omega) (by omega) (h3 k)
  have n29 : g0 49 29 = h 49 29 := by rw [f 49 29 rfl, C1 49 29 (by omega)]
  have r0 := r
  obtain ⟨r1, r2, r3, r4, r5, r6, r7, r8, r9, r10⟩ := r
  have s29 : g2 49 29 = h 49 29 := K 49 29 (by decide) (by decide) (by decide) rfl
  have P60 : ∀ p : Nat, (p : Int) ≤ h 16 0 → g2 60 p = h 60 p ∧ g2 61 p = h 61 p ∧ g2 62 p = h 62 p := fun p hp => by
    have := r0.n
    exact ⟨K 60 p (by decide) (by omega) (by omega) rfl, K 61 p (by decide) (by omega) (by omega) rfl, K 62 p (by decide) (by omega) (by omega) rfl⟩
  have Q60 : ∀ p : Nat, (p : Int) ≤ h 16 0 → g2 60 (151 + p) = h 60 p ∧ g2 61 (151 + p) = h 61 p ∧ g2 62 (151 + p) = h 62 p := fun p hp => by
    have n := r0.n
    have := d3 p (by omega)
    rw [f 60 p rfl, f 61 p rfl, f 62 p rfl, C1 60 p (by omega), C1 61 p (by omega), C1 62 p (by omega)] at this
    exact this
  refine ⟨?_, ?_, ?_, ?_, ?_, ?_, ?_, ?_, ?_, ?_⟩
  · have := J 1 0 (by decide) (by decide)
    have := J 1 1 (by decide) (by decide)
    have := J 1 2 (by decide) (by decide)
    have := J 1 3 (by decide) (by decide)
    have := J 1 4 (by decide) (by decide)
    have := J 1 5 (by decide) (by decide)
    have := J 1 7 (by decide) (by decide)
    have := K 49 3 (by decide) (by decide) (by decide) rfl
    have := K 49 4 (by decide) (by decide) (by decide) rfl
    have := K 49 5 (by decide) (by decide) (by decide) rfl
    have := K 49 6 (by decide) (by decide) (by decide) rfl
    have := K 49 7 (by decide) (by decide) (by decide) rfl
    have := K 49 8 (by decide) (by decide) (by decide) rfl
    omega
  · simp only [RT, J 2 0 (by decide) (by decide), K 49 1 (by decide) (by decide) (by decide) rfl, G 3 (by decide) (by decide), (show g2 50 = h 50 from funext fun k => K 50 k (by decide) (by omega) (by omega) rfl)]
    exact r2
  · simp only [RF, J 14 2 (by decide) (by decide), J 14 3 (by decide) (by decide), J 0 12 (by decide) (by decide), K 49 10 (by decide) (by decide) (by decide) rfl, K 49 11 (by decide) (by decide) (by decide) rfl, K 49 12 (by decide) (by decide) (by decide) rfl]
    exact r3
  · refine ⟨by rw [s29, J 16 0 (by decide) (by decide)]; exact r4.1, ?_⟩
    rw [J 1 0 (by decide) (by decide), J 1 1 (by decide) (by decide), J 1 2 (by decide) (by decide), J 1 3 (by decide) (by decide), J 16 0 (by decide) (by decide), G 17 (by decide) (by decide), G 18 (by decide) (by decide), G 19 (by decide) (by decide), G 20 (by decide) (by decide), G 21 (by decide) (by decide)]
    refine ⟨r4.2.1, r4.2.2.1, fun p hp => ?_⟩
    have z := r4.2.2.2 p hp
    rw [Nat.zero_add] at z ⊢
    obtain ⟨q1, q2, q3⟩ := P60 p hp
    rw [q1, q2, q3]
    exact z
  · refine ⟨by rw [d2, n29, L 23 0 (by decide), c2]; exact r4.1, ?_⟩
    rw [J 1 0 (by decide) (by decide), J 1 1 (by decide) (by decide), J 1 2 (by decide) (by decide), J 1 3 (by decide) (by decide), L 23 0 (by decide), c2, F 24 (by decide), F 25 (by decide), F 26 (by decide), F 27 (by decide), F 28 (by decide)]
    refine ⟨r4.2.1, r4.2.2.1, fun p hp => ?_⟩
    have z := r4.2.2.2 p hp
    rw [Nat.zero_add] at z
    obtain ⟨q1, q2, q3⟩ := Q60 p hp
    obtain ⟨t1, t2, t3, t4, t5⟩ := c3 p hp
    rw [q1, q2, q3, t1, t2, t3, t4, t5]
    exact z
  · simp only [RS, A 69 (by decide) (fun _ => rfl), G 22 (by decide) (by decide)]
    exact r6
  · simp only [RX, K 49 48 (by decide) (by decide) (by decide) rfl, J 33 0 (by decide) (by decide), J 16 0 (by decide) (by decide), G 36 (by decide) (by decide), G 37 (by decide) (by decide), G 38 (by decide) (by decide), A 70 (by decide) (fun _ => rfl), A 71 (by decide) (fun _ => rfl), A 72 (by decide) (fun _ => rfl)]
    exact r7
  · simp only [RP, J 45 0 (by decide) (by decide), K 49 60 (by decide) (by decide) (by decide) rfl, G 46 (by decide) (by decide), G 47 (by decide) (by decide), A 80 (by decide) (fun _ => rfl)]
    exact r8
  · simp only [RR, J 48 0 (by decide) (by decide), J 48 1 (by decide) (by decide), J 48 2 (by decide) (by decide), J 48 3 (by decide) (by decide), J 16 0 (by decide) (by decide), G 20 (by decide) (by decide), G 21 (by decide) (by decide), K 49 62 (by decide) (by decide) (by decide) rfl, K 49 63 (by decide) (by decide) (by decide) rfl, K 49 64 (by decide) (by decide) (by decide) rfl, K 49 65 (by decide) (by decide) (by decide) rfl]
    exact r9
  · simp only [RK, J 1 0 (by decide) (by decide), J 1 1 (by decide) (by decide), J 1 2 (by decide) (by decide), J 1 3 (by decide) (by decide), J 1 4 (by decide) (by decide), J 1 5 (by decide) (by decide), J 1 8 (by decide) (by decide), (show g2 51 = h 51 from funext fun k => K 51 k (by decide) (by omega) (by omega) rfl)]
    exact r10
theorem pr_other {d : Nat} (hd : 20 ≤ d) : PR d mX11_other mX12_other [] := by
  intro h r
  have n := r.n
  refine sp_X11_other (by omega) ⟨n.1, n.2.1⟩ (fun p hp => r.dn hp) (fun g C => ?_)
  have q : ∀ k, g 49 k = h 49 k := fun k => C.1 49 k (by omega) (by decide) (by decide) (by decide) (by decide) (by decide)
  have m : MOK g := by
    have := q 3
    have := q 4
    have := q 5
    have := q 6
    have := q 7
    have := q 8
    have := r.1
    omega
  have q29 := q 29
  refine sp_X12_other (by omega) m (by omega) (fun p hp => ?_) (fun g2 ⟨g0, f, D⟩ => ⟨by omega, r.other C f D⟩)
  rw [C.1 62 p (by omega) (by decide) (by decide) (by decide) (by decide) (by decide), ← (r.tk (i := p) (by omega)).2.2]
  exact r.dn (by omega)
