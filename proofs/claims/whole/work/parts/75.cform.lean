/-! A FORM OF THE CLASS -/
def foE (x y z sx sy : Int) (X Y : Nat → Int) (b q : Nat) : Q4 := (x + z * X (b + q) + sx, y + z * Y (b + q) + sy, x + z * X (b + q + 1) + sx, y + z * Y (b + q + 1) + sy)
theorem foE_b {x y z sx sy : Int} {X Y : Nat → Int} {b q : Nat} (hx : 0 ≤ x ∧ x ≤ 999) (hy : 0 ≤ y ∧ y ≤ 999) (hz : 0 ≤ z ∧ z ≤ 99) (hs : (-500000 ≤ sx ∧ sx ≤ 500000) ∧ (-500000 ≤ sy ∧ sy ≤ 500000)) (h1 : (0 ≤ X (b + q) ∧ X (b + q) ≤ 99) ∧ (0 ≤ Y (b + q) ∧ Y (b + q) ≤ 99)) (h2 : (0 ≤ X (b + q + 1) ∧ X (b + q + 1) ≤ 99) ∧ (0 ≤ Y (b + q + 1) ∧ Y (b + q + 1) ≤ 99)) : LQ (foE x y z sx sy X Y b q) := by
  have a1 := mulR (a := z) (b := X (b + q)) hz h1.1
  have a2 := mulR (a := z) (b := Y (b + q)) hz h1.2
  have a3 := mulR (a := z) (b := X (b + q + 1)) hz h2.1
  have a4 := mulR (a := z) (b := Y (b + q + 1)) hz h2.2
  unfold foE
  generalize z * X (b + q) = p1 at *
  generalize z * Y (b + q) = p2 at *
  generalize z * X (b + q + 1) = p3 at *
  generalize z * Y (b + q + 1) = p4 at *
  show LnB (x + p1 + sx) (y + p2 + sy) (x + p3 + sx) (y + p4 + sy)
  clear h1 h2
  omega
abbrev B01 (g : Gm) : Prop := g.2.2.2.2 = 0 ∨ g.2.2.2.2 = 1
theorem gmA_01 {x y d : Int} {g : Gm} (h : B01 g) : B01 (gmA x y d g) := by
  unfold gmA
  split
  · exact h
  · exact Or.inr rfl
theorem mv1_01 {x y : Int} {g : Gm} (h : B01 g) : B01 (mv1 x y g) := by
  unfold mv1
  split
  · exact h
  · exact gmA_01 h
theorem liF_01 {w e : Q4} {g : Gm} (h : B01 g) : B01 (liF w e g) := by
  by_cases c : lnN w e
  · rw [liF_n c]; exact h
  · rw [liF_e c]
    unfold mv2
    split
    · exact gmA_01 (mv1_01 h)
    · exact mv1_01 h
theorem FrL.wn {h g : Hp} (f : FrL h g) : wnC g = wnC h := by
  unfold wnC
  rw [f 30 5 (by decide) (by decide) (by decide) (by decide) (by decide) (by decide), f 30 6 (by decide) (by decide) (by decide) (by decide) (by decide) (by decide), f 30 7 (by decide) (by decide) (by decide) (by decide) (by decide) (by decide), f 30 8 (by decide) (by decide) (by decide) (by decide) (by decide) (by decide)]
theorem FrL.tr {h g u : Hp} (f : FrL h g) (f2 : FrL g u) : FrL h u := fun a k z1 z2 z3 z4 z5 z6 => (f2 a k z1 z2 z3 z4 z5 z6).trans (f a k z1 z2 z3 z4 z5 z6)
theorem FrL.rf {h : Hp} : FrL h h := fun _ _ _ _ _ _ _ _ => rfl
set_option maxRecDepth 20000 in
set_option maxHeartbeats 400000 in
theorem lp_cform {d : Nat} (hd : 4 ≤ d) {P : Hp → Prop} {h : Hp} {s x y z : Int} {b c : Nat} {T : Gm} (hc : b + c ≤ 96) (hx : 0 ≤ x ∧ x ≤ 999) (hy : 0 ≤ y ∧ y ≤ 999) (hz : 0 ≤ z ∧ z ≤ 99) (hs : (-500000 ≤ h 30 3 ∧ h 30 3 ≤ 500000) ∧ (-500000 ≤ h 30 4 ∧ h 30 4 ≤ 500000)) (hp : ∀ q : Nat, q < c → (0 ≤ h 12 (b + q) ∧ h 12 (b + q) ≤ 99) ∧ (0 ≤ h 13 (b + q) ∧ h 13 (b + q) ≤ 99)) (hw : WnR (wnC h)) (k : ∀ g : Hp, FrL h g → gmC g = T → P g) : ∀ (nn : Nat) (j m : Nat) (g : Hp), (j + m + 1 = c) → (FrL h g) → (GmR (gmC g)) → (g 30 10 = 0 ∨ g 30 10 = 1) → (itF (wnC h) (foE x y z (h 30 3) (h 30 4) (h 12) (h 13) b) m j (gmC g) = T) → m < nn → WW mX5_drawForm (d + 1) (pV P) 73 [some (.inr (.inr 30)), some (.inl s), some (.inl x), some (.inl y), some (.inl z), some (.inl (b : Int)), some (.inl ((b + c : Nat) : Int)), some (.inl ((b + 1 + j : Nat) : Int))] [] g := by
  intro nn
  induction nn with
  | zero => intro j m g hj gf gr g1 ge; intros; omega
  | succ nn ih =>
    intro j m g hj gf gr g1 ge hmu
    refine r_iload dX5_drawForm_73 rfl ?_
    refine r_iload dX5_drawForm_75 rfl ?_
    refine r_icmp_ge (tgt := 161) dX5_drawForm_77 rfl (by clear ge gr hw; omega) (by clear ge gr hw; omega) (fun c_77 => ?_) (fun c_77 => ?_)
    · refine r_vret dX5_drawForm_161 rfl ?_
      refine ⟨rfl, k g gf ?_⟩
      rw [← ge]
      first
        | (have m0 : m = 0 := by clear ge gr hw; omega
           subst m0
           rfl)
        | exact (itF_f (show ¬ (gmC g).2.2.2.2 = 0 from c_84) m j).symm
    · refine r_aload_n dX5_drawForm_80 rfl rfl ?_
      refine r_getI dX5_drawForm_81 fl_X5_31 sh_30 rfl ?_
      refine r_if_ne (tgt := 161) dX5_drawForm_84 rfl (by clear ge gr hw; omega) (fun c_84 => ?_) (fun c_84 => ?_)
      · refine r_vret dX5_drawForm_161 rfl ?_
        refine ⟨rfl, k g gf ?_⟩
        rw [← ge]
        first
          | (have m0 : m = 0 := by clear ge gr hw; omega
             subst m0
             rfl)
          | exact (itF_f (show ¬ (gmC g).2.2.2.2 = 0 from c_84) m j).symm
      · have i1 : (((b + 1 + j : Nat) : Int) - 1).toNat = b + j := by clear ge gr hw; omega
        have i2 : (((b + 1 + j : Nat) : Int)).toNat = b + j + 1 := by clear ge gr hw; omega
        have p1 : g 12 = h 12 := funext fun q => gf 12 q (fun q => absurd q.1 (by decide)) (by decide) (by decide) (by decide) (fun q => absurd q.1 (by decide)) (by decide)
        have p2 : g 13 = h 13 := funext fun q => gf 13 q (fun q => absurd q.1 (by decide)) (by decide) (by decide) (by decide) (fun q => absurd q.1 (by decide)) (by decide)
        have p3 := gf 30 3 (by decide) (by decide) (by decide) (by decide) (by decide) (by decide)
        have p4 := gf 30 4 (by decide) (by decide) (by decide) (by decide) (by decide) (by decide)
        obtain ⟨m, rfl⟩ : ∃ q, m = q + 1 := ⟨m - 1, by clear ge gr hw; omega⟩
        have lq : LQ ((foE x y z (h 30 3) (h 30 4) (h 12) (h 13) b) j) := foE_b hx hy hz hs (hp j (by clear ge gr hw; omega)) (hp (j + 1) (by clear ge gr hw; omega))
        have f0 : (gmC g).2.2.2.2 = 0 := c_84
        rw [itF, if_pos f0] at ge
        refine r_aload_n dX5_drawForm_87 rfl rfl ?_
        refine r_iload_n dX5_drawForm_88 rfl rfl ?_
        refine r_iload dX5_drawForm_89 rfl ?_
        refine r_aload_n dX5_drawForm_91 rfl rfl ?_
        refine r_getR dX5_drawForm_92 fl_X5_43 sh_30 rfl ?_
        refine r_getR dX5_drawForm_95 fl_X5_118 sh_4 rfl ?_
        refine r_iload dX5_drawForm_98 rfl ?_
        refine r_iconst dX5_drawForm_100 ?_
        refine r_isub dX5_drawForm_101 ?_
        refine r_iald dX5_drawForm_102 sh_12 (by decide) (by clear ge gr hw; omega) ?_
        rw [i1, p1]
        refine r_imul dX5_drawForm_103 ?_
        refine r_iadd dX5_drawForm_104 ?_
        refine r_iload_n dX5_drawForm_105 rfl rfl ?_
        refine r_iload dX5_drawForm_106 rfl ?_
        refine r_aload_n dX5_drawForm_108 rfl rfl ?_
        refine r_getR dX5_drawForm_109 fl_X5_43 sh_30 rfl ?_
        refine r_getR dX5_drawForm_112 fl_X5_121 sh_4 rfl ?_
        refine r_iload dX5_drawForm_115 rfl ?_
        refine r_iconst dX5_drawForm_117 ?_
        refine r_isub dX5_drawForm_118 ?_
        refine r_iald dX5_drawForm_119 sh_13 (by decide) (by clear ge gr hw; omega) ?_
        rw [i1, p2]
        refine r_imul dX5_drawForm_120 ?_
        refine r_iadd dX5_drawForm_121 ?_
        refine r_iload_n dX5_drawForm_122 rfl rfl ?_
        refine r_iload dX5_drawForm_123 rfl ?_
        refine r_aload_n dX5_drawForm_125 rfl rfl ?_
        refine r_getR dX5_drawForm_126 fl_X5_43 sh_30 rfl ?_
        refine r_getR dX5_drawForm_129 fl_X5_118 sh_4 rfl ?_
        refine r_iload dX5_drawForm_132 rfl ?_
        refine r_iald dX5_drawForm_134 sh_12 (by decide) (by clear ge gr hw; omega) ?_
        rw [i2, p1]
        refine r_imul dX5_drawForm_135 ?_
        refine r_iadd dX5_drawForm_136 ?_
        refine r_iload_n dX5_drawForm_137 rfl rfl ?_
        refine r_iload dX5_drawForm_138 rfl ?_
        refine r_aload_n dX5_drawForm_140 rfl rfl ?_
        refine r_getR dX5_drawForm_141 fl_X5_43 sh_30 rfl ?_
        refine r_getR dX5_drawForm_144 fl_X5_121 sh_4 rfl ?_
        refine r_iload dX5_drawForm_147 rfl ?_
        refine r_iald dX5_drawForm_149 sh_13 (by decide) (by clear ge gr hw; omega) ?_
        rw [i2, p2]
        refine r_imul dX5_drawForm_150 ?_
        refine r_iadd dX5_drawForm_151 ?_
        refine r_callVU (av := [_, _, _, _]) (M' := mX5_drawLine) dX5_drawForm_152 vX5_drawLine ml_X5_96 sh_30 (by decide) rfl rfl rfl rfl (by simp [wtA]) (sp_X5_drawLine (by omega) (by rw [p3, p4]; exact lq) (by rw [gf.wn]; exact hw) gr c_84 (fun g2 f2 v2 => ?_))
        refine r_iinc (L' := [_, _, _, _, _, _, _, _]) dX5_drawForm_155 rfl rfl (by decide) rfl ?_
        refine r_goto (tgt := 73) dX5_drawForm_158 rfl ?_
        rw [p3, p4, gf.wn] at v2
        have e2 : gmC g2 = liF (wnC h) ((foE x y z (h 30 3) (h 30 4) (h 12) (h 13) b) j) (gmC g) := v2
        have r2 : GmR (gmC g2) := by rw [e2]; exact gr.li hw
        rw [← e2] at ge
        have b2 : B01 (gmC g2) := by rw [e2]; exact liF_01 g1
        exact ih (j + 1) m g2 (by clear ge gr hw; omega) (gf.tr f2) r2 b2 ge (by clear ge gr hw; omega)
set_option maxRecDepth 20000 in
set_option maxHeartbeats 400000 in
theorem sp_X5_drawForm {d : Nat} (hd : 5 ≤ d) {h : Hp} {s f c : Nat} (hs : s < 60) (hf : h 7 s = f ∧ f < 8) (hc : h 11 f = c ∧ 1 ≤ c ∧ c ≤ 12) (hn : (0 ≤ h 8 (5 * s) ∧ h 8 (5 * s) ≤ 999) ∧ (0 ≤ h 8 (5 * s + 1) ∧ h 8 (5 * s + 1) ≤ 999) ∧ (0 ≤ h 8 (5 * s + 2) ∧ h 8 (5 * s + 2) ≤ 99)) (hsh : (-500000 ≤ h 30 3 ∧ h 30 3 ≤ 500000) ∧ (-500000 ≤ h 30 4 ∧ h 30 4 ≤ 500000)) (hp : ∀ q : Nat, q < c → (0 ≤ h 12 (12 * f + q) ∧ h 12 (12 * f + q) ≤ 99) ∧ (0 ≤ h 13 (12 * f + q) ∧ h 13 (12 * f + q) ≤ 99)) (hw : WnR (wnC h)) (hg : GmR (gmC h)) (h01 : h 30 10 = 0 ∨ h 30 10 = 1) {P : Hp → Prop} (k : ∀ h' : Hp, (FrL h h') → (gmC h' = itF (wnC h) (foE (h 8 (5 * s)) (h 8 (5 * s + 1)) (h 8 (5 * s + 2)) (h 30 3) (h 30 4) (h 12) (h 13) (12 * f)) (c - 1) 0 (gmC h)) → P h') : Cl d mX5_drawForm [.inr (.inr 30), .inl (s : Int)] h (pV P) := by
  refine Cl.of (L := [some (.inr (.inr 30)), some (.inl (s : Int)), none, none, none, none, none, none]) (by decide +kernel) (Nat.le_of_ble_eq_true rfl) rfl ?_
  obtain ⟨d, rfl⟩ : ∃ q, d = q + 1 := ⟨d - 1, by omega⟩
  have i0 : (5 * (s : Int) + 0).toNat = 5 * s := by clear hw hg hp; omega
  have i1 : (5 * (s : Int) + 1).toNat = 5 * s + 1 := by clear hw hg hp; omega
  have i2 : (5 * (s : Int) + 2).toNat = 5 * s + 2 := by clear hw hg hp; omega
  refine r_aload_n dX5_drawForm_0 rfl rfl ?_
  refine r_getR dX5_drawForm_1 fl_X5_43 sh_30 rfl ?_
  refine r_iload_n dX5_drawForm_4 rfl rfl ?_
  refine r_iconst dX5_drawForm_5 ?_
  refine r_callVI (av := [_, _]) (M' := mX7_get) dX5_drawForm_6 vX7_get ml_X5_93 sh_4 (by decide) rfl rfl rfl rfl (by simp [wtA]) (sp_X7_get (by omega) (by clear hw hg hp; omega) (by decide) ?_)
  rw [i0]
  refine r_istore_n (L' := [_, _, _, _, _, _, _, _]) dX5_drawForm_9 rfl rfl (by decide) rfl ?_
  refine r_aload_n dX5_drawForm_10 rfl rfl ?_
  refine r_getR dX5_drawForm_11 fl_X5_43 sh_30 rfl ?_
  refine r_iload_n dX5_drawForm_14 rfl rfl ?_
  refine r_iconst dX5_drawForm_15 ?_
  refine r_callVI (av := [_, _]) (M' := mX7_get) dX5_drawForm_16 vX7_get ml_X5_93 sh_4 (by decide) rfl rfl rfl rfl (by simp [wtA]) (sp_X7_get (by omega) (by clear hw hg hp; omega) (by decide) ?_)
  rw [i1]
  refine r_istore_n (L' := [_, _, _, _, _, _, _, _]) dX5_drawForm_19 rfl rfl (by decide) rfl ?_
  refine r_aload_n dX5_drawForm_20 rfl rfl ?_
  refine r_getR dX5_drawForm_21 fl_X5_43 sh_30 rfl ?_
  refine r_iload_n dX5_drawForm_24 rfl rfl ?_
  refine r_iconst dX5_drawForm_25 ?_
  refine r_callVI (av := [_, _]) (M' := mX7_get) dX5_drawForm_26 vX7_get ml_X5_93 sh_4 (by decide) rfl rfl rfl rfl (by simp [wtA]) (sp_X7_get (by omega) (by clear hw hg hp; omega) (by decide) ?_)
  rw [i2]
  refine r_istore (L' := [_, _, _, _, _, _, _, _]) dX5_drawForm_29 rfl (by decide) rfl ?_
  refine r_bipush dX5_drawForm_31 (by decide +kernel) ?_
  refine r_aload_n dX5_drawForm_33 rfl rfl ?_
  refine r_getR dX5_drawForm_34 fl_X5_43 sh_30 rfl ?_
  refine r_getR dX5_drawForm_37 fl_X5_112 sh_4 rfl ?_
  refine r_iload_n dX5_drawForm_40 rfl rfl ?_
  refine r_iald dX5_drawForm_41 sh_7 (by decide) (by clear hw hg hp; omega) ?_
  rw [Int.toNat_natCast, hf.1]
  refine r_imul dX5_drawForm_42 ?_
  refine r_istore (L' := [_, _, _, _, _, _, _, _]) dX5_drawForm_43 rfl (by decide) rfl ?_
  refine r_iload dX5_drawForm_45 rfl ?_
  refine r_aload_n dX5_drawForm_47 rfl rfl ?_
  refine r_getR dX5_drawForm_48 fl_X5_43 sh_30 rfl ?_
  refine r_getR dX5_drawForm_51 fl_X5_115 sh_4 rfl ?_
  refine r_aload_n dX5_drawForm_54 rfl rfl ?_
  refine r_getR dX5_drawForm_55 fl_X5_43 sh_30 rfl ?_
  refine r_getR dX5_drawForm_58 fl_X5_112 sh_4 rfl ?_
  refine r_iload_n dX5_drawForm_61 rfl rfl ?_
  refine r_iald dX5_drawForm_62 sh_7 (by decide) (by clear hw hg hp; omega) ?_
  rw [Int.toNat_natCast, hf.1]
  refine r_iald dX5_drawForm_63 sh_11 (by decide) (by clear hw hg hp; omega) ?_
  rw [Int.toNat_natCast, hc.1]
  refine r_iadd dX5_drawForm_64 ?_
  refine r_istore (L' := [_, _, _, _, _, _, _, _]) dX5_drawForm_65 rfl (by decide) rfl ?_
  refine r_iload dX5_drawForm_67 rfl ?_
  refine r_iconst dX5_drawForm_69 ?_
  refine r_iadd dX5_drawForm_70 ?_
  refine r_istore (L' := [_, _, _, _, _, _, _, _]) dX5_drawForm_71 rfl (by decide) rfl ?_
  exact lp_cform (h := h) (b := 12 * f) (c := c) (by omega) (by clear hw hg hp; omega) hn.1 hn.2.1 hn.2.2 hsh hp hw (fun g a e => k g a e) (c - 1 + 1) 0 (c - 1) h (by clear hw hg hp; omega) FrL.rf hg h01 rfl (by clear hw hg hp; omega)
