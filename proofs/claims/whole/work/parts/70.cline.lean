theorem gmC_cg {h g : Hp} (f : ∀ a k, a ≠ 31 → g a k = h a k) : gmC g = gmC h := by
  unfold gmC
  rw [f 16 0 (by decide), f 30 10 (by decide), show g 17 = h 17 from funext fun j => f 17 j (by decide), show g 18 = h 18 from funext fun j => f 18 j (by decide), show g 19 = h 19 from funext fun j => f 19 j (by decide)]
theorem gmA_y {x y d : Int} {g : Gm} (h : g.1 < 150) : gmA x y d g = (g.1 + 1, upG g.2.1 (g.1 + 1).toNat x, upG g.2.2.1 (g.1 + 1).toNat y, upG g.2.2.2.1 (g.1 + 1).toNat d, g.2.2.2.2) := if_pos h
theorem gmA_n {x y d : Int} {g : Gm} (h : ¬ g.1 < 150) : gmA x y d g = (g.1, g.2.1, g.2.2.1, g.2.2.2.1, 1) := if_neg h
set_option maxRecDepth 20000 in
set_option maxHeartbeats 400000 in
set_option maxHeartbeats 1000000 in
theorem sp_X5_drawLine {d : Nat} (hd : 3 ≤ d) {x1 y1 x2 y2 : Int} {h : Hp}  (hb : LQ (x1 + h 30 3, y1 + h 30 4, x2 + h 30 3, y2 + h 30 4)) (hw : WnR (wnC h)) (hg : GmR (gmC h)) (hf : h 30 10 = 0) {P : Hp → Prop} (k : ∀ h' : Hp, (FrL h h') → (gmC h' = liF (wnC h) (x1 + h 30 3, y1 + h 30 4, x2 + h 30 3, y2 + h 30 4) (gmC h)) → P h') : Cl d mX5_drawLine [.inr (.inr 30), .inl x1, .inl y1, .inl x2, .inl y2] h (pV P) := by
  refine Cl.of (L := [some (.inr (.inr 30)), some (.inl x1), some (.inl y1), some (.inl x2), some (.inl y2), none]) (by decide +kernel) (Nat.le_of_ble_eq_true rfl) rfl ?_
  obtain ⟨d, rfl⟩ : ∃ q, d = q + 1 := ⟨d - 1, by omega⟩
  generalize he : (x1 + h 30 3, y1 + h 30 4, x2 + h 30 3, y2 + h 30 4) = e at hb k
  have w1 : 0 ≤ h 30 5 ∧ h 30 5 ≤ 999 := hw.1
  have w2 : 0 ≤ h 30 6 ∧ h 30 6 ≤ 999 := hw.2.1
  have w3 : 0 ≤ h 30 7 ∧ h 30 7 ≤ 999 := hw.2.2.1
  have w4 : 0 ≤ h 30 8 ∧ h 30 8 ≤ 999 := hw.2.2.2
  have hm : 0 ≤ h 16 0 ∧ h 16 0 ≤ 150 := hg.1
  have hl : (0 ≤ h 17 (h 16 0).toNat ∧ h 17 (h 16 0).toNat ≤ 2000) ∧ (0 ≤ h 18 (h 16 0).toNat ∧ h 18 (h 16 0).toNat ≤ 2000) := hg.2 (h 16 0).toNat (by show ((h 16 0).toNat : Int) ≤ h 16 0; omega)
  clear hg hw
  refine r_aload_n dX5_drawLine_0 rfl rfl ?_
  refine r_getR dX5_drawLine_1 fl_X5_35 sh_30 rfl ?_
  refine r_iconst dX5_drawLine_4 ?_
  refine r_iload_n dX5_drawLine_5 rfl rfl ?_
  refine r_aload_n dX5_drawLine_6 rfl rfl ?_
  refine r_getI dX5_drawLine_7 fl_X5_7 sh_30 rfl ?_
  refine r_iadd dX5_drawLine_10 ?_
  refine r_iast dX5_drawLine_11 sh_31 (by decide) ⟨by decide, by decide⟩ ?_
  refine r_aload_n dX5_drawLine_12 rfl rfl ?_
  refine r_getR dX5_drawLine_13 fl_X5_35 sh_30 rfl ?_
  refine r_iconst dX5_drawLine_16 ?_
  refine r_iload_n dX5_drawLine_17 rfl rfl ?_
  refine r_aload_n dX5_drawLine_18 rfl rfl ?_
  refine r_getI dX5_drawLine_19 fl_X5_13 sh_30 rfl ?_
  refine r_eqI (up_nc (by decide)) ?_
  refine r_iadd dX5_drawLine_22 ?_
  refine r_iast dX5_drawLine_23 sh_31 (by decide) ⟨by decide, by decide⟩ ?_
  refine r_aload_n dX5_drawLine_24 rfl rfl ?_
  refine r_getR dX5_drawLine_25 fl_X5_35 sh_30 rfl ?_
  refine r_iconst dX5_drawLine_28 ?_
  refine r_iload_n dX5_drawLine_29 rfl rfl ?_
  refine r_aload_n dX5_drawLine_30 rfl rfl ?_
  refine r_getI dX5_drawLine_31 fl_X5_7 sh_30 rfl ?_
  refine r_eqI (((up_nc (by decide)).trans (up_nc (by decide)))) ?_
  refine r_iadd dX5_drawLine_34 ?_
  refine r_iast dX5_drawLine_35 sh_31 (by decide) ⟨by decide, by decide⟩ ?_
  refine r_aload_n dX5_drawLine_36 rfl rfl ?_
  refine r_getR dX5_drawLine_37 fl_X5_35 sh_30 rfl ?_
  refine r_iconst dX5_drawLine_40 ?_
  refine r_iload dX5_drawLine_41 rfl ?_
  refine r_aload_n dX5_drawLine_43 rfl rfl ?_
  refine r_getI dX5_drawLine_44 fl_X5_13 sh_30 rfl ?_
  refine r_eqI (((up_nc (by decide)).trans (((up_nc (by decide)).trans (up_nc (by decide)))))) ?_
  refine r_iadd dX5_drawLine_47 ?_
  refine r_iast dX5_drawLine_48 sh_31 (by decide) ⟨by decide, by decide⟩ ?_
  refine r_gh (fun g0 eg => ?_)
  have q0 : EQ g0 e := by rw [← he, eg]; exact ⟨rfl, rfl, rfl, rfl⟩
  have gf0 : ∀ a k, a ≠ 31 → g0 a k = h a k := fun a k z => by rw [eg, up_nc z, up_nc z, up_nc z, up_nc z]
  clear eg
  refine r_aload_n dX5_drawLine_49 rfl rfl ?_
  refine r_iconst dX5_drawLine_50 ?_
  refine r_aload_n dX5_drawLine_51 rfl rfl ?_
  refine r_getI dX5_drawLine_52 fl_X5_16 sh_30 rfl ?_
  rw [gf0 30 5 (by decide)]
  refine r_iconst dX5_drawLine_55 ?_
  refine r_callVI (av := [_, _, _]) (M' := mX5_cut) dX5_drawLine_56 vX5_cut ml_X5_138 sh_30 (by decide) rfl rfl rfl rfl (by simp [wtA]) (sp_cut_0_l (sd := h 30 5) (by omega) (by rw [q0.1, q0.2.1, q0.2.2.1, q0.2.2.2]; exact hb) (by omega) (fun n1 => ?_) (fun g1 f1 v1 m1 => ?_))
  · refine r_if_eq (tgt := 105) dX5_drawLine_59 rfl ⟨by decide, by decide⟩ (fun c_59 => ?_) (fun c_59 => absurd c_59 (by decide))
    refine r_iconst dX5_drawLine_105 ?_
    refine r_istore (L' := [_, _, _, _, _, _]) dX5_drawLine_106 rfl (by decide) rfl ?_
    refine r_iload dX5_drawLine_108 rfl ?_
    refine r_if_ne (tgt := 114) dX5_drawLine_110 rfl ⟨by decide, by decide⟩ (fun c_110 => absurd c_110 (by decide)) (fun c_110 => ?_)
    refine r_vret dX5_drawLine_113 rfl ?_
    rw [q0.1, q0.2.2.1] at n1
    exact ⟨rfl, k _ (fun a k _ _ _ _ _ z => gf0 a k z) (by rw [liF_n (show lnN (wnC h) e from Or.inl n1)]; exact gmC_cg gf0)⟩
  · refine r_if_eq (tgt := 105) dX5_drawLine_59 rfl ⟨by decide, by decide⟩ (fun c_59 => absurd c_59 (by decide)) (fun c_59 => ?_)
    rw [q0.1, q0.2.1, q0.2.2.1, q0.2.2.2] at v1
    rw [q0.1, q0.2.2.1] at m1
    have q1 : EQ g1 (cX 1 (h 30 5) e) := ⟨v1.1, v1.2.2.1, v1.2.1, v1.2.2.2⟩
    have b1 : LQ (cX 1 (h 30 5) e) := LQ.x hb (Or.inl rfl) m1
    have gf1 : ∀ a k, a ≠ 31 → g1 a k = h a k := fun a k z => (f1 a k z).trans (gf0 a k z)
    clear v1 f1
    refine r_aload_n dX5_drawLine_62 rfl rfl ?_
    refine r_iconst dX5_drawLine_63 ?_
    refine r_aload_n dX5_drawLine_64 rfl rfl ?_
    refine r_getI dX5_drawLine_65 fl_X5_22 sh_30 rfl ?_
    rw [gf1 30 7 (by decide)]
    refine r_iconst dX5_drawLine_68 ?_
    refine r_callVI (av := [_, _, _]) (M' := mX5_cut) dX5_drawLine_69 vX5_cut ml_X5_138 sh_30 (by decide) rfl rfl rfl rfl (by simp [wtA]) (sp_cut_0_h (sd := h 30 7) (by omega) (by rw [q1.1, q1.2.1, q1.2.2.1, q1.2.2.2]; exact b1) (by omega) (fun n2 => ?_) (fun g2 f2 v2 m2 => ?_))
    · refine r_if_eq (tgt := 105) dX5_drawLine_72 rfl ⟨by decide, by decide⟩ (fun c_72 => ?_) (fun c_72 => absurd c_72 (by decide))
      refine r_iconst dX5_drawLine_105 ?_
      refine r_istore (L' := [_, _, _, _, _, _]) dX5_drawLine_106 rfl (by decide) rfl ?_
      refine r_iload dX5_drawLine_108 rfl ?_
      refine r_if_ne (tgt := 114) dX5_drawLine_110 rfl ⟨by decide, by decide⟩ (fun c_110 => absurd c_110 (by decide)) (fun c_110 => ?_)
      refine r_vret dX5_drawLine_113 rfl ?_
      rw [q1.1, q1.2.2.1] at n2
      exact ⟨rfl, k _ (fun a k _ _ _ _ _ z => gf1 a k z) (by rw [liF_n (show lnN (wnC h) e from Or.inr (Or.inl n2))]; exact gmC_cg gf1)⟩
    · refine r_if_eq (tgt := 105) dX5_drawLine_72 rfl ⟨by decide, by decide⟩ (fun c_72 => absurd c_72 (by decide)) (fun c_72 => ?_)
      rw [q1.1, q1.2.1, q1.2.2.1, q1.2.2.2] at v2
      rw [q1.1, q1.2.2.1] at m2
      have q2 : EQ g2 (cX (-1) (h 30 7) (cX 1 (h 30 5) e)) := ⟨v2.1, v2.2.2.1, v2.2.1, v2.2.2.2⟩
      have b2 : LQ (cX (-1) (h 30 7) (cX 1 (h 30 5) e)) := LQ.x b1 (Or.inr rfl) m2
      have gf2 : ∀ a k, a ≠ 31 → g2 a k = h a k := fun a k z => (f2 a k z).trans (gf1 a k z)
      clear v2 f2
      refine r_aload_n dX5_drawLine_75 rfl rfl ?_
      refine r_iconst dX5_drawLine_76 ?_
      refine r_aload_n dX5_drawLine_77 rfl rfl ?_
      refine r_getI dX5_drawLine_78 fl_X5_19 sh_30 rfl ?_
      rw [gf2 30 6 (by decide)]
      refine r_iconst dX5_drawLine_81 ?_
      refine r_callVI (av := [_, _, _]) (M' := mX5_cut) dX5_drawLine_82 vX5_cut ml_X5_138 sh_30 (by decide) rfl rfl rfl rfl (by simp [wtA]) (sp_cut_1_l (sd := h 30 6) (by omega) (by rw [q2.1, q2.2.1, q2.2.2.1, q2.2.2.2]; exact b2) (by omega) (fun n3 => ?_) (fun g3 f3 v3 m3 => ?_))
      · refine r_if_eq (tgt := 105) dX5_drawLine_85 rfl ⟨by decide, by decide⟩ (fun c_85 => ?_) (fun c_85 => absurd c_85 (by decide))
        refine r_iconst dX5_drawLine_105 ?_
        refine r_istore (L' := [_, _, _, _, _, _]) dX5_drawLine_106 rfl (by decide) rfl ?_
        refine r_iload dX5_drawLine_108 rfl ?_
        refine r_if_ne (tgt := 114) dX5_drawLine_110 rfl ⟨by decide, by decide⟩ (fun c_110 => absurd c_110 (by decide)) (fun c_110 => ?_)
        refine r_vret dX5_drawLine_113 rfl ?_
        rw [q2.2.1, q2.2.2.2] at n3
        exact ⟨rfl, k _ (fun a k _ _ _ _ _ z => gf2 a k z) (by rw [liF_n (show lnN (wnC h) e from Or.inr (Or.inr (Or.inl n3)))]; exact gmC_cg gf2)⟩
      · refine r_if_eq (tgt := 105) dX5_drawLine_85 rfl ⟨by decide, by decide⟩ (fun c_85 => absurd c_85 (by decide)) (fun c_85 => ?_)
        rw [q2.1, q2.2.1, q2.2.2.1, q2.2.2.2] at v3
        rw [q2.2.1, q2.2.2.2] at m3
        have q3 : EQ g3 (cY 1 (h 30 6) (cX (-1) (h 30 7) (cX 1 (h 30 5) e))) := ⟨v3.2.2.1, v3.1, v3.2.2.2, v3.2.1⟩
        have b3 : LQ (cY 1 (h 30 6) (cX (-1) (h 30 7) (cX 1 (h 30 5) e))) := LQ.y b2 (Or.inl rfl) m3
        have gf3 : ∀ a k, a ≠ 31 → g3 a k = h a k := fun a k z => (f3 a k z).trans (gf2 a k z)
        clear v3 f3
        refine r_aload_n dX5_drawLine_88 rfl rfl ?_
        refine r_iconst dX5_drawLine_89 ?_
        refine r_aload_n dX5_drawLine_90 rfl rfl ?_
        refine r_getI dX5_drawLine_91 fl_X5_25 sh_30 rfl ?_
        rw [gf3 30 8 (by decide)]
        refine r_iconst dX5_drawLine_94 ?_
        refine r_callVI (av := [_, _, _]) (M' := mX5_cut) dX5_drawLine_95 vX5_cut ml_X5_138 sh_30 (by decide) rfl rfl rfl rfl (by simp [wtA]) (sp_cut_1_h (sd := h 30 8) (by omega) (by rw [q3.1, q3.2.1, q3.2.2.1, q3.2.2.2]; exact b3) (by omega) (fun n4 => ?_) (fun g4 f4 v4 m4 => ?_))
        · refine r_if_eq (tgt := 105) dX5_drawLine_98 rfl ⟨by decide, by decide⟩ (fun c_98 => ?_) (fun c_98 => absurd c_98 (by decide))
          refine r_iconst dX5_drawLine_105 ?_
          refine r_istore (L' := [_, _, _, _, _, _]) dX5_drawLine_106 rfl (by decide) rfl ?_
          refine r_iload dX5_drawLine_108 rfl ?_
          refine r_if_ne (tgt := 114) dX5_drawLine_110 rfl ⟨by decide, by decide⟩ (fun c_110 => absurd c_110 (by decide)) (fun c_110 => ?_)
          refine r_vret dX5_drawLine_113 rfl ?_
          rw [q3.2.1, q3.2.2.2] at n4
          exact ⟨rfl, k _ (fun a k _ _ _ _ _ z => gf3 a k z) (by rw [liF_n (show lnN (wnC h) e from Or.inr (Or.inr (Or.inr n4)))]; exact gmC_cg gf3)⟩
        · refine r_if_eq (tgt := 105) dX5_drawLine_98 rfl ⟨by decide, by decide⟩ (fun c_98 => absurd c_98 (by decide)) (fun c_98 => ?_)
          rw [q3.1, q3.2.1, q3.2.2.1, q3.2.2.2] at v4
          rw [q3.2.1, q3.2.2.2] at m4
          have q4 : EQ g4 (cY (-1) (h 30 8) (cY 1 (h 30 6) (cX (-1) (h 30 7) (cX 1 (h 30 5) e)))) := ⟨v4.2.2.1, v4.1, v4.2.2.2, v4.2.1⟩
          have b4 : LQ (cY (-1) (h 30 8) (cY 1 (h 30 6) (cX (-1) (h 30 7) (cX 1 (h 30 5) e)))) := LQ.y b3 (Or.inr rfl) m4
          have gf4 : ∀ a k, a ≠ 31 → g4 a k = h a k := fun a k z => (f4 a k z).trans (gf3 a k z)
          clear v4 f4
          refine r_iconst dX5_drawLine_101 ?_
          refine r_goto (tgt := 106) dX5_drawLine_102 rfl ?_
          refine r_istore (L' := [_, _, _, _, _, _]) dX5_drawLine_106 rfl (by decide) rfl ?_
          refine r_iload dX5_drawLine_108 rfl ?_
          refine r_if_ne (tgt := 114) dX5_drawLine_110 rfl ⟨by decide, by decide⟩ (fun c_110 => ?_) (fun c_110 => absurd c_110 (by decide))
          have nl : ¬ lnN (wnC h) e := by
            rintro (z | z | z | z)
            · exact m1 z
            · exact m2 z
            · exact m3 z
            · exact m4 z
          have ke : liF (wnC h) e (gmC h) = mv2 (cY (-1) (h 30 8) (cY 1 (h 30 6) (cX (-1) (h 30 7) (cX 1 (h 30 5) e)))) (gmC h) := liF_e nl
          rw [ke] at k
          have ib0 := lnE_in nl
          have ib : (h 30 5 ≤ (cY (-1) (h 30 8) (cY 1 (h 30 6) (cX (-1) (h 30 7) (cX 1 (h 30 5) e)))).1 ∧ (cY (-1) (h 30 8) (cY 1 (h 30 6) (cX (-1) (h 30 7) (cX 1 (h 30 5) e)))).1 ≤ h 30 7) ∧ (h 30 6 ≤ (cY (-1) (h 30 8) (cY 1 (h 30 6) (cX (-1) (h 30 7) (cX 1 (h 30 5) e)))).2.1 ∧ (cY (-1) (h 30 8) (cY 1 (h 30 6) (cX (-1) (h 30 7) (cX 1 (h 30 5) e)))).2.1 ≤ h 30 8) ∧ (h 30 5 ≤ (cY (-1) (h 30 8) (cY 1 (h 30 6) (cX (-1) (h 30 7) (cX 1 (h 30 5) e)))).2.2.1 ∧ (cY (-1) (h 30 8) (cY 1 (h 30 6) (cX (-1) (h 30 7) (cX 1 (h 30 5) e)))).2.2.1 ≤ h 30 7) ∧ (h 30 6 ≤ (cY (-1) (h 30 8) (cY 1 (h 30 6) (cX (-1) (h 30 7) (cX 1 (h 30 5) e)))).2.2.2 ∧ (cY (-1) (h 30 8) (cY 1 (h 30 6) (cX (-1) (h 30 7) (cX 1 (h 30 5) e)))).2.2.2 ≤ h 30 8) := ib0
          clear ib0 nl ke m1 m2 m3 m4 b1 b2 b3 b4 q0 q1 q2 q3 gf0 gf1 gf2 gf3
          generalize cY (-1) (h 30 8) (cY 1 (h 30 6) (cX (-1) (h 30 7) (cX 1 (h 30 5) e))) = t at *
          have gm4 := gmC_cg gf4
          have m16 := gf4 16 0 (by decide)
          have f30 := gf4 30 10 (by decide)
          have l17 : g4 17 (g4 16 0).toNat = h 17 (h 16 0).toNat := by rw [m16]; exact gf4 17 _ (by decide)
          have l18 : g4 18 (g4 16 0).toNat = h 18 (h 16 0).toNat := by rw [m16]; exact gf4 18 _ (by decide)
          refine r_aload_n dX5_drawLine_114 rfl rfl ?_
          refine r_getR dX5_drawLine_115 fl_X5_47 sh_30 rfl ?_
          refine r_aload_n dX5_drawLine_118 rfl rfl ?_
          refine r_getR dX5_drawLine_119 fl_X5_35 sh_30 rfl ?_
          refine r_iconst dX5_drawLine_122 ?_
          refine r_iald dX5_drawLine_123 sh_31 (by decide) ⟨by decide, by decide⟩ ?_
          refine r_eqI (y := t.1) q4.1 ?_
          refine r_aload_n dX5_drawLine_124 rfl rfl ?_
          refine r_getR dX5_drawLine_125 fl_X5_35 sh_30 rfl ?_
          refine r_iconst dX5_drawLine_128 ?_
          refine r_iald dX5_drawLine_129 sh_31 (by decide) ⟨by decide, by decide⟩ ?_
          refine r_eqI (y := t.2.1) q4.2.1 ?_
          refine r_callVI (av := [_, _]) (M' := mX2_penIsAt) dX5_drawLine_130 vX2_penIsAt ml_X5_130 sh_16 (by decide) rfl rfl rfl rfl (by simp [wtA]) (sp_penAt (by omega) (by omega) (by rw [l17, l18]; exact ⟨by omega, by omega⟩) ⟨by omega, by omega⟩ (fun pt => ?_) (fun pt => ?_))
          · refine r_if_ne (tgt := 168) dX5_drawLine_133 rfl ⟨by decide, by decide⟩ (fun c_133 => ?_) (fun c_133 => absurd c_133 (by decide))
            refine r_gh (fun g6 e6 => ?_)
            have f6 : g6 30 10 = 0 := by rw [e6]; omega
            have q6 : EQ g6 t := by rw [e6]; exact q4
            have gm6 : gmC g6 = mv1 t.1 t.2.1 (gmC h) := by
              rw [e6, gm4]
              unfold mv1
              rw [l17, l18] at pt
              rw [if_pos (show gmP t.1 t.2.1 (gmC h) from pt)]
            have fr6 : FrL h g6 := fun a k _ _ _ _ _ z => by rw [e6]; exact gf4 a k z
            have m6 : 0 ≤ g6 16 0 ∧ g6 16 0 ≤ 150 := by rw [e6]; omega
            clear e6
            refine r_aload_n dX5_drawLine_168 rfl rfl ?_
            refine r_getI dX5_drawLine_169 fl_X5_31 sh_30 rfl ?_
            refine r_if_ne (tgt := 237) dX5_drawLine_172 rfl (by omega) (fun c_172 => absurd f6 c_172) (fun c_172 => ?_)
            refine r_aload_n dX5_drawLine_175 rfl rfl ?_
            refine r_getR dX5_drawLine_176 fl_X5_35 sh_30 rfl ?_
            refine r_iconst dX5_drawLine_179 ?_
            refine r_iald dX5_drawLine_180 sh_31 (by decide) ⟨by decide, by decide⟩ ?_
            refine r_eqI (y := t.1) q6.1 ?_
            refine r_aload_n dX5_drawLine_181 rfl rfl ?_
            refine r_getR dX5_drawLine_182 fl_X5_35 sh_30 rfl ?_
            refine r_iconst dX5_drawLine_185 ?_
            refine r_iald dX5_drawLine_186 sh_31 (by decide) ⟨by decide, by decide⟩ ?_
            refine r_eqI (y := t.2.2.1) q6.2.2.1 ?_
            refine r_icmp_ne (tgt := 205) dX5_drawLine_187 rfl (by omega) (by omega) (fun c_187 => ?_) (fun c_187 => ?_)
            · refine r_aload_n dX5_drawLine_205 rfl rfl ?_
              refine r_aload_n dX5_drawLine_206 rfl rfl ?_
              refine r_getR dX5_drawLine_207 fl_X5_47 sh_30 rfl ?_
              refine r_aload_n dX5_drawLine_210 rfl rfl ?_
              refine r_getR dX5_drawLine_211 fl_X5_35 sh_30 rfl ?_
              refine r_iconst dX5_drawLine_214 ?_
              refine r_iald dX5_drawLine_215 sh_31 (by decide) ⟨by decide, by decide⟩ ?_
              refine r_eqI (y := t.2.2.1) q6.2.2.1 ?_
              refine r_aload_n dX5_drawLine_216 rfl rfl ?_
              refine r_getR dX5_drawLine_217 fl_X5_35 sh_30 rfl ?_
              refine r_iconst dX5_drawLine_220 ?_
              refine r_iald dX5_drawLine_221 sh_31 (by decide) ⟨by decide, by decide⟩ ?_
              refine r_eqI (y := t.2.2.2) q6.2.2.2 ?_
              refine r_iconst dX5_drawLine_222 ?_
              refine r_callVI (av := [_, _, _]) (M' := mX2_append) dX5_drawLine_223 vX2_append ml_X5_134 sh_16 (by decide) rfl rfl rfl rfl (by simp [wtA]) (sp_append_1 (by omega) m6 (fun g7 f7 v7 => ?_) (fun v7 => ?_))
              · refine r_if_ne (tgt := 233) dX5_drawLine_226 rfl ⟨by decide, by decide⟩ (fun c_226 => ?_) (fun c_226 => absurd c_226 (by decide))
                refine r_iconst dX5_drawLine_233 ?_
                refine r_putZ dX5_drawLine_234 fl_X5_31 sh_30 rfl (.inl rfl) ?_
                refine r_vret dX5_drawLine_237 rfl ?_
                have ne2 : ¬ (t.1 = t.2.2.1 ∧ t.2.1 = t.2.2.2) := fun z => by omega
                have fz : (mv1 t.1 t.2.1 (gmC h)).2.2.2.2 = 0 := by rw [← gm6]; exact f6
                refine ⟨rfl, k _ (fun a k z1 z2 z3 z4 z5 z6 => ?_) ?_⟩
                · have e1 : upH g7 30 10 0 a k = g7 a k := by unfold upH; rw [if_neg z5]
                  rw [e1, f7 a k z1 z2 z3 z4]
                  exact fr6 a k z1 z2 z3 z4 z5 z6
                · unfold mv2
                  rw [if_pos ⟨fz, ne2⟩, ← gm6, gmA_y v7.1]
                  unfold gmC
                  rw [up_nc (by decide), upH_f (by decide), upH_f (by decide), upH_f (by decide), up_s, v7.2.1, v7.2.2.1, v7.2.2.2.1, v7.2.2.2.2, f6]
              · refine r_if_ne (tgt := 233) dX5_drawLine_226 rfl ⟨by decide, by decide⟩ (fun c_226 => absurd c_226 (by decide)) (fun c_226 => ?_)
                refine r_iconst dX5_drawLine_229 ?_
                refine r_goto (tgt := 234) dX5_drawLine_230 rfl ?_
                refine r_putZ dX5_drawLine_234 fl_X5_31 sh_30 rfl (.inr rfl) ?_
                refine r_vret dX5_drawLine_237 rfl ?_
                have ne2 : ¬ (t.1 = t.2.2.1 ∧ t.2.1 = t.2.2.2) := fun z => by omega
                have fz : (mv1 t.1 t.2.1 (gmC h)).2.2.2.2 = 0 := by rw [← gm6]; exact f6
                refine ⟨rfl, k _ (fun a k z1 z2 z3 z4 z5 z6 => ?_) ?_⟩
                · have e1 : upH g6 30 10 1 a k = g6 a k := by unfold upH; rw [if_neg z5]
                  rw [e1]
                  exact fr6 a k z1 z2 z3 z4 z5 z6
                · unfold mv2
                  rw [if_pos ⟨fz, ne2⟩, ← gm6, gmA_n v7]
                  unfold gmC
                  rw [up_nc (by decide), upH_f (by decide), upH_f (by decide), upH_f (by decide), up_s]
            · refine r_aload_n dX5_drawLine_190 rfl rfl ?_
              refine r_getR dX5_drawLine_191 fl_X5_35 sh_30 rfl ?_
              refine r_iconst dX5_drawLine_194 ?_
              refine r_iald dX5_drawLine_195 sh_31 (by decide) ⟨by decide, by decide⟩ ?_
              refine r_eqI (y := t.2.1) q6.2.1 ?_
              refine r_aload_n dX5_drawLine_196 rfl rfl ?_
              refine r_getR dX5_drawLine_197 fl_X5_35 sh_30 rfl ?_
              refine r_iconst dX5_drawLine_200 ?_
              refine r_iald dX5_drawLine_201 sh_31 (by decide) ⟨by decide, by decide⟩ ?_
              refine r_eqI (y := t.2.2.2) q6.2.2.2 ?_
              refine r_icmp_eq (tgt := 237) dX5_drawLine_202 rfl (by omega) (by omega) (fun c_202 => ?_) (fun c_202 => ?_)
              · refine r_vret dX5_drawLine_237 rfl ?_
                have eq2 : t.1 = t.2.2.1 ∧ t.2.1 = t.2.2.2 := ⟨by omega, by omega⟩
                refine ⟨rfl, k _ fr6 ?_⟩
                rw [gm6]
                unfold mv2
                rw [if_neg (fun z => z.2 eq2)]
              · refine r_aload_n dX5_drawLine_205 rfl rfl ?_
                refine r_aload_n dX5_drawLine_206 rfl rfl ?_
                refine r_getR dX5_drawLine_207 fl_X5_47 sh_30 rfl ?_
                refine r_aload_n dX5_drawLine_210 rfl rfl ?_
                refine r_getR dX5_drawLine_211 fl_X5_35 sh_30 rfl ?_
                refine r_iconst dX5_drawLine_214 ?_
                refine r_iald dX5_drawLine_215 sh_31 (by decide) ⟨by decide, by decide⟩ ?_
                refine r_eqI (y := t.2.2.1) q6.2.2.1 ?_
                refine r_aload_n dX5_drawLine_216 rfl rfl ?_
                refine r_getR dX5_drawLine_217 fl_X5_35 sh_30 rfl ?_
                refine r_iconst dX5_drawLine_220 ?_
                refine r_iald dX5_drawLine_221 sh_31 (by decide) ⟨by decide, by decide⟩ ?_
                refine r_eqI (y := t.2.2.2) q6.2.2.2 ?_
                refine r_iconst dX5_drawLine_222 ?_
                refine r_callVI (av := [_, _, _]) (M' := mX2_append) dX5_drawLine_223 vX2_append ml_X5_134 sh_16 (by decide) rfl rfl rfl rfl (by simp [wtA]) (sp_append_1 (by omega) m6 (fun g7 f7 v7 => ?_) (fun v7 => ?_))
                · refine r_if_ne (tgt := 233) dX5_drawLine_226 rfl ⟨by decide, by decide⟩ (fun c_226 => ?_) (fun c_226 => absurd c_226 (by decide))
                  refine r_iconst dX5_drawLine_233 ?_
                  refine r_putZ dX5_drawLine_234 fl_X5_31 sh_30 rfl (.inl rfl) ?_
                  refine r_vret dX5_drawLine_237 rfl ?_
                  have ne2 : ¬ (t.1 = t.2.2.1 ∧ t.2.1 = t.2.2.2) := fun z => by omega
                  have fz : (mv1 t.1 t.2.1 (gmC h)).2.2.2.2 = 0 := by rw [← gm6]; exact f6
                  refine ⟨rfl, k _ (fun a k z1 z2 z3 z4 z5 z6 => ?_) ?_⟩
                  · have e1 : upH g7 30 10 0 a k = g7 a k := by unfold upH; rw [if_neg z5]
                    rw [e1, f7 a k z1 z2 z3 z4]
                    exact fr6 a k z1 z2 z3 z4 z5 z6
                  · unfold mv2
                    rw [if_pos ⟨fz, ne2⟩, ← gm6, gmA_y v7.1]
                    unfold gmC
                    rw [up_nc (by decide), upH_f (by decide), upH_f (by decide), upH_f (by decide), up_s, v7.2.1, v7.2.2.1, v7.2.2.2.1, v7.2.2.2.2, f6]
                · refine r_if_ne (tgt := 233) dX5_drawLine_226 rfl ⟨by decide, by decide⟩ (fun c_226 => absurd c_226 (by decide)) (fun c_226 => ?_)
                  refine r_iconst dX5_drawLine_229 ?_
                  refine r_goto (tgt := 234) dX5_drawLine_230 rfl ?_
                  refine r_putZ dX5_drawLine_234 fl_X5_31 sh_30 rfl (.inr rfl) ?_
                  refine r_vret dX5_drawLine_237 rfl ?_
                  have ne2 : ¬ (t.1 = t.2.2.1 ∧ t.2.1 = t.2.2.2) := fun z => by omega
                  have fz : (mv1 t.1 t.2.1 (gmC h)).2.2.2.2 = 0 := by rw [← gm6]; exact f6
                  refine ⟨rfl, k _ (fun a k z1 z2 z3 z4 z5 z6 => ?_) ?_⟩
                  · have e1 : upH g6 30 10 1 a k = g6 a k := by unfold upH; rw [if_neg z5]
                    rw [e1]
                    exact fr6 a k z1 z2 z3 z4 z5 z6
                  · unfold mv2
                    rw [if_pos ⟨fz, ne2⟩, ← gm6, gmA_n v7]
                    unfold gmC
                    rw [up_nc (by decide), upH_f (by decide), upH_f (by decide), upH_f (by decide), up_s]
          · refine r_if_ne (tgt := 168) dX5_drawLine_133 rfl ⟨by decide, by decide⟩ (fun c_133 => absurd c_133 (by decide)) (fun c_133 => ?_)
            refine r_aload_n dX5_drawLine_136 rfl rfl ?_
            refine r_aload_n dX5_drawLine_137 rfl rfl ?_
            refine r_getR dX5_drawLine_138 fl_X5_47 sh_30 rfl ?_
            refine r_aload_n dX5_drawLine_141 rfl rfl ?_
            refine r_getR dX5_drawLine_142 fl_X5_35 sh_30 rfl ?_
            refine r_iconst dX5_drawLine_145 ?_
            refine r_iald dX5_drawLine_146 sh_31 (by decide) ⟨by decide, by decide⟩ ?_
            refine r_eqI (y := t.1) q4.1 ?_
            refine r_aload_n dX5_drawLine_147 rfl rfl ?_
            refine r_getR dX5_drawLine_148 fl_X5_35 sh_30 rfl ?_
            refine r_iconst dX5_drawLine_151 ?_
            refine r_iald dX5_drawLine_152 sh_31 (by decide) ⟨by decide, by decide⟩ ?_
            refine r_eqI (y := t.2.1) q4.2.1 ?_
            refine r_iconst dX5_drawLine_153 ?_
            refine r_callVI (av := [_, _, _]) (M' := mX2_append) dX5_drawLine_154 vX2_append ml_X5_134 sh_16 (by decide) rfl rfl rfl rfl (by simp [wtA]) (sp_append_0 (by omega) (by omega) (fun g5 f5 v5 => ?_) (fun v5 => ?_))
            · refine r_if_ne (tgt := 164) dX5_drawLine_157 rfl ⟨by decide, by decide⟩ (fun c_157 => ?_) (fun c_157 => absurd c_157 (by decide))
              refine r_iconst dX5_drawLine_164 ?_
              refine r_putZ dX5_drawLine_165 fl_X5_31 sh_30 rfl (.inl rfl) ?_
              rw [l17, l18] at pt
              have gmv : mv1 t.1 t.2.1 (gmC h) = gmA t.1 t.2.1 0 (gmC h) := if_neg (show ¬ gmP t.1 t.2.1 (gmC h) from pt)
              refine r_gh (fun g6 e6 => ?_)
              have f6 : g6 30 10 = 0 := by rw [e6, up_s]
              have s6 : ∀ k : Nat, g6 31 k = g4 31 k := fun k => by
                rw [e6, up_nc (by decide)]
                exact f5 31 k (fun z => absurd z.1 (by decide)) (by decide) (by decide) (by decide)
              have q6 : EQ g6 t := ⟨(s6 0).trans q4.1, (s6 1).trans q4.2.1, (s6 2).trans q4.2.2.1, (s6 3).trans q4.2.2.2⟩
              have gm6 : gmC g6 = mv1 t.1 t.2.1 (gmC h) := by
                rw [gmv, ← gm4, gmA_y v5.1, e6]
                unfold gmC
                rw [up_nc (by decide), upH_f (by decide), upH_f (by decide), upH_f (by decide), up_s, v5.2.1, v5.2.2.1, v5.2.2.2.1, v5.2.2.2.2, f30, hf]
              have fr6 : FrL h g6 := fun a k z1 z2 z3 z4 z5 z6 => by
                have e1 : upH g5 30 10 0 a k = g5 a k := by unfold upH; rw [if_neg z5]
                rw [e6, e1, f5 a k z1 z2 z3 z4]
                exact gf4 a k z6
              have m6 : 0 ≤ g6 16 0 ∧ g6 16 0 ≤ 150 := by
                rw [e6, up_nc (by decide), v5.2.1]
                have := v5.1
                omega
              clear e6
              refine r_aload_n dX5_drawLine_168 rfl rfl ?_
              refine r_getI dX5_drawLine_169 fl_X5_31 sh_30 rfl ?_
              refine r_if_ne (tgt := 237) dX5_drawLine_172 rfl (by omega) (fun c_172 => absurd f6 c_172) (fun c_172 => ?_)
              refine r_aload_n dX5_drawLine_175 rfl rfl ?_
              refine r_getR dX5_drawLine_176 fl_X5_35 sh_30 rfl ?_
              refine r_iconst dX5_drawLine_179 ?_
              refine r_iald dX5_drawLine_180 sh_31 (by decide) ⟨by decide, by decide⟩ ?_
              refine r_eqI (y := t.1) q6.1 ?_
              refine r_aload_n dX5_drawLine_181 rfl rfl ?_
              refine r_getR dX5_drawLine_182 fl_X5_35 sh_30 rfl ?_
              refine r_iconst dX5_drawLine_185 ?_
              refine r_iald dX5_drawLine_186 sh_31 (by decide) ⟨by decide, by decide⟩ ?_
              refine r_eqI (y := t.2.2.1) q6.2.2.1 ?_
              refine r_icmp_ne (tgt := 205) dX5_drawLine_187 rfl (by omega) (by omega) (fun c_187 => ?_) (fun c_187 => ?_)
              · refine r_aload_n dX5_drawLine_205 rfl rfl ?_
                refine r_aload_n dX5_drawLine_206 rfl rfl ?_
                refine r_getR dX5_drawLine_207 fl_X5_47 sh_30 rfl ?_
                refine r_aload_n dX5_drawLine_210 rfl rfl ?_
                refine r_getR dX5_drawLine_211 fl_X5_35 sh_30 rfl ?_
                refine r_iconst dX5_drawLine_214 ?_
                refine r_iald dX5_drawLine_215 sh_31 (by decide) ⟨by decide, by decide⟩ ?_
                refine r_eqI (y := t.2.2.1) q6.2.2.1 ?_
                refine r_aload_n dX5_drawLine_216 rfl rfl ?_
                refine r_getR dX5_drawLine_217 fl_X5_35 sh_30 rfl ?_
                refine r_iconst dX5_drawLine_220 ?_
                refine r_iald dX5_drawLine_221 sh_31 (by decide) ⟨by decide, by decide⟩ ?_
                refine r_eqI (y := t.2.2.2) q6.2.2.2 ?_
                refine r_iconst dX5_drawLine_222 ?_
                refine r_callVI (av := [_, _, _]) (M' := mX2_append) dX5_drawLine_223 vX2_append ml_X5_134 sh_16 (by decide) rfl rfl rfl rfl (by simp [wtA]) (sp_append_1 (by omega) m6 (fun g7 f7 v7 => ?_) (fun v7 => ?_))
                · refine r_if_ne (tgt := 233) dX5_drawLine_226 rfl ⟨by decide, by decide⟩ (fun c_226 => ?_) (fun c_226 => absurd c_226 (by decide))
                  refine r_iconst dX5_drawLine_233 ?_
                  refine r_putZ dX5_drawLine_234 fl_X5_31 sh_30 rfl (.inl rfl) ?_
                  refine r_vret dX5_drawLine_237 rfl ?_
                  have ne2 : ¬ (t.1 = t.2.2.1 ∧ t.2.1 = t.2.2.2) := fun z => by omega
                  have fz : (mv1 t.1 t.2.1 (gmC h)).2.2.2.2 = 0 := by rw [← gm6]; exact f6
                  refine ⟨rfl, k _ (fun a k z1 z2 z3 z4 z5 z6 => ?_) ?_⟩
                  · have e1 : upH g7 30 10 0 a k = g7 a k := by unfold upH; rw [if_neg z5]
                    rw [e1, f7 a k z1 z2 z3 z4]
                    exact fr6 a k z1 z2 z3 z4 z5 z6
                  · unfold mv2
                    rw [if_pos ⟨fz, ne2⟩, ← gm6, gmA_y v7.1]
                    unfold gmC
                    rw [up_nc (by decide), upH_f (by decide), upH_f (by decide), upH_f (by decide), up_s, v7.2.1, v7.2.2.1, v7.2.2.2.1, v7.2.2.2.2, f6]
                · refine r_if_ne (tgt := 233) dX5_drawLine_226 rfl ⟨by decide, by decide⟩ (fun c_226 => absurd c_226 (by decide)) (fun c_226 => ?_)
                  refine r_iconst dX5_drawLine_229 ?_
                  refine r_goto (tgt := 234) dX5_drawLine_230 rfl ?_
                  refine r_putZ dX5_drawLine_234 fl_X5_31 sh_30 rfl (.inr rfl) ?_
                  refine r_vret dX5_drawLine_237 rfl ?_
                  have ne2 : ¬ (t.1 = t.2.2.1 ∧ t.2.1 = t.2.2.2) := fun z => by omega
                  have fz : (mv1 t.1 t.2.1 (gmC h)).2.2.2.2 = 0 := by rw [← gm6]; exact f6
                  refine ⟨rfl, k _ (fun a k z1 z2 z3 z4 z5 z6 => ?_) ?_⟩
                  · have e1 : upH g6 30 10 1 a k = g6 a k := by unfold upH; rw [if_neg z5]
                    rw [e1]
                    exact fr6 a k z1 z2 z3 z4 z5 z6
                  · unfold mv2
                    rw [if_pos ⟨fz, ne2⟩, ← gm6, gmA_n v7]
                    unfold gmC
                    rw [up_nc (by decide), upH_f (by decide), upH_f (by decide), upH_f (by decide), up_s]
              · refine r_aload_n dX5_drawLine_190 rfl rfl ?_
                refine r_getR dX5_drawLine_191 fl_X5_35 sh_30 rfl ?_
                refine r_iconst dX5_drawLine_194 ?_
                refine r_iald dX5_drawLine_195 sh_31 (by decide) ⟨by decide, by decide⟩ ?_
                refine r_eqI (y := t.2.1) q6.2.1 ?_
                refine r_aload_n dX5_drawLine_196 rfl rfl ?_
                refine r_getR dX5_drawLine_197 fl_X5_35 sh_30 rfl ?_
                refine r_iconst dX5_drawLine_200 ?_
                refine r_iald dX5_drawLine_201 sh_31 (by decide) ⟨by decide, by decide⟩ ?_
                refine r_eqI (y := t.2.2.2) q6.2.2.2 ?_
                refine r_icmp_eq (tgt := 237) dX5_drawLine_202 rfl (by omega) (by omega) (fun c_202 => ?_) (fun c_202 => ?_)
                · refine r_vret dX5_drawLine_237 rfl ?_
                  have eq2 : t.1 = t.2.2.1 ∧ t.2.1 = t.2.2.2 := ⟨by omega, by omega⟩
                  refine ⟨rfl, k _ fr6 ?_⟩
                  rw [gm6]
                  unfold mv2
                  rw [if_neg (fun z => z.2 eq2)]
                · refine r_aload_n dX5_drawLine_205 rfl rfl ?_
                  refine r_aload_n dX5_drawLine_206 rfl rfl ?_
                  refine r_getR dX5_drawLine_207 fl_X5_47 sh_30 rfl ?_
                  refine r_aload_n dX5_drawLine_210 rfl rfl ?_
                  refine r_getR dX5_drawLine_211 fl_X5_35 sh_30 rfl ?_
                  refine r_iconst dX5_drawLine_214 ?_
                  refine r_iald dX5_drawLine_215 sh_31 (by decide) ⟨by decide, by decide⟩ ?_
                  refine r_eqI (y := t.2.2.1) q6.2.2.1 ?_
                  refine r_aload_n dX5_drawLine_216 rfl rfl ?_
                  refine r_getR dX5_drawLine_217 fl_X5_35 sh_30 rfl ?_
                  refine r_iconst dX5_drawLine_220 ?_
                  refine r_iald dX5_drawLine_221 sh_31 (by decide) ⟨by decide, by decide⟩ ?_
                  refine r_eqI (y := t.2.2.2) q6.2.2.2 ?_
                  refine r_iconst dX5_drawLine_222 ?_
                  refine r_callVI (av := [_, _, _]) (M' := mX2_append) dX5_drawLine_223 vX2_append ml_X5_134 sh_16 (by decide) rfl rfl rfl rfl (by simp [wtA]) (sp_append_1 (by omega) m6 (fun g7 f7 v7 => ?_) (fun v7 => ?_))
                  · refine r_if_ne (tgt := 233) dX5_drawLine_226 rfl ⟨by decide, by decide⟩ (fun c_226 => ?_) (fun c_226 => absurd c_226 (by decide))
                    refine r_iconst dX5_drawLine_233 ?_
                    refine r_putZ dX5_drawLine_234 fl_X5_31 sh_30 rfl (.inl rfl) ?_
                    refine r_vret dX5_drawLine_237 rfl ?_
                    have ne2 : ¬ (t.1 = t.2.2.1 ∧ t.2.1 = t.2.2.2) := fun z => by omega
                    have fz : (mv1 t.1 t.2.1 (gmC h)).2.2.2.2 = 0 := by rw [← gm6]; exact f6
                    refine ⟨rfl, k _ (fun a k z1 z2 z3 z4 z5 z6 => ?_) ?_⟩
                    · have e1 : upH g7 30 10 0 a k = g7 a k := by unfold upH; rw [if_neg z5]
                      rw [e1, f7 a k z1 z2 z3 z4]
                      exact fr6 a k z1 z2 z3 z4 z5 z6
                    · unfold mv2
                      rw [if_pos ⟨fz, ne2⟩, ← gm6, gmA_y v7.1]
                      unfold gmC
                      rw [up_nc (by decide), upH_f (by decide), upH_f (by decide), upH_f (by decide), up_s, v7.2.1, v7.2.2.1, v7.2.2.2.1, v7.2.2.2.2, f6]
                  · refine r_if_ne (tgt := 233) dX5_drawLine_226 rfl ⟨by decide, by decide⟩ (fun c_226 => absurd c_226 (by decide)) (fun c_226 => ?_)
                    refine r_iconst dX5_drawLine_229 ?_
                    refine r_goto (tgt := 234) dX5_drawLine_230 rfl ?_
                    refine r_putZ dX5_drawLine_234 fl_X5_31 sh_30 rfl (.inr rfl) ?_
                    refine r_vret dX5_drawLine_237 rfl ?_
                    have ne2 : ¬ (t.1 = t.2.2.1 ∧ t.2.1 = t.2.2.2) := fun z => by omega
                    have fz : (mv1 t.1 t.2.1 (gmC h)).2.2.2.2 = 0 := by rw [← gm6]; exact f6
                    refine ⟨rfl, k _ (fun a k z1 z2 z3 z4 z5 z6 => ?_) ?_⟩
                    · have e1 : upH g6 30 10 1 a k = g6 a k := by unfold upH; rw [if_neg z5]
                      rw [e1]
                      exact fr6 a k z1 z2 z3 z4 z5 z6
                    · unfold mv2
                      rw [if_pos ⟨fz, ne2⟩, ← gm6, gmA_n v7]
                      unfold gmC
                      rw [up_nc (by decide), upH_f (by decide), upH_f (by decide), upH_f (by decide), up_s]
            · refine r_if_ne (tgt := 164) dX5_drawLine_157 rfl ⟨by decide, by decide⟩ (fun c_157 => absurd c_157 (by decide)) (fun c_157 => ?_)
              refine r_iconst dX5_drawLine_160 ?_
              refine r_goto (tgt := 165) dX5_drawLine_161 rfl ?_
              refine r_putZ dX5_drawLine_165 fl_X5_31 sh_30 rfl (.inr rfl) ?_
              rw [l17, l18] at pt
              have gmv : mv1 t.1 t.2.1 (gmC h) = gmA t.1 t.2.1 0 (gmC h) := if_neg (show ¬ gmP t.1 t.2.1 (gmC h) from pt)
              have e5 : gmA t.1 t.2.1 0 (gmC h) = ((gmC h).1, (gmC h).2.1, (gmC h).2.2.1, (gmC h).2.2.2.1, 1) := gmA_n (by rw [← gm4]; exact v5)
              refine r_gh (fun g6 e6 => ?_)
              have f6 : g6 30 10 = 1 := by rw [e6, up_s]
              refine r_aload_n dX5_drawLine_168 rfl rfl ?_
              refine r_getI dX5_drawLine_169 fl_X5_31 sh_30 rfl ?_
              refine r_if_ne (tgt := 237) dX5_drawLine_172 rfl (by omega) (fun c_172 => ?_) (fun c_172 => absurd (f6.symm.trans c_172) (by decide))
              refine r_vret dX5_drawLine_237 rfl ?_
              refine ⟨rfl, k _ (fun a k z1 z2 z3 z4 z5 z6 => ?_) ?_⟩
              · have e1 : upH g4 30 10 1 a k = g4 a k := by unfold upH; rw [if_neg z5]
                rw [e6, e1]
                exact gf4 a k z6
              · unfold mv2
                rw [gmv, e5, if_neg (fun z => absurd (show (1 : Int) = 0 from z.1) (by decide)), ← gm4, e6]
                unfold gmC
                rw [up_nc (by decide), upH_f (by decide), upH_f (by decide), upH_f (by decide), up_s]
