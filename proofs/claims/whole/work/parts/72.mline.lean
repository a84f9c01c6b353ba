abbrev FrK (h g : Hp) : Prop := ∀ a k, ¬ (a = 49 ∧ (k = 29 ∨ k = 12)) → a ≠ 60 → a ≠ 61 → a ≠ 62 → a ≠ 67 → a ≠ 68 → g a k = h a k
theorem gmM_cg {h g : Hp} (f : ∀ a k, a ≠ 67 → a ≠ 68 → g a k = h a k) : gmM g = gmM h := by
  unfold gmM
  rw [f 49 29 (by decide) (by decide), f 49 12 (by decide) (by decide), show g 60 = h 60 from funext fun j => f 60 j (by decide) (by decide), show g 61 = h 61 from funext fun j => f 61 j (by decide) (by decide), show g 62 = h 62 from funext fun j => f 62 j (by decide) (by decide)]
theorem mv1_at {x y : Int} {g : Gm} (h : (mv1 x y g).2.2.2.2 = 0) : gmP x y (mv1 x y g) := by
  by_cases c : gmP x y g
  · have e : mv1 x y g = g := if_pos c
    rw [e]
    exact c
  · have e : mv1 x y g = gmA x y 0 g := if_neg c
    rw [e] at h ⊢
    by_cases z : g.1 < 150
    · rw [gmA_y z]
      exact ⟨if_pos rfl, if_pos rfl⟩
    · rw [gmA_n z] at h
      exact absurd (show (1 : Int) = 0 from h) (by decide)
set_option maxRecDepth 20000 in
set_option maxHeartbeats 400000 in
set_option maxHeartbeats 1000000 in
theorem sp_X12_lines {d : Nat} (hd : 4 ≤ d) {x1 y1 x2 y2 : Int} {h : Hp}  (hb : LQ (x1 + h 49 34, y1 + h 49 35, x2 + h 49 34, y2 + h 49 35)) (hw : WnR (wnM h)) (hg : GmR (gmM h)) (hf : h 49 12 = 0) {P : Int → Hp → Prop} (k0 : ∀ h' : Hp, (FrK h h') → (gmM h' = liF (wnM h) (x1 + h 49 34, y1 + h 49 35, x2 + h 49 34, y2 + h 49 35) (gmM h)) → (h' 49 12 = 0) → P (1) h') (k1 : ∀ h' : Hp, (FrK h h') → (gmM h' = liF (wnM h) (x1 + h 49 34, y1 + h 49 35, x2 + h 49 34, y2 + h 49 35) (gmM h)) → (h' 49 12 = 1) → P (0) h') : Cl d mX12_lines [.inr (.inr 49), .inl x1, .inl y1, .inl x2, .inl y2] h (pI P) := by
  refine Cl.of (L := [some (.inr (.inr 49)), some (.inl x1), some (.inl y1), some (.inl x2), some (.inl y2), none]) (by decide +kernel) (Nat.le_of_ble_eq_true rfl) rfl ?_
  obtain ⟨d, rfl⟩ : ∃ q, d = q + 1 := ⟨d - 1, by omega⟩
  have r1 : -600000 ≤ x1 + h 49 34 ∧ x1 + h 49 34 ≤ 600000 := hb.1
  have r2 : -600000 ≤ x2 + h 49 34 ∧ x2 + h 49 34 ≤ 600000 := hb.2.1
  have r3 : -600000 ≤ y1 + h 49 35 ∧ y1 + h 49 35 ≤ 600000 := hb.2.2.1
  have r4 : -600000 ≤ y2 + h 49 35 ∧ y2 + h 49 35 ≤ 600000 := hb.2.2.2.1
  generalize he : (x1 + h 49 34, y1 + h 49 35, x2 + h 49 34, y2 + h 49 35) = e at hb k0 k1
  have w1 : 0 ≤ h 63 0 ∧ h 63 0 ≤ 999 := hw.1
  have w2 : 0 ≤ h 63 2 ∧ h 63 2 ≤ 999 := hw.2.1
  have w3 : 0 ≤ h 63 1 ∧ h 63 1 ≤ 999 := hw.2.2.1
  have w4 : 0 ≤ h 63 3 ∧ h 63 3 ≤ 999 := hw.2.2.2
  have hm : 0 ≤ h 49 29 ∧ h 49 29 ≤ 150 := hg.1
  have hl : (0 ≤ h 60 (h 49 29).toNat ∧ h 60 (h 49 29).toNat ≤ 2000) ∧ (0 ≤ h 61 (h 49 29).toNat ∧ h 61 (h 49 29).toNat ≤ 2000) := hg.2 (h 49 29).toNat (by show ((h 49 29).toNat : Int) ≤ h 49 29; omega)
  clear hg hw
  refine r_aload_n dX12_lines_0 rfl rfl ?_
  refine r_getR dX12_lines_1 fl_X12_81 sh_49 rfl ?_
  refine r_iconst dX12_lines_4 ?_
  refine r_iload_n dX12_lines_5 rfl rfl ?_
  refine r_aload_n dX12_lines_6 rfl rfl ?_
  refine r_getI dX12_lines_7 fl_X12_297 sh_49 rfl ?_
  refine r_iadd dX12_lines_10 ?_
  refine r_i2l dX12_lines_11 (by omega) ?_
  refine r_last dX12_lines_12 sh_67 (by decide) ⟨by decide, by decide⟩ ?_
  refine r_aload_n dX12_lines_13 rfl rfl ?_
  refine r_getR dX12_lines_14 fl_X12_85 sh_49 rfl ?_
  refine r_iconst dX12_lines_17 ?_
  refine r_iload_n dX12_lines_18 rfl rfl ?_
  refine r_aload_n dX12_lines_19 rfl rfl ?_
  refine r_getI dX12_lines_20 fl_X12_300 sh_49 rfl ?_
  refine r_eqI (up_nc (by decide)) ?_
  refine r_iadd dX12_lines_23 ?_
  refine r_i2l dX12_lines_24 (by omega) ?_
  refine r_last dX12_lines_25 sh_68 (by decide) ⟨by decide, by decide⟩ ?_
  refine r_aload_n dX12_lines_26 rfl rfl ?_
  refine r_getR dX12_lines_27 fl_X12_81 sh_49 rfl ?_
  refine r_iconst dX12_lines_30 ?_
  refine r_iload_n dX12_lines_31 rfl rfl ?_
  refine r_aload_n dX12_lines_32 rfl rfl ?_
  refine r_getI dX12_lines_33 fl_X12_297 sh_49 rfl ?_
  refine r_eqI (((up_nc (by decide)).trans (up_nc (by decide)))) ?_
  refine r_iadd dX12_lines_36 ?_
  refine r_i2l dX12_lines_37 (by omega) ?_
  refine r_last dX12_lines_38 sh_67 (by decide) ⟨by decide, by decide⟩ ?_
  refine r_aload_n dX12_lines_39 rfl rfl ?_
  refine r_getR dX12_lines_40 fl_X12_85 sh_49 rfl ?_
  refine r_iconst dX12_lines_43 ?_
  refine r_iload dX12_lines_44 rfl ?_
  refine r_aload_n dX12_lines_46 rfl rfl ?_
  refine r_getI dX12_lines_47 fl_X12_300 sh_49 rfl ?_
  refine r_eqI (((up_nc (by decide)).trans (((up_nc (by decide)).trans (up_nc (by decide)))))) ?_
  refine r_iadd dX12_lines_50 ?_
  refine r_i2l dX12_lines_51 (by omega) ?_
  refine r_last dX12_lines_52 sh_68 (by decide) ⟨by decide, by decide⟩ ?_
  refine r_gh (fun g0 eg => ?_)
  have q0 : EM g0 e := by rw [← he, eg]; exact ⟨rfl, rfl, rfl, rfl⟩
  have gf0 : ∀ a k, a ≠ 67 → a ≠ 68 → g0 a k = h a k := fun a k z1 z2 => by rw [eg, up_nc z2, up_nc z1, up_nc z2, up_nc z1]
  clear eg
  refine r_iconst dX12_lines_53 ?_
  refine r_istore (L' := [_, _, _, _, _, _]) dX12_lines_54 rfl (by decide) rfl ?_
  refine r_iload dX12_lines_56 rfl ?_
  refine r_iconst dX12_lines_58 ?_
  refine r_icmp_ge (tgt := 79) dX12_lines_59 rfl ⟨by decide, by decide⟩ ⟨by decide, by decide⟩ (fun c_59 => absurd c_59 (by decide)) (fun c_59 => ?_)
  refine r_aload_n dX12_lines_62 rfl rfl ?_
  refine r_iload dX12_lines_63 rfl ?_
  refine r_callVI (av := [_]) (M' := mX12_cuts) dX12_lines_65 vX12_cuts ml_X12_303 sh_49 (by decide) rfl rfl rfl rfl (by simp [wtA]) (sp_cuts_0 (by omega) (by rw [q0.1, q0.2.1, q0.2.2.1, q0.2.2.2]; exact hb) (by rw [gf0 63 0 (by decide) (by decide)]; omega) (fun n1 => ?_) (fun g1 f1 v1 m1 => ?_))
  · refine r_if_ne (tgt := 73) dX12_lines_68 rfl ⟨by decide, by decide⟩ (fun c_68 => absurd c_68 (by decide)) (fun c_68 => ?_)
    refine r_iconst dX12_lines_71 ?_
    refine r_zret dX12_lines_72 rfl (.inr rfl) ?_
    rw [q0.1, q0.2.2.1, gf0 63 0 (by decide) (by decide)] at n1
    exact ⟨_, rfl, k0 _ (fun a k _ _ _ _ z1 z2 => gf0 a k z1 z2) (by rw [liF_n (show lnN (wnM h) e from Or.inl n1)]; exact gmM_cg gf0) (by rw [gf0 49 12 (by decide) (by decide)]; exact hf)⟩
  · refine r_if_ne (tgt := 73) dX12_lines_68 rfl ⟨by decide, by decide⟩ (fun c_68 => ?_) (fun c_68 => absurd c_68 (by decide))
    refine r_iinc (L' := [_, _, _, _, _, _]) dX12_lines_73 rfl rfl (by decide) rfl ?_
    refine r_goto (tgt := 56) dX12_lines_76 rfl ?_
    rw [q0.1, q0.2.1, q0.2.2.1, q0.2.2.2, gf0 63 0 (by decide) (by decide)] at v1
    rw [q0.1, q0.2.2.1, gf0 63 0 (by decide) (by decide)] at m1
    have q1 : EM g1 (cX 1 (h 63 0) e) := ⟨v1.1, v1.2.2.1, v1.2.1, v1.2.2.2⟩
    have b1 : LQ (cX 1 (h 63 0) e) := LQ.x hb (Or.inl rfl) m1
    have gf1 : ∀ a k, a ≠ 67 → a ≠ 68 → g1 a k = h a k := fun a k z1 z2 => (f1 a k z1 z2).trans (gf0 a k z1 z2)
    clear v1 f1
    refine r_iload dX12_lines_56 rfl ?_
    refine r_iconst dX12_lines_58 ?_
    refine r_icmp_ge (tgt := 79) dX12_lines_59 rfl ⟨by decide, by decide⟩ ⟨by decide, by decide⟩ (fun c_59 => absurd c_59 (by decide)) (fun c_59 => ?_)
    refine r_aload_n dX12_lines_62 rfl rfl ?_
    refine r_iload dX12_lines_63 rfl ?_
    refine r_callVI (av := [_]) (M' := mX12_cuts) dX12_lines_65 vX12_cuts ml_X12_303 sh_49 (by decide) rfl rfl rfl rfl (by simp [wtA]) (sp_cuts_1 (by omega) (by rw [q1.1, q1.2.1, q1.2.2.1, q1.2.2.2]; exact b1) (by rw [gf1 63 1 (by decide) (by decide)]; omega) (fun n2 => ?_) (fun g2 f2 v2 m2 => ?_))
    · refine r_if_ne (tgt := 73) dX12_lines_68 rfl ⟨by decide, by decide⟩ (fun c_68 => absurd c_68 (by decide)) (fun c_68 => ?_)
      refine r_iconst dX12_lines_71 ?_
      refine r_zret dX12_lines_72 rfl (.inr rfl) ?_
      rw [q1.1, q1.2.2.1, gf1 63 1 (by decide) (by decide)] at n2
      exact ⟨_, rfl, k0 _ (fun a k _ _ _ _ z1 z2 => gf1 a k z1 z2) (by rw [liF_n (show lnN (wnM h) e from Or.inr (Or.inl n2))]; exact gmM_cg gf1) (by rw [gf1 49 12 (by decide) (by decide)]; exact hf)⟩
    · refine r_if_ne (tgt := 73) dX12_lines_68 rfl ⟨by decide, by decide⟩ (fun c_68 => ?_) (fun c_68 => absurd c_68 (by decide))
      refine r_iinc (L' := [_, _, _, _, _, _]) dX12_lines_73 rfl rfl (by decide) rfl ?_
      refine r_goto (tgt := 56) dX12_lines_76 rfl ?_
      rw [q1.1, q1.2.1, q1.2.2.1, q1.2.2.2, gf1 63 1 (by decide) (by decide)] at v2
      rw [q1.1, q1.2.2.1, gf1 63 1 (by decide) (by decide)] at m2
      have q2 : EM g2 (cX (-1) (h 63 1) (cX 1 (h 63 0) e)) := ⟨v2.1, v2.2.2.1, v2.2.1, v2.2.2.2⟩
      have b2 : LQ (cX (-1) (h 63 1) (cX 1 (h 63 0) e)) := LQ.x b1 (Or.inr rfl) m2
      have gf2 : ∀ a k, a ≠ 67 → a ≠ 68 → g2 a k = h a k := fun a k z1 z2 => (f2 a k z1 z2).trans (gf1 a k z1 z2)
      clear v2 f2
      refine r_iload dX12_lines_56 rfl ?_
      refine r_iconst dX12_lines_58 ?_
      refine r_icmp_ge (tgt := 79) dX12_lines_59 rfl ⟨by decide, by decide⟩ ⟨by decide, by decide⟩ (fun c_59 => absurd c_59 (by decide)) (fun c_59 => ?_)
      refine r_aload_n dX12_lines_62 rfl rfl ?_
      refine r_iload dX12_lines_63 rfl ?_
      refine r_callVI (av := [_]) (M' := mX12_cuts) dX12_lines_65 vX12_cuts ml_X12_303 sh_49 (by decide) rfl rfl rfl rfl (by simp [wtA]) (sp_cuts_2 (by omega) (by rw [q2.1, q2.2.1, q2.2.2.1, q2.2.2.2]; exact b2.sw) (by rw [gf2 63 2 (by decide) (by decide)]; omega) (fun n3 => ?_) (fun g3 f3 v3 m3 => ?_))
      · refine r_if_ne (tgt := 73) dX12_lines_68 rfl ⟨by decide, by decide⟩ (fun c_68 => absurd c_68 (by decide)) (fun c_68 => ?_)
        refine r_iconst dX12_lines_71 ?_
        refine r_zret dX12_lines_72 rfl (.inr rfl) ?_
        rw [q2.2.1, q2.2.2.2, gf2 63 2 (by decide) (by decide)] at n3
        exact ⟨_, rfl, k0 _ (fun a k _ _ _ _ z1 z2 => gf2 a k z1 z2) (by rw [liF_n (show lnN (wnM h) e from Or.inr (Or.inr (Or.inl n3)))]; exact gmM_cg gf2) (by rw [gf2 49 12 (by decide) (by decide)]; exact hf)⟩
      · refine r_if_ne (tgt := 73) dX12_lines_68 rfl ⟨by decide, by decide⟩ (fun c_68 => ?_) (fun c_68 => absurd c_68 (by decide))
        refine r_iinc (L' := [_, _, _, _, _, _]) dX12_lines_73 rfl rfl (by decide) rfl ?_
        refine r_goto (tgt := 56) dX12_lines_76 rfl ?_
        rw [q2.1, q2.2.1, q2.2.2.1, q2.2.2.2, gf2 63 2 (by decide) (by decide)] at v3
        rw [q2.2.1, q2.2.2.2, gf2 63 2 (by decide) (by decide)] at m3
        have q3 : EM g3 (cY 1 (h 63 2) (cX (-1) (h 63 1) (cX 1 (h 63 0) e))) := ⟨v3.2.2.1, v3.1, v3.2.2.2, v3.2.1⟩
        have b3 : LQ (cY 1 (h 63 2) (cX (-1) (h 63 1) (cX 1 (h 63 0) e))) := LQ.y b2 (Or.inl rfl) m3
        have gf3 : ∀ a k, a ≠ 67 → a ≠ 68 → g3 a k = h a k := fun a k z1 z2 => (f3 a k z1 z2).trans (gf2 a k z1 z2)
        clear v3 f3
        refine r_iload dX12_lines_56 rfl ?_
        refine r_iconst dX12_lines_58 ?_
        refine r_icmp_ge (tgt := 79) dX12_lines_59 rfl ⟨by decide, by decide⟩ ⟨by decide, by decide⟩ (fun c_59 => absurd c_59 (by decide)) (fun c_59 => ?_)
        refine r_aload_n dX12_lines_62 rfl rfl ?_
        refine r_iload dX12_lines_63 rfl ?_
        refine r_callVI (av := [_]) (M' := mX12_cuts) dX12_lines_65 vX12_cuts ml_X12_303 sh_49 (by decide) rfl rfl rfl rfl (by simp [wtA]) (sp_cuts_3 (by omega) (by rw [q3.1, q3.2.1, q3.2.2.1, q3.2.2.2]; exact b3.sw) (by rw [gf3 63 3 (by decide) (by decide)]; omega) (fun n4 => ?_) (fun g4 f4 v4 m4 => ?_))
        · refine r_if_ne (tgt := 73) dX12_lines_68 rfl ⟨by decide, by decide⟩ (fun c_68 => absurd c_68 (by decide)) (fun c_68 => ?_)
          refine r_iconst dX12_lines_71 ?_
          refine r_zret dX12_lines_72 rfl (.inr rfl) ?_
          rw [q3.2.1, q3.2.2.2, gf3 63 3 (by decide) (by decide)] at n4
          exact ⟨_, rfl, k0 _ (fun a k _ _ _ _ z1 z2 => gf3 a k z1 z2) (by rw [liF_n (show lnN (wnM h) e from Or.inr (Or.inr (Or.inr n4)))]; exact gmM_cg gf3) (by rw [gf3 49 12 (by decide) (by decide)]; exact hf)⟩
        · refine r_if_ne (tgt := 73) dX12_lines_68 rfl ⟨by decide, by decide⟩ (fun c_68 => ?_) (fun c_68 => absurd c_68 (by decide))
          refine r_iinc (L' := [_, _, _, _, _, _]) dX12_lines_73 rfl rfl (by decide) rfl ?_
          refine r_goto (tgt := 56) dX12_lines_76 rfl ?_
          rw [q3.1, q3.2.1, q3.2.2.1, q3.2.2.2, gf3 63 3 (by decide) (by decide)] at v4
          rw [q3.2.1, q3.2.2.2, gf3 63 3 (by decide) (by decide)] at m4
          have q4 : EM g4 (cY (-1) (h 63 3) (cY 1 (h 63 2) (cX (-1) (h 63 1) (cX 1 (h 63 0) e)))) := ⟨v4.2.2.1, v4.1, v4.2.2.2, v4.2.1⟩
          have b4 : LQ (cY (-1) (h 63 3) (cY 1 (h 63 2) (cX (-1) (h 63 1) (cX 1 (h 63 0) e)))) := LQ.y b3 (Or.inr rfl) m4
          have gf4 : ∀ a k, a ≠ 67 → a ≠ 68 → g4 a k = h a k := fun a k z1 z2 => (f4 a k z1 z2).trans (gf3 a k z1 z2)
          clear v4 f4
          refine r_iload dX12_lines_56 rfl ?_
          refine r_iconst dX12_lines_58 ?_
          refine r_icmp_ge (tgt := 79) dX12_lines_59 rfl ⟨by decide, by decide⟩ ⟨by decide, by decide⟩ (fun c_59 => ?_) (fun c_59 => absurd c_59 (by decide))
          have nl : ¬ lnN (wnM h) e := by
            rintro (z | z | z | z)
            · exact m1 z
            · exact m2 z
            · exact m3 z
            · exact m4 z
          have ke : liF (wnM h) e (gmM h) = mv2 (cY (-1) (h 63 3) (cY 1 (h 63 2) (cX (-1) (h 63 1) (cX 1 (h 63 0) e)))) (gmM h) := liF_e nl
          rw [ke] at k0 k1
          have ib0 := lnE_in nl
          have ib : (h 63 0 ≤ (cY (-1) (h 63 3) (cY 1 (h 63 2) (cX (-1) (h 63 1) (cX 1 (h 63 0) e)))).1 ∧ (cY (-1) (h 63 3) (cY 1 (h 63 2) (cX (-1) (h 63 1) (cX 1 (h 63 0) e)))).1 ≤ h 63 1) ∧ (h 63 2 ≤ (cY (-1) (h 63 3) (cY 1 (h 63 2) (cX (-1) (h 63 1) (cX 1 (h 63 0) e)))).2.1 ∧ (cY (-1) (h 63 3) (cY 1 (h 63 2) (cX (-1) (h 63 1) (cX 1 (h 63 0) e)))).2.1 ≤ h 63 3) ∧ (h 63 0 ≤ (cY (-1) (h 63 3) (cY 1 (h 63 2) (cX (-1) (h 63 1) (cX 1 (h 63 0) e)))).2.2.1 ∧ (cY (-1) (h 63 3) (cY 1 (h 63 2) (cX (-1) (h 63 1) (cX 1 (h 63 0) e)))).2.2.1 ≤ h 63 1) ∧ (h 63 2 ≤ (cY (-1) (h 63 3) (cY 1 (h 63 2) (cX (-1) (h 63 1) (cX 1 (h 63 0) e)))).2.2.2 ∧ (cY (-1) (h 63 3) (cY 1 (h 63 2) (cX (-1) (h 63 1) (cX 1 (h 63 0) e)))).2.2.2 ≤ h 63 3) := ib0
          clear ib0 nl ke m1 m2 m3 m4 b1 b2 b3 b4 q0 q1 q2 q3 gf0 gf1 gf2 gf3
          generalize cY (-1) (h 63 3) (cY 1 (h 63 2) (cX (-1) (h 63 1) (cX 1 (h 63 0) e))) = t at *
          have gm4 := gmM_cg gf4
          have m16 := gf4 49 29 (by decide) (by decide)
          have f30 := gf4 49 12 (by decide) (by decide)
          have l17 : g4 60 (g4 49 29).toNat = h 60 (h 49 29).toNat := by rw [m16]; exact gf4 60 _ (by decide) (by decide)
          have l18 : g4 61 (g4 49 29).toNat = h 61 (h 49 29).toNat := by rw [m16]; exact gf4 61 _ (by decide) (by decide)
          refine r_aload_n dX12_lines_79 rfl rfl ?_
          refine r_aload_n dX12_lines_80 rfl rfl ?_
          refine r_getR dX12_lines_81 fl_X12_81 sh_49 rfl ?_
          refine r_iconst dX12_lines_84 ?_
          refine r_lald dX12_lines_85 sh_67 (by decide) ⟨by decide, by decide⟩ ?_
          refine r_eqJ (y := t.1) q4.1 ?_
          refine r_aload_n dX12_lines_86 rfl rfl ?_
          refine r_getR dX12_lines_87 fl_X12_85 sh_49 rfl ?_
          refine r_iconst dX12_lines_90 ?_
          refine r_lald dX12_lines_91 sh_68 (by decide) ⟨by decide, by decide⟩ ?_
          refine r_eqJ (y := t.2.1) q4.2.1 ?_
          refine r_callVI (av := [_, _]) (M' := mX12_isThere) dX12_lines_92 vX12_isThere ml_X12_306 sh_49 (by decide) rfl rfl rfl rfl (by simp [wtA]) (sp_there (by omega) (by omega) (by rw [l17, l18]; exact ⟨by omega, by omega⟩) ⟨by omega, by omega⟩ (fun pt => ?_) (fun pt => ?_))
          · refine r_if_ne (tgt := 120) dX12_lines_95 rfl ⟨by decide, by decide⟩ (fun c_95 => ?_) (fun c_95 => absurd c_95 (by decide))
            refine r_gh (fun g6 e6 => ?_)
            have f6 : g6 49 12 = 0 := by rw [e6]; omega
            have q6 : EM g6 t := by rw [e6]; exact q4
            have gm6 : gmM g6 = mv1 t.1 t.2.1 (gmM h) := by
              rw [e6, gm4]
              unfold mv1
              rw [l17, l18] at pt
              rw [if_pos (show gmP t.1 t.2.1 (gmM h) from pt)]
            have fr6 : FrK h g6 := fun a k _ _ _ _ z1 z2 => by rw [e6]; exact gf4 a k z1 z2
            have m6 : 0 ≤ g6 49 29 ∧ g6 49 29 ≤ 150 := by rw [e6]; omega
            clear e6
            have pn : g6 60 (g6 49 29).toNat = t.1 ∧ g6 61 (g6 49 29).toNat = t.2.1 := by
              have z : gmP t.1 t.2.1 (gmM g6) := by
                rw [gm6]
                exact mv1_at (by rw [← gm6]; exact f6)
              exact z
            refine r_aload_n dX12_lines_120 rfl rfl ?_
            refine r_aload_n dX12_lines_121 rfl rfl ?_
            refine r_getR dX12_lines_122 fl_X12_81 sh_49 rfl ?_
            refine r_iconst dX12_lines_125 ?_
            refine r_lald dX12_lines_126 sh_67 (by decide) ⟨by decide, by decide⟩ ?_
            refine r_eqJ (y := t.2.2.1) q6.2.2.1 ?_
            refine r_aload_n dX12_lines_127 rfl rfl ?_
            refine r_getR dX12_lines_128 fl_X12_85 sh_49 rfl ?_
            refine r_iconst dX12_lines_131 ?_
            refine r_lald dX12_lines_132 sh_68 (by decide) ⟨by decide, by decide⟩ ?_
            refine r_eqJ (y := t.2.2.2) q6.2.2.2 ?_
            refine r_callVI (av := [_, _]) (M' := mX12_isThere) dX12_lines_133 vX12_isThere ml_X12_306 sh_49 (by decide) rfl rfl rfl rfl (by simp [wtA]) (sp_there (by omega) m6 (by rw [pn.1, pn.2]; exact ⟨by omega, by omega⟩) ⟨by omega, by omega⟩ (fun pt2 => ?_) (fun pt2 => ?_))
            · refine r_if_ne (tgt := 159) dX12_lines_136 rfl ⟨by decide, by decide⟩ (fun c_136 => ?_) (fun c_136 => absurd c_136 (by decide))
              refine r_iconst dX12_lines_159 ?_
              refine r_goto (tgt := 164) dX12_lines_160 rfl ?_
              refine r_zret dX12_lines_164 rfl (.inr rfl) ?_
              rw [pn.1, pn.2] at pt2
              refine ⟨_, rfl, k0 _ fr6 ?_ f6⟩
              rw [gm6]
              unfold mv2
              rw [if_neg (fun z => z.2 pt2)]
            · refine r_if_ne (tgt := 159) dX12_lines_136 rfl ⟨by decide, by decide⟩ (fun c_136 => absurd c_136 (by decide)) (fun c_136 => ?_)
              refine r_aload_n dX12_lines_139 rfl rfl ?_
              refine r_aload_n dX12_lines_140 rfl rfl ?_
              refine r_getR dX12_lines_141 fl_X12_81 sh_49 rfl ?_
              refine r_iconst dX12_lines_144 ?_
              refine r_lald dX12_lines_145 sh_67 (by decide) ⟨by decide, by decide⟩ ?_
              refine r_eqJ (y := t.2.2.1) q6.2.2.1 ?_
              refine r_aload_n dX12_lines_146 rfl rfl ?_
              refine r_getR dX12_lines_147 fl_X12_85 sh_49 rfl ?_
              refine r_iconst dX12_lines_150 ?_
              refine r_lald dX12_lines_151 sh_68 (by decide) ⟨by decide, by decide⟩ ?_
              refine r_eqJ (y := t.2.2.2) q6.2.2.2 ?_
              refine r_iconst dX12_lines_152 ?_
              refine r_callVI (av := [_, _, _]) (M' := mX12_goes) dX12_lines_153 vX12_goes ml_X12_310 sh_49 (by decide) rfl rfl rfl rfl (by simp [wtA]) (sp_goes_1 (by omega) m6 ⟨by omega, by omega⟩ (fun g7 f7 v7 => ?_) (fun g7 v7 e7 => ?_))
              · refine r_if_eq (tgt := 163) dX12_lines_156 rfl ⟨by decide, by decide⟩ (fun c_156 => absurd c_156 (by decide)) (fun c_156 => ?_)
                refine r_iconst dX12_lines_159 ?_
                refine r_goto (tgt := 164) dX12_lines_160 rfl ?_
                refine r_zret dX12_lines_164 rfl (.inr rfl) ?_
                rw [pn.1, pn.2] at pt2
                have fz : (mv1 t.1 t.2.1 (gmM h)).2.2.2.2 = 0 := by rw [← gm6]; exact f6
                refine ⟨_, rfl, k0 _ (fun a k z1 z2 z3 z4 z5 z6 => ?_) ?_ (by rw [f7 49 12 (by decide) (by decide) (by decide) (by decide)]; exact f6)⟩
                · rw [f7 a k (fun z => z1 ⟨z.1, Or.inl z.2⟩) z2 z3 z4]
                  exact fr6 a k z1 z2 z3 z4 z5 z6
                · unfold mv2
                  rw [if_pos ⟨fz, pt2⟩, ← gm6, gmA_y v7.1]
                  unfold gmM
                  rw [v7.2.1, v7.2.2.1, v7.2.2.2.1, v7.2.2.2.2, f7 49 12 (by decide) (by decide) (by decide) (by decide)]
              · refine r_if_eq (tgt := 163) dX12_lines_156 rfl ⟨by decide, by decide⟩ (fun c_156 => ?_) (fun c_156 => absurd c_156 (by decide))
                refine r_iconst dX12_lines_163 ?_
                refine r_zret dX12_lines_164 rfl (.inl rfl) ?_
                rw [pn.1, pn.2] at pt2
                have fz : (mv1 t.1 t.2.1 (gmM h)).2.2.2.2 = 0 := by rw [← gm6]; exact f6
                refine ⟨_, rfl, k1 _ (fun a k z1 z2 z3 z4 z5 z6 => ?_) ?_ (by rw [e7, up_s])⟩
                · have e1 : upH g6 49 12 1 a k = g6 a k := by unfold upH; rw [if_neg (fun z => z1 ⟨z.1, Or.inr z.2⟩)]
                  rw [e7, e1]
                  exact fr6 a k z1 z2 z3 z4 z5 z6
                · unfold mv2
                  rw [if_pos ⟨fz, pt2⟩, ← gm6, gmA_n v7, e7]
                  unfold gmM
                  rw [up_nk (by decide), upH_f (by decide), upH_f (by decide), upH_f (by decide), up_s]
          · refine r_if_ne (tgt := 120) dX12_lines_95 rfl ⟨by decide, by decide⟩ (fun c_95 => absurd c_95 (by decide)) (fun c_95 => ?_)
            refine r_aload_n dX12_lines_98 rfl rfl ?_
            refine r_aload_n dX12_lines_99 rfl rfl ?_
            refine r_getR dX12_lines_100 fl_X12_81 sh_49 rfl ?_
            refine r_iconst dX12_lines_103 ?_
            refine r_lald dX12_lines_104 sh_67 (by decide) ⟨by decide, by decide⟩ ?_
            refine r_eqJ (y := t.1) q4.1 ?_
            refine r_aload_n dX12_lines_105 rfl rfl ?_
            refine r_getR dX12_lines_106 fl_X12_85 sh_49 rfl ?_
            refine r_iconst dX12_lines_109 ?_
            refine r_lald dX12_lines_110 sh_68 (by decide) ⟨by decide, by decide⟩ ?_
            refine r_eqJ (y := t.2.1) q4.2.1 ?_
            refine r_iconst dX12_lines_111 ?_
            refine r_callVI (av := [_, _, _]) (M' := mX12_goes) dX12_lines_112 vX12_goes ml_X12_310 sh_49 (by decide) rfl rfl rfl rfl (by simp [wtA]) (sp_goes_0 (by omega) (by omega) ⟨by omega, by omega⟩ (fun g5 f5 v5 => ?_) (fun g5 v5 e6 => ?_))
            · refine r_if_ne (tgt := 120) dX12_lines_115 rfl ⟨by decide, by decide⟩ (fun c_115 => ?_) (fun c_115 => absurd c_115 (by decide))
              rw [l17, l18] at pt
              have gmv : mv1 t.1 t.2.1 (gmM h) = gmA t.1 t.2.1 0 (gmM h) := if_neg (show ¬ gmP t.1 t.2.1 (gmM h) from pt)
              refine r_gh (fun g6 e6 => ?_)
              have f6 : g6 49 12 = 0 := by rw [e6, f5 49 12 (by decide) (by decide) (by decide) (by decide), f30]; exact hf
              have s6 : ∀ a k : Nat, a = 67 ∨ a = 68 → g6 a k = g4 a k := fun a k z => by
                rw [e6]
                exact f5 a k (by omega) (by omega) (by omega) (by omega)
              have q6 : EM g6 t := ⟨(s6 67 0 (Or.inl rfl)).trans q4.1, (s6 68 0 (Or.inr rfl)).trans q4.2.1, (s6 67 1 (Or.inl rfl)).trans q4.2.2.1, (s6 68 1 (Or.inr rfl)).trans q4.2.2.2⟩
              have gm6 : gmM g6 = mv1 t.1 t.2.1 (gmM h) := by
                rw [gmv, ← gm4, gmA_y v5.1, e6]
                unfold gmM
                rw [v5.2.1, v5.2.2.1, v5.2.2.2.1, v5.2.2.2.2, f5 49 12 (by decide) (by decide) (by decide) (by decide)]
              have fr6 : FrK h g6 := fun a k z1 z2 z3 z4 z5 z6 => by
                rw [e6, f5 a k (fun z => z1 ⟨z.1, Or.inl z.2⟩) z2 z3 z4]
                exact gf4 a k z5 z6
              have m6 : 0 ≤ g6 49 29 ∧ g6 49 29 ≤ 150 := by
                rw [e6, v5.2.1]
                have := v5.1
                omega
              clear e6
              have pn : g6 60 (g6 49 29).toNat = t.1 ∧ g6 61 (g6 49 29).toNat = t.2.1 := by
                have z : gmP t.1 t.2.1 (gmM g6) := by
                  rw [gm6]
                  exact mv1_at (by rw [← gm6]; exact f6)
                exact z
              refine r_aload_n dX12_lines_120 rfl rfl ?_
              refine r_aload_n dX12_lines_121 rfl rfl ?_
              refine r_getR dX12_lines_122 fl_X12_81 sh_49 rfl ?_
              refine r_iconst dX12_lines_125 ?_
              refine r_lald dX12_lines_126 sh_67 (by decide) ⟨by decide, by decide⟩ ?_
              refine r_eqJ (y := t.2.2.1) q6.2.2.1 ?_
              refine r_aload_n dX12_lines_127 rfl rfl ?_
              refine r_getR dX12_lines_128 fl_X12_85 sh_49 rfl ?_
              refine r_iconst dX12_lines_131 ?_
              refine r_lald dX12_lines_132 sh_68 (by decide) ⟨by decide, by decide⟩ ?_
              refine r_eqJ (y := t.2.2.2) q6.2.2.2 ?_
              refine r_callVI (av := [_, _]) (M' := mX12_isThere) dX12_lines_133 vX12_isThere ml_X12_306 sh_49 (by decide) rfl rfl rfl rfl (by simp [wtA]) (sp_there (by omega) m6 (by rw [pn.1, pn.2]; exact ⟨by omega, by omega⟩) ⟨by omega, by omega⟩ (fun pt2 => ?_) (fun pt2 => ?_))
              · refine r_if_ne (tgt := 159) dX12_lines_136 rfl ⟨by decide, by decide⟩ (fun c_136 => ?_) (fun c_136 => absurd c_136 (by decide))
                refine r_iconst dX12_lines_159 ?_
                refine r_goto (tgt := 164) dX12_lines_160 rfl ?_
                refine r_zret dX12_lines_164 rfl (.inr rfl) ?_
                rw [pn.1, pn.2] at pt2
                refine ⟨_, rfl, k0 _ fr6 ?_ f6⟩
                rw [gm6]
                unfold mv2
                rw [if_neg (fun z => z.2 pt2)]
              · refine r_if_ne (tgt := 159) dX12_lines_136 rfl ⟨by decide, by decide⟩ (fun c_136 => absurd c_136 (by decide)) (fun c_136 => ?_)
                refine r_aload_n dX12_lines_139 rfl rfl ?_
                refine r_aload_n dX12_lines_140 rfl rfl ?_
                refine r_getR dX12_lines_141 fl_X12_81 sh_49 rfl ?_
                refine r_iconst dX12_lines_144 ?_
                refine r_lald dX12_lines_145 sh_67 (by decide) ⟨by decide, by decide⟩ ?_
                refine r_eqJ (y := t.2.2.1) q6.2.2.1 ?_
                refine r_aload_n dX12_lines_146 rfl rfl ?_
                refine r_getR dX12_lines_147 fl_X12_85 sh_49 rfl ?_
                refine r_iconst dX12_lines_150 ?_
                refine r_lald dX12_lines_151 sh_68 (by decide) ⟨by decide, by decide⟩ ?_
                refine r_eqJ (y := t.2.2.2) q6.2.2.2 ?_
                refine r_iconst dX12_lines_152 ?_
                refine r_callVI (av := [_, _, _]) (M' := mX12_goes) dX12_lines_153 vX12_goes ml_X12_310 sh_49 (by decide) rfl rfl rfl rfl (by simp [wtA]) (sp_goes_1 (by omega) m6 ⟨by omega, by omega⟩ (fun g7 f7 v7 => ?_) (fun g7 v7 e7 => ?_))
                · refine r_if_eq (tgt := 163) dX12_lines_156 rfl ⟨by decide, by decide⟩ (fun c_156 => absurd c_156 (by decide)) (fun c_156 => ?_)
                  refine r_iconst dX12_lines_159 ?_
                  refine r_goto (tgt := 164) dX12_lines_160 rfl ?_
                  refine r_zret dX12_lines_164 rfl (.inr rfl) ?_
                  rw [pn.1, pn.2] at pt2
                  have fz : (mv1 t.1 t.2.1 (gmM h)).2.2.2.2 = 0 := by rw [← gm6]; exact f6
                  refine ⟨_, rfl, k0 _ (fun a k z1 z2 z3 z4 z5 z6 => ?_) ?_ (by rw [f7 49 12 (by decide) (by decide) (by decide) (by decide)]; exact f6)⟩
                  · rw [f7 a k (fun z => z1 ⟨z.1, Or.inl z.2⟩) z2 z3 z4]
                    exact fr6 a k z1 z2 z3 z4 z5 z6
                  · unfold mv2
                    rw [if_pos ⟨fz, pt2⟩, ← gm6, gmA_y v7.1]
                    unfold gmM
                    rw [v7.2.1, v7.2.2.1, v7.2.2.2.1, v7.2.2.2.2, f7 49 12 (by decide) (by decide) (by decide) (by decide)]
                · refine r_if_eq (tgt := 163) dX12_lines_156 rfl ⟨by decide, by decide⟩ (fun c_156 => ?_) (fun c_156 => absurd c_156 (by decide))
                  refine r_iconst dX12_lines_163 ?_
                  refine r_zret dX12_lines_164 rfl (.inl rfl) ?_
                  rw [pn.1, pn.2] at pt2
                  have fz : (mv1 t.1 t.2.1 (gmM h)).2.2.2.2 = 0 := by rw [← gm6]; exact f6
                  refine ⟨_, rfl, k1 _ (fun a k z1 z2 z3 z4 z5 z6 => ?_) ?_ (by rw [e7, up_s])⟩
                  · have e1 : upH g6 49 12 1 a k = g6 a k := by unfold upH; rw [if_neg (fun z => z1 ⟨z.1, Or.inr z.2⟩)]
                    rw [e7, e1]
                    exact fr6 a k z1 z2 z3 z4 z5 z6
                  · unfold mv2
                    rw [if_pos ⟨fz, pt2⟩, ← gm6, gmA_n v7, e7]
                    unfold gmM
                    rw [up_nk (by decide), upH_f (by decide), upH_f (by decide), upH_f (by decide), up_s]
            · refine r_if_ne (tgt := 120) dX12_lines_115 rfl ⟨by decide, by decide⟩ (fun c_115 => absurd c_115 (by decide)) (fun c_115 => ?_)
              refine r_iconst dX12_lines_118 ?_
              refine r_zret dX12_lines_119 rfl (.inl rfl) ?_
              rw [l17, l18] at pt
              have gmv : mv1 t.1 t.2.1 (gmM h) = gmA t.1 t.2.1 0 (gmM h) := if_neg (show ¬ gmP t.1 t.2.1 (gmM h) from pt)
              have e5 : gmA t.1 t.2.1 0 (gmM h) = ((gmM h).1, (gmM h).2.1, (gmM h).2.2.1, (gmM h).2.2.2.1, 1) := gmA_n (by rw [← gm4]; exact v5)
              refine ⟨_, rfl, k1 _ (fun a k z1 z2 z3 z4 z5 z6 => ?_) ?_ (by rw [e6, up_s])⟩
              · have e1 : upH g4 49 12 1 a k = g4 a k := by unfold upH; rw [if_neg (fun z => z1 ⟨z.1, Or.inr z.2⟩)]
                rw [e6, e1]
                exact gf4 a k z5 z6
              · unfold mv2
                rw [gmv, e5, if_neg (fun z => absurd (show (1 : Int) = 0 from z.1) (by decide)), ← gm4, e6]
                unfold gmM
                rw [up_nk (by decide), upH_f (by decide), upH_f (by decide), upH_f (by decide), up_s]
