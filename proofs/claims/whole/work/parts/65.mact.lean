set_option maxRecDepth 20000 in
set_option maxHeartbeats 400000 in
theorem lp_act50 {d : Nat} (hd : 7 ≤ d) {P : Int → Hp → Prop} {h : Hp} {n F i : Nat} {s : Sg} (kt : ∀ g : Hp, FrD h g → Hid (MS g n (acS (h 3) n (fiM h n (tE (h 3) n s.1) F) (h 49 22) i F s)) → (acS (h 3) n (fiM h n (tE (h 3) n s.1) F) (h 49 22) i F s).2.1 = 0 → (0 ≤ vbF (h 3) n s.1 ∧ ¬ (60 ≤ i ∨ (vbF (h 3) n s.1 = 0 ∧ 8 ≤ F))) → MtG h g n F i (vbF (h 3) n s.1) (tE3 (h 3) n s) → P 1 g) (kf : ∀ g : Hp, FrD h g → Hid (MS g n (acS (h 3) n (fiM h n (tE (h 3) n s.1) F) (h 49 22) i F s)) → ¬ (acS (h 3) n (fiM h n (tE (h 3) n s.1) F) (h 49 22) i F s).2.1 = 0 → P 0 g) : ∀ (nn : Nat) , (MX h n) → (Hid (MS h n s)) → (s.2.1 = 0) → (h 49 24 = F ∧ F ≤ 8) → (∀ k : Nat, k < F → R32 (h 56 k)) → (h 49 18 = i ∧ i ≤ 60) → (0 ≤ h 49 22 ∧ h 49 22 ≤ 5) → 0 < nn → WW mX12_actRead (d + 1) (pI P) 50 [some (.inr (.inr 49)), none] [] h := by
  intro nn
  induction nn with
  | zero => intro  hx hp h0 hF hn hi ho; intros; omega
  | succ nn ih =>
    intro  hx hp h0 hF hn hi ho hmu
    have key : h 49 15 = 1 ↔ 0 ≤ vbF (h 3) n s.1 := by
      have mk := (show MS h n s from hp).1.2.2.1
      have mi := (mK_i (b := h 3) (n := n) (show MS h n s from hp).2.2.2.1).2.2.2.1
      rw [mk, mi]
      unfold vbF
      by_cases z : tK (h 3) n s.1 = 1
      · rw [if_pos z]
        exact ⟨fun y => y.2, fun y => ⟨z, y⟩⟩
      · rw [if_neg z]
        exact ⟨fun y => absurd y.1 z, fun y => absurd y (by decide)⟩
    have mr : 0 ≤ h 49 15 ∧ h 49 15 ≤ 5 := by
      rw [(show MS h n s from hp).1.2.2.1]
      exact (mK_i (b := h 3) (n := n) (show MS h n s from hp).2.2.2.1).2.2.2.2.2
    refine r_aload_n dX12_actRead_50 rfl rfl ?_
    refine r_getI dX12_actRead_51 fl_X12_225 sh_49 rfl ?_
    refine r_iconst dX12_actRead_54 ?_
    refine r_icmp_eq (tgt := 64) dX12_actRead_55 rfl (by omega) ⟨by decide, by decide⟩ (fun c_55 => ?_) (fun c_55 => ?_)
    · have v0 : 0 ≤ vbF (h 3) n s.1 := key.mp c_55
      refine r_aload_n dX12_actRead_64 rfl rfl ?_
      refine r_getI dX12_actRead_65 fl_X12_276 sh_49 rfl ?_
      refine r_bipush dX12_actRead_68 (by decide +kernel) ?_
      refine r_icmp_ne (tgt := 79) dX12_actRead_70 rfl (by omega) ⟨by decide, by decide⟩ (fun c_70 => ?_) (fun c_70 => ?_)
      · have i60 : i < 60 := by omega
        have vr := kwI_r (h 3) (tS (h 3) n s.1) (tE (h 3) n s.1)
        have t1 : tK (h 3) n s.1 = 1 := by
          by_cases z : tK (h 3) n s.1 = 1
          · exact z
          · have e : vbF (h 3) n s.1 = -1 := if_neg z
            omega
        have e1 : vbF (h 3) n s.1 = kwI (h 3) (tS (h 3) n s.1) (tE (h 3) n s.1) := if_pos t1
        have gw0 : h 49 16 = vbF (h 3) n s.1 := by
          rw [(show MS h n s from hp).1.2.2.2 (by omega), mW_1 ⟨t1, by omega⟩, e1]
        have v6 : vbF (h 3) n s.1 ≤ 6 := by omega
        clear vr t1 e1
        refine r_aload_n dX12_actRead_79 rfl rfl ?_
        refine r_getI dX12_actRead_80 fl_X12_276 sh_49 rfl ?_
        rw [hi.1]
        refine r_istore_n (L' := [_, _]) dX12_actRead_83 rfl rfl (by decide) rfl ?_
        refine r_aload_n dX12_actRead_84 rfl rfl ?_
        refine r_getR dX12_actRead_85 fl_X12_35 sh_49 rfl ?_
        refine r_iload_n dX12_actRead_88 rfl rfl ?_
        refine r_aload_n dX12_actRead_89 rfl rfl ?_
        refine r_getI dX12_actRead_90 fl_X12_235 sh_49 rfl ?_
        refine r_iast dX12_actRead_93 sh_52 (by decide) (by omega) ?_
        refine r_aload_n dX12_actRead_94 rfl rfl ?_
        refine r_dup dX12_actRead_95 (fun _ h => by cases h) ?_
        refine r_getI dX12_actRead_96 fl_X12_276 sh_49 rfl ?_
        refine r_eqI (up_nc (by decide)) ?_
        refine r_iconst dX12_actRead_99 ?_
        refine r_iadd dX12_actRead_100 ?_
        refine r_putI dX12_actRead_101 fl_X12_276 sh_49 rfl ?_
        rw [Int.toNat_natCast, gw0]
        refine r_gh (fun g eg => ?_)
        have gp : Hid (MS g n s) := by rw [eg]; exact MS.up (MS.up hp (by decide) (fun z => absurd z.1 (by decide))) (by decide) (by decide)
        have gx : MX g n := by rw [eg]; exact (hx.up (by decide) (by decide) (by decide) (fun z => absurd z.1 (by decide))).up (by decide) (by decide) (by decide) (by decide)
        have gf : FrG i h g := fun x k z1 z2 => by
          rw [eg]
          unfold upH
          rw [if_neg z2, if_neg z1]
        have g18 : g 49 18 = i + 1 := by rw [eg, up_s, hi.1]
        have g52 : g 52 i = vbF (h 3) n s.1 := by rw [eg, up_nc (by decide), up_s]
        clear eg
        have gn : ∀ k : Nat, k < F → R32 (g 56 k) := fun k hk => by rw [gf 56 k (fun z => absurd z.1 (by decide)) (fun z => absurd z.1 (by decide))]; exact hn k hk
        have gF : g 49 24 = F ∧ F ≤ 8 := ⟨(gf 49 24 (fun z => absurd z.1 (by decide)) (by decide)).trans hF.1, hF.2⟩
        have go : g 49 22 = h 49 22 := gf 49 22 (fun z => absurd z.1 (by decide)) (by decide)
        have gw : g 49 16 = vbF (h 3) n s.1 := (gf 49 16 (fun z => absurd z.1 (by decide)) (by decide)).trans gw0
        have g3 : g 3 = h 3 := funext fun j => gf 3 j (fun z => absurd z.1 (by decide)) (fun z => absurd z.1 (by decide))
        have gfi : ∀ p : Nat, fiM g n p F = fiM h n p F := fun p => by
          unfold fiM
          rw [g3, show g 56 = h 56 from funext fun j => gf 56 j (fun z => absurd z.1 (by decide)) (fun z => absurd z.1 (by decide))]
        refine r_aload_n dX12_actRead_104 rfl rfl ?_
        refine r_getI dX12_actRead_105 fl_X12_235 sh_49 rfl ?_
        rcases (show vbF (h 3) n s.1 = 0 ∨ vbF (h 3) n s.1 = 1 ∨ vbF (h 3) n s.1 = 2 ∨ vbF (h 3) n s.1 = 3 ∨ vbF (h 3) n s.1 = 4 ∨ vbF (h 3) n s.1 = 5 ∨ vbF (h 3) n s.1 = 6 by omega) with e | e | e | e | e | e | e
        · refine r_eqI (y := 0) (gw.trans e) ?_
          by_cases hF8 : F < 8
          · have nb : ¬ (60 ≤ i ∨ (vbF (h 3) n s.1 = 0 ∧ 8 ≤ F)) := by omega
            have es : acS (h 3) n (fiM h n (tE (h 3) n s.1) F) (h 49 22) i F s = siS (h 3) n 59 (foS (h 3) n (fiM h n (tE (h 3) n s.1) F) (tE3 (h 3) n s)) := by
              unfold acS
              rw [if_neg (show ¬ vbF (h 3) n s.1 < 0 by omega), if_neg nb, e]
              rfl
            rw [es] at kf
            rw [es] at kt
            have kt := fun g a b c => kt g a b c ⟨v0, nb⟩
            rw [e] at kt
            rw [e] at g52
            refine r_tsIn (v := 0) (off := 40) (tgt := 148) dX12_actRead_108 rfl ⟨by decide, by decide⟩ (by decide) (by decide) (by decide +kernel) rfl ?_
            refine r_aload_n dX12_actRead_148 rfl rfl ?_
            refine r_callVI (av := []) (M' := mX12_formRead) dX12_actRead_149 vX12_formRead ml_X12_279 sh_49 (by decide) rfl rfl rfl rfl (by simp [wtA]) (sp_X12_formRead (h := g) (n := n) (F := F) (s := s) (by omega) gx gp h0 ⟨gF.1, hF8⟩ gn (fun u f p z q1 q2 => ?_) (fun u f p z => ?_))
            · refine r_zret dX12_actRead_152 rfl (.inr rfl) ?_
              rw [g3, gfi] at p z q1 q2
              exact ⟨_, rfl, kt u (FrD.f gf f) p z (MtG.f gf f g18 g52 q1 q2)⟩
            · refine r_zret dX12_actRead_152 rfl (.inl rfl) ?_
              rw [g3, gfi] at p z
              exact ⟨_, rfl, kf u (FrD.f gf f) p z⟩
          · have es : acS (h 3) n (fiM h n (tE (h 3) n s.1) F) (h 49 22) i F s = flS (h 3) n 2 s := by
              unfold acS
              rw [if_neg (show ¬ vbF (h 3) n s.1 < 0 by omega), if_pos (Or.inr ⟨e, by omega⟩)]
            refine r_tsIn (v := 0) (off := 40) (tgt := 148) dX12_actRead_108 rfl ⟨by decide, by decide⟩ (by decide) (by decide) (by decide +kernel) rfl ?_
            refine r_aload_n dX12_actRead_148 rfl rfl ?_
            refine r_callVI (av := []) (M' := mX12_formRead) dX12_actRead_149 vX12_formRead ml_X12_279 sh_49 (by decide) rfl rfl rfl rfl (by simp [wtA]) (sp_formFull (h := g) (n := n) (s := s) (by omega) gx gp h0 (by omega) (fun u f p => ?_))
            refine r_zret dX12_actRead_152 rfl (.inl rfl) ?_
            rw [g3, ← es] at p
            exact ⟨_, rfl, kf u (FrD.gq gf f) p (by rw [es]; exact flS_n (by decide))⟩
        · refine r_eqI (y := 1) (gw.trans e) ?_
          have nb : ¬ (60 ≤ i ∨ (vbF (h 3) n s.1 = 0 ∧ 8 ≤ F)) := by omega
          have es : acS (h 3) n (fiM h n (tE (h 3) n s.1) F) (h 49 22) i F s = siS (h 3) n 59 (puS (h 3) n (fiM h n (tE (h 3) n s.1) F) (tE3 (h 3) n s)) := by
            unfold acS
            rw [if_neg (show ¬ vbF (h 3) n s.1 < 0 by omega), if_neg nb, e]
            rfl
          rw [es] at kf
          rw [es] at kt
          have kt := fun g a b c => kt g a b c ⟨v0, nb⟩
          rw [e] at kt
          rw [e] at g52
          refine r_tsIn (v := 1) (off := 45) (tgt := 153) dX12_actRead_108 rfl ⟨by decide, by decide⟩ (by decide) (by decide) (by decide +kernel) rfl ?_
          refine r_aload_n dX12_actRead_153 rfl rfl ?_
          refine r_iload_n dX12_actRead_154 rfl rfl ?_
          refine r_callVI (av := [_]) (M' := mX12_putRead) dX12_actRead_155 vX12_putRead ml_X12_282 sh_49 (by decide) rfl rfl rfl rfl (by simp [wtA]) (sp_X12_putRead (h := g) (n := n) (a := i) (s := s) (F := F) (by omega) gx gp h0 i60 gF gn (fun u f p z q0 q1 q2 q3 => ?_) (fun u f p z => ?_))
          · refine r_zret dX12_actRead_158 rfl (.inr rfl) ?_
            rw [g3, gfi] at p z q0 q1 q2 q3
            exact ⟨_, rfl, kt u (FrD.a gf f) p z (MtG.a gf f g18 g52 (by decide) ⟨fun _ => ⟨q0, q1, q2, q3⟩, fun y => absurd y (by decide), fun y => absurd y (by decide), fun y => absurd y (by decide), fun y => absurd y (by decide), fun y => absurd y (by decide)⟩)⟩
          · refine r_zret dX12_actRead_158 rfl (.inl rfl) ?_
            rw [g3, gfi] at p z
            exact ⟨_, rfl, kf u (FrD.a gf f) p z⟩
        · refine r_eqI (y := 2) (gw.trans e) ?_
          have nb : ¬ (60 ≤ i ∨ (vbF (h 3) n s.1 = 0 ∧ 8 ≤ F)) := by omega
          have es : acS (h 3) n (fiM h n (tE (h 3) n s.1) F) (h 49 22) i F s = siS (h 3) n 59 (nkS (h 3) n (tE3 (h 3) n s) 4) := by
            unfold acS
            rw [if_neg (show ¬ vbF (h 3) n s.1 < 0 by omega), if_neg nb, e]
            rfl
          rw [es] at kf
          rw [es] at kt
          have kt := fun g a b c => kt g a b c ⟨v0, nb⟩
          rw [e] at kt
          rw [e] at g52
          refine r_tsIn (v := 2) (off := 51) (tgt := 159) dX12_actRead_108 rfl ⟨by decide, by decide⟩ (by decide) (by decide) (by decide +kernel) rfl ?_
          refine lp_actLine (h := g) (n := n) (a := i) (s := s) (by omega) (fun u f p z q => ?_) (fun u f p z => ?_) 1 gx gp h0 i60 (by decide)
          · rw [g3] at p z q
            exact kt u (FrD.a gf f) p z (MtG.a gf f g18 g52 (by decide) ⟨fun y => absurd y (by decide), fun _ => q, fun y => absurd y (by decide), fun y => absurd y (by decide), fun y => absurd y (by decide), fun y => absurd y (by decide)⟩)
          · rw [g3] at p z
            exact kf u (FrD.a gf f) p z
        · refine r_eqI (y := 3) (gw.trans e) ?_
          have nb : ¬ (60 ≤ i ∨ (vbF (h 3) n s.1 = 0 ∧ 8 ≤ F)) := by omega
          have es : acS (h 3) n (fiM h n (tE (h 3) n s.1) F) (h 49 22) i F s = siS (h 3) n 59 (nkS (h 3) n (tE3 (h 3) n s) 2) := by
            unfold acS
            rw [if_neg (show ¬ vbF (h 3) n s.1 < 0 by omega), if_neg nb, e]
            rfl
          rw [es] at kf
          rw [es] at kt
          have kt := fun g a b c => kt g a b c ⟨v0, nb⟩
          rw [e] at kt
          rw [e] at g52
          refine r_tsIn (v := 3) (off := 120) (tgt := 228) dX12_actRead_108 rfl ⟨by decide, by decide⟩ (by decide) (by decide) (by decide +kernel) rfl ?_
          refine lp_actTo (h := g) (n := n) (a := i) (s := s) (by omega) (fun u f p z q => ?_) (fun u f p z => ?_) 1 gx gp h0 i60 (by decide)
          · rw [g3] at p z q
            exact kt u (FrD.a gf f) p z (MtG.a gf f g18 g52 (by decide) ⟨fun y => absurd y (by decide), fun y => absurd y (by decide), fun _ => q, fun y => absurd y (by decide), fun y => absurd y (by decide), fun y => absurd y (by decide)⟩)
          · rw [g3] at p z
            exact kf u (FrD.a gf f) p z
        · refine r_eqI (y := 4) (gw.trans e) ?_
          have nb : ¬ (60 ≤ i ∨ (vbF (h 3) n s.1 = 0 ∧ 8 ≤ F)) := by omega
          have es : acS (h 3) n (fiM h n (tE (h 3) n s.1) F) (h 49 22) i F s = siS (h 3) n 59 (nuS (h 3) n 1 99 (nkS (h 3) n (tE3 (h 3) n s) 4)) := by
            unfold acS
            rw [if_neg (show ¬ vbF (h 3) n s.1 < 0 by omega), if_neg nb, e]
            rfl
          rw [es] at kf
          rw [es] at kt
          have kt := fun g a b c => kt g a b c ⟨v0, nb⟩
          rw [e] at kt
          rw [e] at g52
          refine r_tsIn (v := 4) (off := 163) (tgt := 271) dX12_actRead_108 rfl ⟨by decide, by decide⟩ (by decide) (by decide) (by decide +kernel) rfl ?_
          refine lp_actHatch (h := g) (n := n) (a := i) (s := s) (by omega) (fun u f p z q => ?_) (fun u f p z => ?_) 1 gx gp h0 i60 (by decide)
          · rw [g3] at p z q
            exact kt u (FrD.a gf f) p z (MtG.a gf f g18 g52 (by decide) ⟨fun y => absurd y (by decide), fun y => absurd y (by decide), fun y => absurd y (by decide), fun _ => q, fun y => absurd y (by decide), fun y => absurd y (by decide)⟩)
          · rw [g3] at p z
            exact kf u (FrD.a gf f) p z
        · refine r_eqI (y := 5) (gw.trans e) ?_
          have nb : ¬ (60 ≤ i ∨ (vbF (h 3) n s.1 = 0 ∧ 8 ≤ F)) := by omega
          have es : acS (h 3) n (fiM h n (tE (h 3) n s.1) F) (h 49 22) i F s = siS (h 3) n 59 (clS (h 3) n (tE3 (h 3) n s) 4) := by
            unfold acS
            rw [if_neg (show ¬ vbF (h 3) n s.1 < 0 by omega), if_neg nb, e]
            rfl
          rw [es] at kf
          rw [es] at kt
          have kt := fun g a b c => kt g a b c ⟨v0, nb⟩
          rw [e] at kt
          rw [e] at g52
          refine r_tsIn (v := 5) (off := 244) (tgt := 352) dX12_actRead_108 rfl ⟨by decide, by decide⟩ (by decide) (by decide) (by decide +kernel) rfl ?_
          refine r_aload_n dX12_actRead_352 rfl rfl ?_
          refine r_iload_n dX12_actRead_353 rfl rfl ?_
          refine r_callVI (av := [_]) (M' := mX12_clipRead) dX12_actRead_354 vX12_clipRead ml_X12_285 sh_49 (by decide) rfl rfl rfl rfl (by simp [wtA]) (sp_X12_clipRead (h := g) (n := n) (a := i) (s := s) (by omega) gx gp h0 i60 (fun u f p z q => ?_) (fun u f p z => ?_))
          · refine r_zret dX12_actRead_357 rfl (.inr rfl) ?_
            rw [g3] at p z q
            exact ⟨_, rfl, kt u (FrD.a gf f) p z (MtG.a gf f g18 g52 (by decide) ⟨fun y => absurd y (by decide), fun y => absurd y (by decide), fun y => absurd y (by decide), fun y => absurd y (by decide), fun _ => q, fun y => absurd y (by decide)⟩)⟩
          · refine r_zret dX12_actRead_357 rfl (.inl rfl) ?_
            rw [g3] at p z
            exact ⟨_, rfl, kf u (FrD.a gf f) p z⟩
        · refine r_eqI (y := 6) (gw.trans e) ?_
          have nb : ¬ (60 ≤ i ∨ (vbF (h 3) n s.1 = 0 ∧ 8 ≤ F)) := by omega
          have es : acS (h 3) n (fiM h n (tE (h 3) n s.1) F) (h 49 22) i F s = agS (h 3) n (h 49 22) (tE3 (h 3) n s) := by
            unfold acS
            rw [if_neg (show ¬ vbF (h 3) n s.1 < 0 by omega), if_neg nb, e]
            rfl
          rw [es] at kf
          rw [es] at kt
          have kt := fun g a b c => kt g a b c ⟨v0, nb⟩
          rw [e] at kt
          rw [e] at g52
          refine r_tsOut (tgt := 358) dX12_actRead_108 ⟨by decide, by decide⟩ (by decide) rfl ?_
          refine r_aload_n dX12_actRead_358 rfl rfl ?_
          refine r_iload_n dX12_actRead_359 rfl rfl ?_
          refine r_callVI (av := [_]) (M' := mX12_againRead) dX12_actRead_360 vX12_againRead ml_X12_288 sh_49 (by decide) rfl rfl rfl rfl (by simp [wtA]) (sp_X12_againRead (h := g) (n := n) (a := i) (s := s) (by omega) gx gp h0 i60 (by omega) (fun u f p z q q1 q2 q3 => ?_) (fun u f p z => ?_))
          · refine r_zret dX12_actRead_363 rfl (.inr rfl) ?_
            rw [g3, go] at p z
            rw [g3] at q
            rw [go] at f q1 q2 q3
            exact ⟨_, rfl, kt u (FrD.n gf f) p z (MtG.n gf f g18 g52 ⟨fun y => absurd y (by decide), fun y => absurd y (by decide), fun y => absurd y (by decide), fun y => absurd y (by decide), fun y => absurd y (by decide), fun _ => ⟨q, q1, q2, fun k hk => (f 55 k (fun y => absurd y.1 (by decide)) (fun y => absurd y.1 (by decide)) (fun y => absurd y.1 (by decide)) (fun y => hk y.2)).trans (gf 55 k (fun y => absurd y.1 (by decide)) (fun y => absurd y.1 (by decide)))⟩⟩)⟩
          · refine r_zret dX12_actRead_363 rfl (.inl rfl) ?_
            rw [g3, go] at p z
            exact ⟨_, rfl, kf u (FrD.a gf f) p z⟩
      · refine r_aload_n dX12_actRead_73 rfl rfl ?_
        refine r_iconst dX12_actRead_74 ?_
        refine r_callVI (av := [_]) (M' := mX12_wrong) dX12_actRead_75 vX12_wrong ml_X12_247 sh_49 (by decide) rfl rfl rfl rfl (by simp [wtA]) (sp_X12_wrong (by omega) hx hp h0 (by decide) (fun h_75 f0_75 f1_75 => ?_))
        refine r_zret dX12_actRead_78 rfl (.inl rfl) ?_
        have es : acS (h 3) n (fiM h n (tE (h 3) n s.1) F) (h 49 22) i F s = flS (h 3) n 2 s := by
          unfold acS
          rw [if_neg (show ¬ vbF (h 3) n s.1 < 0 by omega), if_pos (Or.inl (by omega))]
        rw [← es] at f1_75
        exact ⟨_, rfl, kf _ (FrD.q f0_75) f1_75 (by rw [es]; exact flS_n (by decide))⟩
    · refine r_aload_n dX12_actRead_58 rfl rfl ?_
      refine r_iconst dX12_actRead_59 ?_
      refine r_callVI (av := [_]) (M' := mX12_wrong) dX12_actRead_60 vX12_wrong ml_X12_247 sh_49 (by decide) rfl rfl rfl rfl (by simp [wtA]) (sp_X12_wrong (by omega) hx hp h0 (by decide) (fun h_60 f0_60 f1_60 => ?_))
      refine r_zret dX12_actRead_63 rfl (.inl rfl) ?_
      have es : acS (h 3) n (fiM h n (tE (h 3) n s.1) F) (h 49 22) i F s = flS (h 3) n 1 s := by
        unfold acS
        rw [if_pos (show vbF (h 3) n s.1 < 0 by omega)]
      rw [← es] at f1_60
      exact ⟨_, rfl, kf _ (FrD.q f0_60) f1_60 (by rw [es]; exact flS_n (by decide))⟩
/-- a mark of the end, the reference -/
abbrev MtC (h g : Hp) : Prop := g 49 18 = h 49 18 ∧ g 49 24 = h 49 24 ∧ g 49 22 = h 49 22 - 1 ∧ g 54 (h 55 (h 49 22 - 1).toNat).toNat = h 49 18 ∧ (∀ k : Nat, k ≠ (h 55 (h 49 22 - 1).toNat).toNat → g 54 k = h 54 k) ∧ ∀ a k : Nat, (52 ≤ a ∧ a ≤ 59 ∧ a ≠ 54) → g a k = h a k
set_option maxRecDepth 20000 in
set_option maxHeartbeats 400000 in
theorem sp_X12_actRead {d : Nat} (hd : 8 ≤ d) {h : Hp} {n F i : Nat} {s : Sg} (hx : MX h n) (hp : Hid (MS h n s)) (h0 : s.2.1 = 0) (hF : h 49 24 = F ∧ F ≤ 8) (hn : ∀ k : Nat, k < F → R32 (h 56 k)) (hi : h 49 18 = i ∧ i ≤ 60) (ho : 0 ≤ h 49 22 ∧ h 49 22 ≤ 5) (hq : ∀ q : Nat, (q : Int) < h 49 22 → 0 ≤ h 55 q ∧ h 55 q < i) {P : Int → Hp → Prop} (kc : (tK (h 3) n s.1 = 41 ∧ 0 < h 49 22) → ∀ g : Hp, FrD h g → Hid (MS g n (tE3 (h 3) n s)) → MtC h g → P 1 g) (kt : ¬ (tK (h 3) n s.1 = 41 ∧ 0 < h 49 22) → ∀ g : Hp, FrD h g → Hid (MS g n (acS (h 3) n (fiM h n (tE (h 3) n s.1) F) (h 49 22) i F s)) → (acS (h 3) n (fiM h n (tE (h 3) n s.1) F) (h 49 22) i F s).2.1 = 0 → (0 ≤ vbF (h 3) n s.1 ∧ ¬ (60 ≤ i ∨ (vbF (h 3) n s.1 = 0 ∧ 8 ≤ F))) → MtG h g n F i (vbF (h 3) n s.1) (tE3 (h 3) n s) → P 1 g) (kf : ¬ (tK (h 3) n s.1 = 41 ∧ 0 < h 49 22) → ∀ g : Hp, FrD h g → Hid (MS g n (acS (h 3) n (fiM h n (tE (h 3) n s.1) F) (h 49 22) i F s)) → ¬ (acS (h 3) n (fiM h n (tE (h 3) n s.1) F) (h 49 22) i F s).2.1 = 0 → P 0 g) : Cl d mX12_actRead [.inr (.inr 49)] h (pI P) := by
  refine Cl.of (L := [some (.inr (.inr 49)), none]) (by decide +kernel) (Nat.le_of_ble_eq_true rfl) rfl ?_
  obtain ⟨d, rfl⟩ : ∃ q, d = q + 1 := ⟨d - 1, by omega⟩
  refine r_aload_n dX12_actRead_0 rfl rfl ?_
  refine r_bipush dX12_actRead_1 (by decide +kernel) ?_
  refine r_callVI (av := [_]) (M' := mX12_isSign) dX12_actRead_3 vX12_isSign ml_X12_256 sh_49 (by decide) rfl rfl rfl rfl (by simp [wtA]) (sp_X12_isSign (by omega) hp (by omega) (fun b_3 => ?_) (fun b_3 => ?_))
  · refine r_if_eq (tgt := 50) dX12_actRead_6 rfl ⟨by decide, by decide⟩ (fun c_6 => absurd c_6 (by decide)) (fun c_6 => ?_)
    refine r_aload_n dX12_actRead_9 rfl rfl ?_
    refine r_getI dX12_actRead_10 fl_X12_273 sh_49 rfl ?_
    refine r_if_le (tgt := 50) dX12_actRead_13 rfl (by omega) (fun c_13 => ?_) (fun c_13 => ?_)
    · have nc : ¬ (tK (h 3) n s.1 = 41 ∧ 0 < h 49 22) := fun z => by
        first
          | exact absurd z.1 b_3
          | omega
      exact lp_act50 (by omega) (kt nc) (kf nc) 1 hx hp h0 hF hn hi ho (by decide)
    · refine r_aload_n dX12_actRead_16 rfl rfl ?_
      refine r_dup dX12_actRead_17 (fun _ h => by cases h) ?_
      refine r_getI dX12_actRead_18 fl_X12_273 sh_49 rfl ?_
      refine r_iconst dX12_actRead_21 ?_
      refine r_isub dX12_actRead_22 ?_
      refine r_putI dX12_actRead_23 fl_X12_273 sh_49 rfl ?_
      have hq2 := hq (h 49 22 - 1).toNat (by omega)
      refine r_aload_n dX12_actRead_26 rfl rfl ?_
      refine r_getR dX12_actRead_27 fl_X12_41 sh_49 rfl ?_
      refine r_aload_n dX12_actRead_30 rfl rfl ?_
      refine r_getR dX12_actRead_31 fl_X12_44 sh_49 rfl ?_
      refine r_aload_n dX12_actRead_34 rfl rfl ?_
      refine r_getI dX12_actRead_35 fl_X12_273 sh_49 rfl ?_
      refine r_eqI (up_s _ _ _ _) ?_
      refine r_iald dX12_actRead_38 sh_55 (by decide) (by omega) ?_
      refine r_eqI (up_nc (by decide)) ?_
      refine r_aload_n dX12_actRead_39 rfl rfl ?_
      refine r_getI dX12_actRead_40 fl_X12_276 sh_49 rfl ?_
      refine r_eqI (up_nk (by decide)) ?_
      refine r_iast dX12_actRead_43 sh_54 (by decide) (by omega) ?_
      rw [hi.1]
      refine r_gh (fun g eg => ?_)
      have gp : Hid (MS g n s) := by rw [eg]; exact MS.up (MS.up hp (by decide) (by decide)) (by decide) (fun z => absurd z.1 (by decide))
      have gx : MX g n := by rw [eg]; exact (hx.up (by decide) (by decide) (by decide) (by decide)).up (by decide) (by decide) (by decide) (fun z => absurd z.1 (by decide))
      have gf : ∀ x k, ¬ (x = 54 ∧ k = (h 55 (h 49 22 - 1).toNat).toNat) → ¬ (x = 49 ∧ k = 22) → g x k = h x k := fun x k z1 z2 => by
        rw [eg]
        unfold upH
        rw [if_neg z1, if_neg z2]
      have g22 : g 49 22 = h 49 22 - 1 := by rw [eg, up_nc (by decide), up_s]
      have g54 : g 54 (h 55 (h 49 22 - 1).toNat).toNat = i := by rw [eg, up_s]
      clear eg
      refine r_aload_n dX12_actRead_44 rfl rfl ?_
      refine r_callVU (av := []) (M' := mX12_take) dX12_actRead_45 vX12_take ml_X12_253 sh_49 (by decide) rfl rfl rfl rfl (by simp [wtA]) (sp_X12_take (n := n) (p := tE (g 3) n s.1) (by omega) ⟨gx.1, gx.2.1⟩ ⟨(show MS g n s from gp).1.2.1, (tE_r (show MS g n s from gp).2.2.2.1).2.1⟩ gx.2.2.1 gx.2.2.2 (fun h_45 f0_45 f1_45 => ?_))
      refine r_iconst dX12_actRead_48 ?_
      refine r_zret dX12_actRead_49 rfl (.inr rfl) ?_
      have st := MS.step (show MS g n s from gp) f0_45 f1_45
      rw [show g 3 = h 3 from funext fun j => gf 3 j (fun z => absurd z.1 (by decide)) (fun z => absurd z.1 (by decide))] at st
      obtain ⟨sp, sq⟩ := st
      have sp : Hid (MS h_45 n (tE3 (h 3) n s)) := sp
      clear f0_45 f1_45
      refine ⟨_, rfl, kc ⟨b_3, by omega⟩ h_45 (fun x k z1 z2 => ?_) sp ⟨?_, ?_, ?_, ?_, fun k hk => ?_, fun a k hk => ?_⟩⟩
      · rw [sq x k (by omega)]; exact gf x k (by omega) (by omega)
      · rw [sq 49 18 (by decide)]; exact gf 49 18 (by omega) (by decide)
      · rw [sq 49 24 (by decide)]; exact gf 49 24 (by omega) (by decide)
      · rw [sq 49 22 (by decide)]; exact g22
      · rw [sq 54 _ (by omega), g54]; exact hi.1.symm
      · rw [sq 54 k (by omega)]; exact gf 54 k (by omega) (by omega)
      · rw [sq a k (by omega)]; exact gf a k (by omega) (by omega)
  · refine r_if_eq (tgt := 50) dX12_actRead_6 rfl ⟨by decide, by decide⟩ (fun c_6 => ?_) (fun c_6 => absurd c_6 (by decide))
    have nc : ¬ (tK (h 3) n s.1 = 41 ∧ 0 < h 49 22) := fun z => by
      first
        | exact absurd z.1 b_3
        | omega
    exact lp_act50 (by omega) (kt nc) (kf nc) 1 hx hp h0 hF hn hi ho (by decide)
