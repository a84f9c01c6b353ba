/-! FOUND and MENDED, THE REFERENCE -/
theorem mnN_cg {t : Int} {f g : Nat → Int} : ∀ {n : Nat}, (∀ i, i < n → f i = g i) → mnN t f n = mnN t g n
  | 0, _ => rfl
  | n + 1, h => by rw [mnN, mnN, mnN_cg (fun i hi => h i (by omega)), h n (by omega)]
theorem dM_cg {B B2 : Nat → Int} {l r : Int} (h : ∀ f : Nat, f < 169 → B f = B2 f) : dM B l r = dM B2 l r := mnN_cg (fun i hi => by rw [h i hi])
theorem aM_cg {B B2 : Nat → Int} {l r z : Int} (h : ∀ f : Nat, f < 169 → B f = B2 f) : aM B l r z = aM B2 l r z := fsN_cg (fun i _ hi => by rw [h i (by omega)])
abbrev FrY (h g : Hp) : Prop := ∀ a k, a ≠ 73 → a ≠ 74 → a ≠ 75 → ¬ (a = 49 ∧ k = 55) → g a k = h a k
theorem FrY.fm {h g : Hp} (f : FrY h g) : FrM h g := fun a k z => f a k (by rintro rfl; cases z) (by rintro rfl; cases z) (by rintro rfl; cases z) (by rintro ⟨rfl, rfl⟩; cases z)
set_option maxRecDepth 20000 in
set_option maxHeartbeats 400000 in
theorem lp_finds1 {d : Nat} (hd : 5 ≤ d) {post : Pst} {h : Hp} {q : Int} {c N : Nat} (hw : MOK h) (hn : 0 ≤ (h 49 29) ∧ (h 49 29) ≤ 150) (hxy : MXY (h 49 3) (h 49 4) (h 60) (h 61) 0 (h 49 29)) (hX : ∀ k : Nat, (k : Int) < (h 49 48) → 0 ≤ h 70 k ∧ h 70 k < (h 49 29) ∧ R32 (h 71 k) ∧ R32 (h 72 k)) (hN : (h 49 48) = N ∧ N ≤ 12) (hc : c < N) (hd2 : 0 ≤ q ∧ q ≤ 999) (K : ∀ (g : Hp) (o o2 : Option AV), FrY h g → (∀ c2 j : Nat, c ≤ c2 → c2 < N → j < 169 → g 73 (169 * c2 + j) = bkF (ftN (h 49 48) (h 49 5) (h 49 3) (h 49 6) (mL (h 49 5) (h 49 6) (h 60) (h 61)) (mR (h 49 3) (h 49 5) (h 49 6) (h 60) (h 61)) (h 70) (h 71) (h 72) q) N c2 j) → WW mX12_finds (d + 1) post 106 [some (.inr (.inr 49)), some (.inl q), some (.inl (c : Int)), o, o2] [] g) : ∀ (nn : Nat) (f : Nat) (g : Hp) (o : Option AV), (f ≤ 169) → (FrY h g) → (∀ j : Nat, j < f → g 73 (169 * c + j) = bkF (ftN (h 49 48) (h 49 5) (h 49 3) (h 49 6) (mL (h 49 5) (h 49 6) (h 60) (h 61)) (mR (h 49 3) (h 49 5) (h 49 6) (h 60) (h 61)) (h 70) (h 71) (h 72) q) N c j) → (∀ c2 j : Nat, c < c2 → c2 < N → j < 169 → g 73 (169 * c2 + j) = bkF (ftN (h 49 48) (h 49 5) (h 49 3) (h 49 6) (mL (h 49 5) (h 49 6) (h 60) (h 61)) (mR (h 49 3) (h 49 5) (h 49 6) (h 60) (h 61)) (h 70) (h 71) (h 72) q) N c2 j) → 169 - f < nn → WW mX12_finds (d + 1) post 13 [some (.inr (.inr 49)), some (.inl q), some (.inl (c : Int)), some (.inl (f : Int)), o] [] g := by
  intro nn
  induction nn with
  | zero => intro f g o hf hg h1 h2; intros; omega
  | succ nn ih =>
    intro f g o hf hg h1 h2 hmu
    have w3 := hg 49 3 (by decide) (by decide) (by decide) (by decide)
    have w4 := hg 49 4 (by decide) (by decide) (by decide) (by decide)
    have w5 := hg 49 5 (by decide) (by decide) (by decide) (by decide)
    have w6 := hg 49 6 (by decide) (by decide) (by decide) (by decide)
    have w7 := hg 49 7 (by decide) (by decide) (by decide) (by decide)
    have w8 := hg 49 8 (by decide) (by decide) (by decide) (by decide)
    have w29 := hg 49 29 (by decide) (by decide) (by decide) (by decide)
    have w48 := hg 49 48 (by decide) (by decide) (by decide) (by decide)
    have gw : MOK g := by omega
    have v60 : g 60 = h 60 := funext fun j => hg 60 j (by decide) (by decide) (by decide) (by omega)
    have v61 : g 61 = h 61 := funext fun j => hg 61 j (by decide) (by decide) (by decide) (by omega)
    have v70 : g 70 = h 70 := funext fun j => hg 70 j (by decide) (by decide) (by decide) (by omega)
    have v71 : g 71 = h 71 := funext fun j => hg 71 j (by decide) (by decide) (by decide) (by omega)
    have v72 : g 72 = h 72 := funext fun j => hg 72 j (by decide) (by decide) (by decide) (by omega)
    have mx : MXY (g 49 3) (g 49 4) (g 60) (g 61) 0 (g 49 29) := by rw [w3, w4, w29, v60, v61]; exact hxy
    have ec : ((c : Int)).toNat = c := Int.toNat_natCast c
    have ei : (169 * (c : Int) + f).toNat = 169 * c + f := by omega
    have xc := hX c (by omega)
    refine r_iload_n dX12_finds_13 rfl rfl ?_
    refine r_sipush dX12_finds_14 (by decide +kernel) ?_
    refine r_icmp_ge (tgt := 106) dX12_finds_17 rfl (by omega) ⟨by decide, by decide⟩ (fun c_17 => ?_) (fun c_17 => ?_)
    · have e : f = 169 := by omega
      subst e
      refine K g _ _ hg (fun c2 j z1 z2 z3 => ?_)
      by_cases e : c2 = c
      · rw [e]; exact h1 j z3
      · exact h2 c2 j (by omega) z2 z3
    · have lr := fLR_r (f := f) (by omega)
      refine r_aload_n dX12_finds_20 rfl rfl ?_
      refine r_iload_n dX12_finds_21 rfl rfl ?_
      refine r_iload_n dX12_finds_22 rfl rfl ?_
      refine r_bipush dX12_finds_23 (by decide +kernel) ?_
      refine r_idiv dX12_finds_25 (by omega) ⟨by decide, by decide⟩ (by decide) ?_
      refine r_bipush dX12_finds_26 (by decide +kernel) ?_
      refine r_isub dX12_finds_28 ?_
      rw [fLe]
      refine r_iload_n dX12_finds_29 rfl rfl ?_
      refine r_bipush dX12_finds_30 (by decide +kernel) ?_
      refine r_irem dX12_finds_32 (by omega) ⟨by decide, by decide⟩ (by decide) ?_
      refine r_bipush dX12_finds_33 (by decide +kernel) ?_
      refine r_isub dX12_finds_35 ?_
      rw [fRe]
      refine r_iload_n dX12_finds_36 rfl rfl ?_
      refine r_callVI (av := [_, _, _, _]) (M' := mX12_fits) dX12_finds_37 vX12_fits ml_X12_395 sh_49 (by decide) rfl rfl rfl rfl (by simp [wtA]) (sp_X12_fits (by omega) (by omega) (by omega) mx (by omega) (by rw [ec, v70, w29]; exact ⟨xc.1, xc.2.1⟩) (by rw [ec, v71, v72]; exact xc.2.2) (by omega) (by omega) (by omega) (fun b_37 => ?_) (fun b_37 => ?_))
      · refine r_istore (L' := [_, _, _, _, _]) dX12_finds_40 rfl (by decide) rfl ?_
        refine r_aload_n dX12_finds_42 rfl rfl ?_
        refine r_getR dX12_finds_43 fl_X12_100 sh_49 rfl ?_
        refine r_sipush dX12_finds_46 (by decide +kernel) ?_
        refine r_iload_n dX12_finds_49 rfl rfl ?_
        refine r_imul dX12_finds_50 ?_
        refine r_iload_n dX12_finds_51 rfl rfl ?_
        refine r_iadd dX12_finds_52 ?_
        refine r_iload dX12_finds_53 rfl ?_
        refine r_if_ne (tgt := 64) dX12_finds_55 rfl ⟨by decide, by decide⟩ (fun c_55 => ?_) (fun c_55 => absurd c_55 (by decide))
        refine r_iload_n dX12_finds_64 rfl rfl ?_
        refine r_aload_n dX12_finds_65 rfl rfl ?_
        refine r_getI dX12_finds_66 fl_X12_177 sh_49 rfl ?_
        refine r_iconst dX12_finds_69 ?_
        refine r_isub dX12_finds_70 ?_
        refine r_icmp_ne (tgt := 78) dX12_finds_71 rfl (by omega) (by omega) (fun c_71 => ?_) (fun c_71 => ?_)
        · refine r_aload_n dX12_finds_78 rfl rfl ?_
          refine r_iload_n dX12_finds_79 rfl rfl ?_
          refine r_iconst dX12_finds_80 ?_
          refine r_iadd dX12_finds_81 ?_
          rw [show (c : Int) + 1 = ((c + 1 : Nat) : Int) by omega]
          refine r_iload_n dX12_finds_82 rfl rfl ?_
          refine r_bipush dX12_finds_83 (by decide +kernel) ?_
          refine r_idiv dX12_finds_85 (by omega) ⟨by decide, by decide⟩ (by decide) ?_
          refine r_bipush dX12_finds_86 (by decide +kernel) ?_
          refine r_isub dX12_finds_88 ?_
          rw [fLe]
          refine r_iload_n dX12_finds_89 rfl rfl ?_
          refine r_bipush dX12_finds_90 (by decide +kernel) ?_
          refine r_irem dX12_finds_92 (by omega) ⟨by decide, by decide⟩ (by decide) ?_
          refine r_bipush dX12_finds_93 (by decide +kernel) ?_
          refine r_isub dX12_finds_95 ?_
          rw [fRe]
          refine r_callVI (av := [_, _, _]) (M' := mX12_goesOn) dX12_finds_96 vX12_goesOn ml_X12_398 sh_49 (by decide) rfl rfl rfl rfl (by simp [wtA]) (sp_X12_goesOn (c := c + 1) (by omega) (by omega) (by omega) (by omega) (fun j hj => by rw [h2 (c + 1) j (by omega) (by omega) hj]; exact bhF_r _ _ _ _) (fun g2 y0 _ => ?_))
          have f1 : (ftN (h 49 48) (h 49 5) (h 49 3) (h 49 6) (mL (h 49 5) (h 49 6) (h 60) (h 61)) (mR (h 49 3) (h 49 5) (h 49 6) (h 60) (h 61)) (h 70) (h 71) (h 72) q) (N - 1 - (N - 1 - c)) f = 1 := by
            rw [show N - 1 - (N - 1 - c) = c by omega]
            rw [ec, v60, v61, v70, v71, v72, w3, w5, w6] at b_37
            exact if_pos ⟨by omega, b_37⟩
          have eb : bkF (ftN (h 49 48) (h 49 5) (h 49 3) (h 49 6) (mL (h 49 5) (h 49 6) (h 60) (h 61)) (mR (h 49 3) (h 49 5) (h 49 6) (h 60) (h 61)) (h 70) (h 71) (h 72) q) N c f = onF (ftN (h 49 48) (h 49 5) (h 49 3) (h 49 6) (mL (h 49 5) (h 49 6) (h 60) (h 61)) (mR (h 49 3) (h 49 5) (h 49 6) (h 60) (h 61)) (h 70) (h 71) (h 72) q) N (N - 1 - c) f := if_pos f1
          refine r_eqI (y := bkF (ftN (h 49 48) (h 49 5) (h 49 3) (h 49 6) (mL (h 49 5) (h 49 6) (h 60) (h 61)) (mR (h 49 3) (h 49 5) (h 49 6) (h 60) (h 61)) (h 70) (h 71) (h 72) q) N c f) ?_ ?_
          · rw [eb, show N - 1 - c = (N - 1 - (c + 1)) + 1 by omega, onF_s]
            exact dM_cg (fun j hj => h2 (c + 1) j (by omega) (by omega) hj)
          refine r_iast dX12_finds_99 sh_73 (by decide) (by omega) ?_
          refine r_iinc (L' := [_, _, _, _, _]) dX12_finds_100 rfl rfl (by decide) rfl ?_
          refine r_goto (tgt := 13) dX12_finds_103 rfl ?_
          rw [ei]
          refine ih (f + 1) _ _ (by omega) (fun a k z1 z2 z3 z4 => ?_) (fun j hj => ?_) (fun c2 j z1 z2 z3 => ?_) (by omega)
          · rw [up_nc z1]
            exact (y0 a k (by omega)).trans (hg a k z1 z2 z3 z4)
          · by_cases e : j = f
            · rw [e]; exact up_s _ _ _ _
            · rw [up_nk (by omega)]
              exact (y0 73 _ (by omega)).trans (h1 j (by omega))
          · rw [up_nk (by omega)]
            exact (y0 73 _ (by omega)).trans (h2 c2 j z1 z2 z3)
        · refine r_iconst dX12_finds_74 ?_
          refine r_goto (tgt := 99) dX12_finds_75 rfl ?_
          have f1 : (ftN (h 49 48) (h 49 5) (h 49 3) (h 49 6) (mL (h 49 5) (h 49 6) (h 60) (h 61)) (mR (h 49 3) (h 49 5) (h 49 6) (h 60) (h 61)) (h 70) (h 71) (h 72) q) (N - 1 - (N - 1 - c)) f = 1 := by
            rw [show N - 1 - (N - 1 - c) = c by omega]
            rw [ec, v60, v61, v70, v71, v72, w3, w5, w6] at b_37
            exact if_pos ⟨by omega, b_37⟩
          have eb : bkF (ftN (h 49 48) (h 49 5) (h 49 3) (h 49 6) (mL (h 49 5) (h 49 6) (h 60) (h 61)) (mR (h 49 3) (h 49 5) (h 49 6) (h 60) (h 61)) (h 70) (h 71) (h 72) q) N c f = onF (ftN (h 49 48) (h 49 5) (h 49 3) (h 49 6) (mL (h 49 5) (h 49 6) (h 60) (h 61)) (mR (h 49 3) (h 49 5) (h 49 6) (h 60) (h 61)) (h 70) (h 71) (h 72) q) N (N - 1 - c) f := if_pos f1
          refine r_eqI (y := bkF (ftN (h 49 48) (h 49 5) (h 49 3) (h 49 6) (mL (h 49 5) (h 49 6) (h 60) (h 61)) (mR (h 49 3) (h 49 5) (h 49 6) (h 60) (h 61)) (h 70) (h 71) (h 72) q) N c f) ?_ ?_
          · rw [eb, show N - 1 - c = 0 by omega]
            rfl
          refine r_iast dX12_finds_99 sh_73 (by decide) (by omega) ?_
          refine r_iinc (L' := [_, _, _, _, _]) dX12_finds_100 rfl rfl (by decide) rfl ?_
          refine r_goto (tgt := 13) dX12_finds_103 rfl ?_
          rw [ei]
          refine ih (f + 1) _ _ (by omega) (fun a k z1 z2 z3 z4 => ?_) (fun j hj => ?_) (fun c2 j z1 z2 z3 => ?_) (by omega)
          · rw [up_nc z1]
            exact hg a k z1 z2 z3 z4
          · by_cases e : j = f
            · rw [e]; exact up_s _ _ _ _
            · rw [up_nk (by omega)]
              exact h1 j (by omega)
          · rw [up_nk (by omega)]
            exact h2 c2 j z1 z2 z3
      · refine r_istore (L' := [_, _, _, _, _]) dX12_finds_40 rfl (by decide) rfl ?_
        refine r_aload_n dX12_finds_42 rfl rfl ?_
        refine r_getR dX12_finds_43 fl_X12_100 sh_49 rfl ?_
        refine r_sipush dX12_finds_46 (by decide +kernel) ?_
        refine r_iload_n dX12_finds_49 rfl rfl ?_
        refine r_imul dX12_finds_50 ?_
        refine r_iload_n dX12_finds_51 rfl rfl ?_
        refine r_iadd dX12_finds_52 ?_
        refine r_iload dX12_finds_53 rfl ?_
        refine r_if_ne (tgt := 64) dX12_finds_55 rfl ⟨by decide, by decide⟩ (fun c_55 => absurd c_55 (by decide)) (fun c_55 => ?_)
        refine r_ldcw (z := 1000000) dX12_finds_58 kc_X12_394 (by decide +kernel) ?_
        refine r_goto (tgt := 99) dX12_finds_61 rfl ?_
        refine r_eqI (y := bkF (ftN (h 49 48) (h 49 5) (h 49 3) (h 49 6) (mL (h 49 5) (h 49 6) (h 60) (h 61)) (mR (h 49 3) (h 49 5) (h 49 6) (h 60) (h 61)) (h 70) (h 71) (h 72) q) N c f) ?_ ?_
        · refine (if_neg ?_).symm
          unfold ftN
          rw [show N - 1 - (N - 1 - c) = c by omega]
          rw [ec, v60, v61, v70, v71, v72, w3, w5, w6] at b_37
          rw [if_neg (fun y => b_37 y.2)]
          decide
        refine r_iast dX12_finds_99 sh_73 (by decide) (by omega) ?_
        refine r_iinc (L' := [_, _, _, _, _]) dX12_finds_100 rfl rfl (by decide) rfl ?_
        refine r_goto (tgt := 13) dX12_finds_103 rfl ?_
        rw [ei]
        refine ih (f + 1) _ _ (by omega) (fun a k z1 z2 z3 z4 => ?_) (fun j hj => ?_) (fun c2 j z1 z2 z3 => ?_) (by omega)
        · rw [up_nc z1]
          exact hg a k z1 z2 z3 z4
        · by_cases e : j = f
          · rw [e]; exact up_s _ _ _ _
          · rw [up_nk (by omega)]
            exact h1 j (by omega)
        · rw [up_nk (by omega)]
          exact h2 c2 j z1 z2 z3
set_option maxRecDepth 20000 in
set_option maxHeartbeats 400000 in
theorem lp_finds2 {d : Nat} (hd : 5 ≤ d) {post : Pst} {h : Hp} {q : Int} {N : Nat} (hw : MOK h) (hn : 0 ≤ (h 49 29) ∧ (h 49 29) ≤ 150) (hxy : MXY (h 49 3) (h 49 4) (h 60) (h 61) 0 (h 49 29)) (hX : ∀ k : Nat, (k : Int) < (h 49 48) → 0 ≤ h 70 k ∧ h 70 k < (h 49 29) ∧ R32 (h 71 k) ∧ R32 (h 72 k)) (hN : (h 49 48) = N ∧ N ≤ 12) (hd2 : 0 ≤ q ∧ q ≤ 999) (K : ∀ (g : Hp) (o o2 o3 : Option AV), FrY h g → (∀ c2 j : Nat, c2 < N → j < 169 → g 73 (169 * c2 + j) = bkF (ftN (h 49 48) (h 49 5) (h 49 3) (h 49 6) (mL (h 49 5) (h 49 6) (h 60) (h 61)) (mR (h 49 3) (h 49 5) (h 49 6) (h 60) (h 61)) (h 70) (h 71) (h 72) q) N c2 j) → WW mX12_finds (d + 1) post 112 [some (.inr (.inr 49)), some (.inl q), o, o2, o3] [] g) : ∀ (nn : Nat) (i : Nat) (g : Hp) (o o2 : Option AV), (i ≤ N) → (FrY h g) → (∀ c2 j : Nat, N ≤ c2 + i → c2 < N → j < 169 → g 73 (169 * c2 + j) = bkF (ftN (h 49 48) (h 49 5) (h 49 3) (h 49 6) (mL (h 49 5) (h 49 6) (h 60) (h 61)) (mR (h 49 3) (h 49 5) (h 49 6) (h 60) (h 61)) (h 70) (h 71) (h 72) q) N c2 j) → N - i < nn → WW mX12_finds (d + 1) post 7 [some (.inr (.inr 49)), some (.inl q), some (.inl ((N : Int) - 1 - i)), o, o2] [] g := by
  intro nn
  induction nn with
  | zero => intro i g o o2 hi hg h2; intros; omega
  | succ nn ih =>
    intro i g o o2 hi hg h2 hmu
    have w3 := hg 49 3 (by decide) (by decide) (by decide) (by decide)
    have w4 := hg 49 4 (by decide) (by decide) (by decide) (by decide)
    have w5 := hg 49 5 (by decide) (by decide) (by decide) (by decide)
    have w6 := hg 49 6 (by decide) (by decide) (by decide) (by decide)
    have w7 := hg 49 7 (by decide) (by decide) (by decide) (by decide)
    have w8 := hg 49 8 (by decide) (by decide) (by decide) (by decide)
    have w29 := hg 49 29 (by decide) (by decide) (by decide) (by decide)
    have w48 := hg 49 48 (by decide) (by decide) (by decide) (by decide)
    have gw : MOK g := by omega
    have v60 : g 60 = h 60 := funext fun j => hg 60 j (by decide) (by decide) (by decide) (by omega)
    have v61 : g 61 = h 61 := funext fun j => hg 61 j (by decide) (by decide) (by decide) (by omega)
    have v70 : g 70 = h 70 := funext fun j => hg 70 j (by decide) (by decide) (by decide) (by omega)
    have v71 : g 71 = h 71 := funext fun j => hg 71 j (by decide) (by decide) (by decide) (by omega)
    have v72 : g 72 = h 72 := funext fun j => hg 72 j (by decide) (by decide) (by decide) (by omega)
    have mx : MXY (g 49 3) (g 49 4) (g 60) (g 61) 0 (g 49 29) := by rw [w3, w4, w29, v60, v61]; exact hxy
    have fN : ftN (g 49 48) (g 49 5) (g 49 3) (g 49 6) (mL (g 49 5) (g 49 6) (g 60) (g 61)) (mR (g 49 3) (g 49 5) (g 49 6) (g 60) (g 61)) (g 70) (g 71) (g 72) q = (ftN (h 49 48) (h 49 5) (h 49 3) (h 49 6) (mL (h 49 5) (h 49 6) (h 60) (h 61)) (mR (h 49 3) (h 49 5) (h 49 6) (h 60) (h 61)) (h 70) (h 71) (h 72) q) := by rw [w3, w5, w6, w48, v60, v61, v70, v71, v72]
    refine r_iload_n dX12_finds_7 rfl rfl ?_
    refine r_if_lt (tgt := 112) dX12_finds_8 rfl (by omega) (fun c_8 => ?_) (fun c_8 => ?_)
    · have e : i = N := by omega
      subst e
      exact K g _ _ _ hg (fun c2 j a b => h2 c2 j (by omega) a b)
    · rw [show (N : Int) - 1 - i = ((N - 1 - i : Nat) : Int) by omega]
      refine r_iconst dX12_finds_11 ?_
      refine r_istore_n (L' := [_, _, _, _, _]) dX12_finds_12 rfl rfl (by decide) rfl ?_
      refine lp_finds1 (h := g) (c := N - 1 - i) (N := N) hd gw (by omega) mx (fun k hk => by rw [v70, v71, v72, w29]; rw [w48] at hk; exact hX k hk) ⟨w48.trans hN.1, hN.2⟩ (by omega) hd2 (fun g2 o3 o4 y1 y2 => ?_) 170 0 g _ (by omega) (fun _ _ _ _ _ _ => rfl) (fun j hj => absurd hj (Nat.not_lt_zero j)) (fun c2 j z1 z2 z3 => by rw [fN]; exact h2 c2 j (by omega) z2 z3) (by omega)
      rw [fN] at y2
      refine r_iinc (L' := [_, _, _, _, _]) dX12_finds_106 rfl rfl (by decide) rfl ?_
      refine r_goto (tgt := 7) dX12_finds_109 rfl ?_
      rw [show ((N - 1 - i : Nat) : Int) + -1 = (N : Int) - 1 - (i + 1 : Nat) by omega]
      exact ih (i + 1) g2 _ _ (by omega) (fun a k z1 z2 z3 z4 => (y1 a k z1 z2 z3 z4).trans (hg a k z1 z2 z3 z4)) (fun c2 j z1 z2 z3 => y2 c2 j (by omega) z2 z3) (by omega)
set_option maxRecDepth 20000 in
set_option maxHeartbeats 400000 in
theorem lp_finds3 {d : Nat} (hd : 5 ≤ d) {P : Int → Hp → Prop} {h : Hp} {q : Int} {ft : Nat → Nat → Int} {N : Nat} (hN : (h 49 48) = N ∧ N ≤ 12) (hb : ∀ c j : Nat, c < N → j < 169 → h 73 (169 * c + j) = bkF ft N c j) (kt : lsF ft N < 1000000 → ∀ g : Hp, (∀ a k, a ≠ 74 → a ≠ 75 → ¬ (a = 49 ∧ k = 55) → g a k = h a k) → g 49 55 = lsF ft N → (∀ j : Nat, j < N → g 74 j = fL (chF (bkF ft N) j) ∧ g 75 j = fR (chF (bkF ft N) j)) → P 1 g) (kf : ¬ lsF ft N < 1000000 → ∀ g : Hp, (∀ a k, a ≠ 74 → a ≠ 75 → ¬ (a = 49 ∧ k = 55) → g a k = h a k) → P 0 g) : ∀ (nn : Nat) (c : Nat) (g : Hp) (o o2 : Option AV), (c ≤ N) → (∀ a k, a ≠ 74 → a ≠ 75 → ¬ (a = 49 ∧ k = 55) → g a k = h a k) → (∀ j : Nat, j < c → g 74 j = fL (chF (bkF ft N) j) ∧ g 75 j = fR (chF (bkF ft N) j)) → (g 49 55 = if c = 0 then 0 else lsF ft N) → (0 < c → lsF ft N < 1000000) → N - c < nn → WW mX12_finds (d + 1) (pI P) 119 [some (.inr (.inr 49)), some (.inl q), some (.inl (c : Int)), o, o2] [] g := by
  intro nn
  induction nn with
  | zero => intro c g o o2 hc hg h1 h5 h6; intros; omega
  | succ nn ih =>
    intro c g o o2 hc hg h1 h5 h6 hmu
    have w48 := hg 49 48 (by decide) (by decide) (by decide)
    have cr := cLR_r (bkF ft N) c
    have ec : ((c : Int)).toNat = c := Int.toNat_natCast c
    have gb : ∀ j : Nat, c < N → j < 169 → g 73 (169 * c + j) = bkF ft N c j := fun j hc hj => by rw [hg 73 _ (by decide) (by decide) (by omega)]; exact hb c j hc hj
    refine r_iload_n dX12_finds_119 rfl rfl ?_
    refine r_aload_n dX12_finds_120 rfl rfl ?_
    refine r_getI dX12_finds_121 fl_X12_177 sh_49 rfl ?_
    refine r_icmp_ge (tgt := 196) dX12_finds_124 rfl (by omega) (by omega) (fun c_124 => ?_) (fun c_124 => ?_)
    · refine r_iconst dX12_finds_196 ?_
      refine r_zret dX12_finds_197 rfl (.inr rfl) ?_
      have e : c = N := by omega
      subst e
      refine ⟨_, rfl, kt ?_ g hg ?_ h1⟩
      · by_cases z : c = 0
        · subst z
          show (0 : Int) < 1000000
          decide
        · exact h6 (by omega)
      · rw [h5]
        split
        · rename_i z
          subst z
          rfl
        · rfl
    · refine r_aload_n dX12_finds_127 rfl rfl ?_
      refine r_iload_n dX12_finds_128 rfl rfl ?_
      refine r_iload_n dX12_finds_129 rfl rfl ?_
      refine r_if_ne (tgt := 137) dX12_finds_130 rfl (by omega) (fun c_130 => ?_) (fun c_130 => ?_)
      · refine r_aload_n dX12_finds_137 rfl rfl ?_
        refine r_getR dX12_finds_138 fl_X12_103 sh_49 rfl ?_
        refine r_iload_n dX12_finds_141 rfl rfl ?_
        refine r_iconst dX12_finds_142 ?_
        refine r_isub dX12_finds_143 ?_
        refine r_iald dX12_finds_144 sh_74 (by decide) (by omega) ?_
        refine r_eqI (y := cL (bkF ft N) c) ?_ ?_
        · first
            | (have e : c = 0 := by omega
               rw [e]
               rfl)
            | (rw [show ((c : Int) - 1).toNat = c - 1 by omega, (h1 (c - 1) (by omega)).1]
               obtain ⟨m, rfl⟩ : ∃ m, c = m + 1 := ⟨c - 1, by omega⟩
               rfl)
        refine r_iload_n dX12_finds_145 rfl rfl ?_
        refine r_if_ne (tgt := 153) dX12_finds_146 rfl (by omega) (fun c_146 => ?_) (fun c_146 => ?_)
        · refine r_aload_n dX12_finds_153 rfl rfl ?_
          refine r_getR dX12_finds_154 fl_X12_106 sh_49 rfl ?_
          refine r_iload_n dX12_finds_157 rfl rfl ?_
          refine r_iconst dX12_finds_158 ?_
          refine r_isub dX12_finds_159 ?_
          refine r_iald dX12_finds_160 sh_75 (by decide) (by omega) ?_
          refine r_eqI (y := cR (bkF ft N) c) ?_ ?_
          · first
              | (exfalso; omega)
              | (have e : c = 0 := by omega
                 rw [e]
                 rfl)
              | (rw [show ((c : Int) - 1).toNat = c - 1 by omega, (h1 (c - 1) (by omega)).2]
                 obtain ⟨m, rfl⟩ : ∃ m, c = m + 1 := ⟨c - 1, by omega⟩
                 rfl)
          have hcN : c < N := by omega
          refine r_callVI (av := [_, _, _]) (M' := mX12_goesOn) dX12_finds_161 vX12_goesOn ml_X12_398 sh_49 (by decide) rfl rfl rfl rfl (by simp [wtA]) (sp_X12_goesOn (c := c) (by omega) (by omega) (by omega) (by omega) (fun j hj => by rw [gb j hcN hj]; exact bhF_r _ _ _ _) (fun g2 y0 y1 => ?_))
          rw [dM_cg (fun j hj => gb j hcN hj)]
          rw [dM_cg (fun j hj => gb j hcN hj), aM_cg (fun j hj => gb j hcN hj), ← chF_eq] at y1
          have dr : 0 ≤ dM (bkF ft N c) (cL (bkF ft N) c) (cR (bkF ft N) c) ∧ dM (bkF ft N c) (cL (bkF ft N) c) (cR (bkF ft N) c) ≤ 1000000 := dM_r (fun f _ => (bhF_r _ _ _ _).1)
          have l0 : c = 0 → dM (bkF ft N c) (cL (bkF ft N) c) (cR (bkF ft N) c) = lsF ft N := fun e => by
            rw [lsF_0 (by omega), e]
            rfl
          refine r_istore_n (L' := [_, _, _, _, _]) dX12_finds_164 rfl rfl (by decide) rfl ?_
          refine r_iload_n dX12_finds_165 rfl rfl ?_
          refine r_ldcw (z := 1000000) dX12_finds_166 kc_X12_394 (by decide +kernel) ?_
          refine r_icmp_lt (tgt := 174) dX12_finds_169 rfl (by omega) ⟨by decide, by decide⟩ (fun c_169 => ?_) (fun c_169 => ?_)
          · refine r_aload_n dX12_finds_174 rfl rfl ?_
            refine r_iload_n dX12_finds_175 rfl rfl ?_
            refine r_if_ne (tgt := 183) dX12_finds_176 rfl (by omega) (fun c_176 => ?_) (fun c_176 => ?_)
            · refine r_aload_n dX12_finds_183 rfl rfl ?_
              refine r_getI dX12_finds_184 fl_X12_401 sh_49 rfl ?_
              refine r_eqI (y := lsF ft N) ?_ ?_
              · first
                  | exact l0 (by omega)
                  | (rw [y0 49 55 (by omega), h5, if_neg (by omega)])
              refine r_putI dX12_finds_187 fl_X12_401 sh_49 rfl ?_
              refine r_iinc (L' := [_, _, _, _, _]) dX12_finds_190 rfl rfl (by decide) rfl ?_
              refine r_goto (tgt := 119) dX12_finds_193 rfl ?_
              have l1 : lsF ft N < 1000000 := by
                by_cases z : c = 0
                · rw [← l0 z]; omega
                · exact h6 (by omega)
              refine ih (c + 1) _ _ _ (by omega) (fun a k z1 z2 z3 => ?_) (fun j hj => ?_) (by rw [up_s, if_neg (by omega)]) (fun _ => l1) (by omega)
              · rw [show upH g2 49 55 (lsF ft N) a k = g2 a k by unfold upH; rw [if_neg z3]]
                exact (y0 a k (by omega)).trans (hg a k z1 z2 z3)
              · rw [up_nc (by decide), up_nc (by decide)]
                by_cases e : j = c
                · rw [e]; exact y1 (by omega)
                · rw [y0 74 j (by omega), y0 75 j (by omega)]
                  exact h1 j (by omega)
            · refine r_iload_n dX12_finds_179 rfl rfl ?_
              refine r_goto (tgt := 187) dX12_finds_180 rfl ?_
              refine r_eqI (y := lsF ft N) ?_ ?_
              · first
                  | exact l0 (by omega)
                  | (rw [y0 49 55 (by omega), h5, if_neg (by omega)])
              refine r_putI dX12_finds_187 fl_X12_401 sh_49 rfl ?_
              refine r_iinc (L' := [_, _, _, _, _]) dX12_finds_190 rfl rfl (by decide) rfl ?_
              refine r_goto (tgt := 119) dX12_finds_193 rfl ?_
              have l1 : lsF ft N < 1000000 := by
                by_cases z : c = 0
                · rw [← l0 z]; omega
                · exact h6 (by omega)
              refine ih (c + 1) _ _ _ (by omega) (fun a k z1 z2 z3 => ?_) (fun j hj => ?_) (by rw [up_s, if_neg (by omega)]) (fun _ => l1) (by omega)
              · rw [show upH g2 49 55 (lsF ft N) a k = g2 a k by unfold upH; rw [if_neg z3]]
                exact (y0 a k (by omega)).trans (hg a k z1 z2 z3)
              · rw [up_nc (by decide), up_nc (by decide)]
                by_cases e : j = c
                · rw [e]; exact y1 (by omega)
                · rw [y0 74 j (by omega), y0 75 j (by omega)]
                  exact h1 j (by omega)
          · refine r_iconst dX12_finds_172 ?_
            refine r_zret dX12_finds_173 rfl (.inl rfl) ?_
            refine ⟨_, rfl, kf (fun z => ?_) g2 (fun a k z1 z2 z3 => (y0 a k (by omega)).trans (hg a k z1 z2 z3))⟩
            have := chn_all z hcN
            omega
        · refine r_iconst dX12_finds_149 ?_
          refine r_goto (tgt := 161) dX12_finds_150 rfl ?_
          refine r_eqI (y := cR (bkF ft N) c) ?_ ?_
          · first
              | (exfalso; omega)
              | (have e : c = 0 := by omega
                 rw [e]
                 rfl)
              | (rw [show ((c : Int) - 1).toNat = c - 1 by omega, (h1 (c - 1) (by omega)).2]
                 obtain ⟨m, rfl⟩ : ∃ m, c = m + 1 := ⟨c - 1, by omega⟩
                 rfl)
          have hcN : c < N := by omega
          refine r_callVI (av := [_, _, _]) (M' := mX12_goesOn) dX12_finds_161 vX12_goesOn ml_X12_398 sh_49 (by decide) rfl rfl rfl rfl (by simp [wtA]) (sp_X12_goesOn (c := c) (by omega) (by omega) (by omega) (by omega) (fun j hj => by rw [gb j hcN hj]; exact bhF_r _ _ _ _) (fun g2 y0 y1 => ?_))
          rw [dM_cg (fun j hj => gb j hcN hj)]
          rw [dM_cg (fun j hj => gb j hcN hj), aM_cg (fun j hj => gb j hcN hj), ← chF_eq] at y1
          have dr : 0 ≤ dM (bkF ft N c) (cL (bkF ft N) c) (cR (bkF ft N) c) ∧ dM (bkF ft N c) (cL (bkF ft N) c) (cR (bkF ft N) c) ≤ 1000000 := dM_r (fun f _ => (bhF_r _ _ _ _).1)
          have l0 : c = 0 → dM (bkF ft N c) (cL (bkF ft N) c) (cR (bkF ft N) c) = lsF ft N := fun e => by
            rw [lsF_0 (by omega), e]
            rfl
          refine r_istore_n (L' := [_, _, _, _, _]) dX12_finds_164 rfl rfl (by decide) rfl ?_
          refine r_iload_n dX12_finds_165 rfl rfl ?_
          refine r_ldcw (z := 1000000) dX12_finds_166 kc_X12_394 (by decide +kernel) ?_
          refine r_icmp_lt (tgt := 174) dX12_finds_169 rfl (by omega) ⟨by decide, by decide⟩ (fun c_169 => ?_) (fun c_169 => ?_)
          · refine r_aload_n dX12_finds_174 rfl rfl ?_
            refine r_iload_n dX12_finds_175 rfl rfl ?_
            refine r_if_ne (tgt := 183) dX12_finds_176 rfl (by omega) (fun c_176 => ?_) (fun c_176 => ?_)
            · refine r_aload_n dX12_finds_183 rfl rfl ?_
              refine r_getI dX12_finds_184 fl_X12_401 sh_49 rfl ?_
              refine r_eqI (y := lsF ft N) ?_ ?_
              · first
                  | exact l0 (by omega)
                  | (rw [y0 49 55 (by omega), h5, if_neg (by omega)])
              refine r_putI dX12_finds_187 fl_X12_401 sh_49 rfl ?_
              refine r_iinc (L' := [_, _, _, _, _]) dX12_finds_190 rfl rfl (by decide) rfl ?_
              refine r_goto (tgt := 119) dX12_finds_193 rfl ?_
              have l1 : lsF ft N < 1000000 := by
                by_cases z : c = 0
                · rw [← l0 z]; omega
                · exact h6 (by omega)
              refine ih (c + 1) _ _ _ (by omega) (fun a k z1 z2 z3 => ?_) (fun j hj => ?_) (by rw [up_s, if_neg (by omega)]) (fun _ => l1) (by omega)
              · rw [show upH g2 49 55 (lsF ft N) a k = g2 a k by unfold upH; rw [if_neg z3]]
                exact (y0 a k (by omega)).trans (hg a k z1 z2 z3)
              · rw [up_nc (by decide), up_nc (by decide)]
                by_cases e : j = c
                · rw [e]; exact y1 (by omega)
                · rw [y0 74 j (by omega), y0 75 j (by omega)]
                  exact h1 j (by omega)
            · refine r_iload_n dX12_finds_179 rfl rfl ?_
              refine r_goto (tgt := 187) dX12_finds_180 rfl ?_
              refine r_eqI (y := lsF ft N) ?_ ?_
              · first
                  | exact l0 (by omega)
                  | (rw [y0 49 55 (by omega), h5, if_neg (by omega)])
              refine r_putI dX12_finds_187 fl_X12_401 sh_49 rfl ?_
              refine r_iinc (L' := [_, _, _, _, _]) dX12_finds_190 rfl rfl (by decide) rfl ?_
              refine r_goto (tgt := 119) dX12_finds_193 rfl ?_
              have l1 : lsF ft N < 1000000 := by
                by_cases z : c = 0
                · rw [← l0 z]; omega
                · exact h6 (by omega)
              refine ih (c + 1) _ _ _ (by omega) (fun a k z1 z2 z3 => ?_) (fun j hj => ?_) (by rw [up_s, if_neg (by omega)]) (fun _ => l1) (by omega)
              · rw [show upH g2 49 55 (lsF ft N) a k = g2 a k by unfold upH; rw [if_neg z3]]
                exact (y0 a k (by omega)).trans (hg a k z1 z2 z3)
              · rw [up_nc (by decide), up_nc (by decide)]
                by_cases e : j = c
                · rw [e]; exact y1 (by omega)
                · rw [y0 74 j (by omega), y0 75 j (by omega)]
                  exact h1 j (by omega)
          · refine r_iconst dX12_finds_172 ?_
            refine r_zret dX12_finds_173 rfl (.inl rfl) ?_
            refine ⟨_, rfl, kf (fun z => ?_) g2 (fun a k z1 z2 z3 => (y0 a k (by omega)).trans (hg a k z1 z2 z3))⟩
            have := chn_all z hcN
            omega
      · refine r_iconst dX12_finds_133 ?_
        refine r_goto (tgt := 145) dX12_finds_134 rfl ?_
        refine r_eqI (y := cL (bkF ft N) c) ?_ ?_
        · first
            | (have e : c = 0 := by omega
               rw [e]
               rfl)
            | (rw [show ((c : Int) - 1).toNat = c - 1 by omega, (h1 (c - 1) (by omega)).1]
               obtain ⟨m, rfl⟩ : ∃ m, c = m + 1 := ⟨c - 1, by omega⟩
               rfl)
        refine r_iload_n dX12_finds_145 rfl rfl ?_
        refine r_if_ne (tgt := 153) dX12_finds_146 rfl (by omega) (fun c_146 => ?_) (fun c_146 => ?_)
        · refine r_aload_n dX12_finds_153 rfl rfl ?_
          refine r_getR dX12_finds_154 fl_X12_106 sh_49 rfl ?_
          refine r_iload_n dX12_finds_157 rfl rfl ?_
          refine r_iconst dX12_finds_158 ?_
          refine r_isub dX12_finds_159 ?_
          refine r_iald dX12_finds_160 sh_75 (by decide) (by omega) ?_
          refine r_eqI (y := cR (bkF ft N) c) ?_ ?_
          · first
              | (exfalso; omega)
              | (have e : c = 0 := by omega
                 rw [e]
                 rfl)
              | (rw [show ((c : Int) - 1).toNat = c - 1 by omega, (h1 (c - 1) (by omega)).2]
                 obtain ⟨m, rfl⟩ : ∃ m, c = m + 1 := ⟨c - 1, by omega⟩
                 rfl)
          have hcN : c < N := by omega
          refine r_callVI (av := [_, _, _]) (M' := mX12_goesOn) dX12_finds_161 vX12_goesOn ml_X12_398 sh_49 (by decide) rfl rfl rfl rfl (by simp [wtA]) (sp_X12_goesOn (c := c) (by omega) (by omega) (by omega) (by omega) (fun j hj => by rw [gb j hcN hj]; exact bhF_r _ _ _ _) (fun g2 y0 y1 => ?_))
          rw [dM_cg (fun j hj => gb j hcN hj)]
          rw [dM_cg (fun j hj => gb j hcN hj), aM_cg (fun j hj => gb j hcN hj), ← chF_eq] at y1
          have dr : 0 ≤ dM (bkF ft N c) (cL (bkF ft N) c) (cR (bkF ft N) c) ∧ dM (bkF ft N c) (cL (bkF ft N) c) (cR (bkF ft N) c) ≤ 1000000 := dM_r (fun f _ => (bhF_r _ _ _ _).1)
          have l0 : c = 0 → dM (bkF ft N c) (cL (bkF ft N) c) (cR (bkF ft N) c) = lsF ft N := fun e => by
            rw [lsF_0 (by omega), e]
            rfl
          refine r_istore_n (L' := [_, _, _, _, _]) dX12_finds_164 rfl rfl (by decide) rfl ?_
          refine r_iload_n dX12_finds_165 rfl rfl ?_
          refine r_ldcw (z := 1000000) dX12_finds_166 kc_X12_394 (by decide +kernel) ?_
          refine r_icmp_lt (tgt := 174) dX12_finds_169 rfl (by omega) ⟨by decide, by decide⟩ (fun c_169 => ?_) (fun c_169 => ?_)
          · refine r_aload_n dX12_finds_174 rfl rfl ?_
            refine r_iload_n dX12_finds_175 rfl rfl ?_
            refine r_if_ne (tgt := 183) dX12_finds_176 rfl (by omega) (fun c_176 => ?_) (fun c_176 => ?_)
            · refine r_aload_n dX12_finds_183 rfl rfl ?_
              refine r_getI dX12_finds_184 fl_X12_401 sh_49 rfl ?_
              refine r_eqI (y := lsF ft N) ?_ ?_
              · first
                  | exact l0 (by omega)
                  | (rw [y0 49 55 (by omega), h5, if_neg (by omega)])
              refine r_putI dX12_finds_187 fl_X12_401 sh_49 rfl ?_
              refine r_iinc (L' := [_, _, _, _, _]) dX12_finds_190 rfl rfl (by decide) rfl ?_
              refine r_goto (tgt := 119) dX12_finds_193 rfl ?_
              have l1 : lsF ft N < 1000000 := by
                by_cases z : c = 0
                · rw [← l0 z]; omega
                · exact h6 (by omega)
              refine ih (c + 1) _ _ _ (by omega) (fun a k z1 z2 z3 => ?_) (fun j hj => ?_) (by rw [up_s, if_neg (by omega)]) (fun _ => l1) (by omega)
              · rw [show upH g2 49 55 (lsF ft N) a k = g2 a k by unfold upH; rw [if_neg z3]]
                exact (y0 a k (by omega)).trans (hg a k z1 z2 z3)
              · rw [up_nc (by decide), up_nc (by decide)]
                by_cases e : j = c
                · rw [e]; exact y1 (by omega)
                · rw [y0 74 j (by omega), y0 75 j (by omega)]
                  exact h1 j (by omega)
            · refine r_iload_n dX12_finds_179 rfl rfl ?_
              refine r_goto (tgt := 187) dX12_finds_180 rfl ?_
              refine r_eqI (y := lsF ft N) ?_ ?_
              · first
                  | exact l0 (by omega)
                  | (rw [y0 49 55 (by omega), h5, if_neg (by omega)])
              refine r_putI dX12_finds_187 fl_X12_401 sh_49 rfl ?_
              refine r_iinc (L' := [_, _, _, _, _]) dX12_finds_190 rfl rfl (by decide) rfl ?_
              refine r_goto (tgt := 119) dX12_finds_193 rfl ?_
              have l1 : lsF ft N < 1000000 := by
                by_cases z : c = 0
                · rw [← l0 z]; omega
                · exact h6 (by omega)
              refine ih (c + 1) _ _ _ (by omega) (fun a k z1 z2 z3 => ?_) (fun j hj => ?_) (by rw [up_s, if_neg (by omega)]) (fun _ => l1) (by omega)
              · rw [show upH g2 49 55 (lsF ft N) a k = g2 a k by unfold upH; rw [if_neg z3]]
                exact (y0 a k (by omega)).trans (hg a k z1 z2 z3)
              · rw [up_nc (by decide), up_nc (by decide)]
                by_cases e : j = c
                · rw [e]; exact y1 (by omega)
                · rw [y0 74 j (by omega), y0 75 j (by omega)]
                  exact h1 j (by omega)
          · refine r_iconst dX12_finds_172 ?_
            refine r_zret dX12_finds_173 rfl (.inl rfl) ?_
            refine ⟨_, rfl, kf (fun z => ?_) g2 (fun a k z1 z2 z3 => (y0 a k (by omega)).trans (hg a k z1 z2 z3))⟩
            have := chn_all z hcN
            omega
        · refine r_iconst dX12_finds_149 ?_
          refine r_goto (tgt := 161) dX12_finds_150 rfl ?_
          refine r_eqI (y := cR (bkF ft N) c) ?_ ?_
          · first
              | (exfalso; omega)
              | (have e : c = 0 := by omega
                 rw [e]
                 rfl)
              | (rw [show ((c : Int) - 1).toNat = c - 1 by omega, (h1 (c - 1) (by omega)).2]
                 obtain ⟨m, rfl⟩ : ∃ m, c = m + 1 := ⟨c - 1, by omega⟩
                 rfl)
          have hcN : c < N := by omega
          refine r_callVI (av := [_, _, _]) (M' := mX12_goesOn) dX12_finds_161 vX12_goesOn ml_X12_398 sh_49 (by decide) rfl rfl rfl rfl (by simp [wtA]) (sp_X12_goesOn (c := c) (by omega) (by omega) (by omega) (by omega) (fun j hj => by rw [gb j hcN hj]; exact bhF_r _ _ _ _) (fun g2 y0 y1 => ?_))
          rw [dM_cg (fun j hj => gb j hcN hj)]
          rw [dM_cg (fun j hj => gb j hcN hj), aM_cg (fun j hj => gb j hcN hj), ← chF_eq] at y1
          have dr : 0 ≤ dM (bkF ft N c) (cL (bkF ft N) c) (cR (bkF ft N) c) ∧ dM (bkF ft N c) (cL (bkF ft N) c) (cR (bkF ft N) c) ≤ 1000000 := dM_r (fun f _ => (bhF_r _ _ _ _).1)
          have l0 : c = 0 → dM (bkF ft N c) (cL (bkF ft N) c) (cR (bkF ft N) c) = lsF ft N := fun e => by
            rw [lsF_0 (by omega), e]
            rfl
          refine r_istore_n (L' := [_, _, _, _, _]) dX12_finds_164 rfl rfl (by decide) rfl ?_
          refine r_iload_n dX12_finds_165 rfl rfl ?_
          refine r_ldcw (z := 1000000) dX12_finds_166 kc_X12_394 (by decide +kernel) ?_
          refine r_icmp_lt (tgt := 174) dX12_finds_169 rfl (by omega) ⟨by decide, by decide⟩ (fun c_169 => ?_) (fun c_169 => ?_)
          · refine r_aload_n dX12_finds_174 rfl rfl ?_
            refine r_iload_n dX12_finds_175 rfl rfl ?_
            refine r_if_ne (tgt := 183) dX12_finds_176 rfl (by omega) (fun c_176 => ?_) (fun c_176 => ?_)
            · refine r_aload_n dX12_finds_183 rfl rfl ?_
              refine r_getI dX12_finds_184 fl_X12_401 sh_49 rfl ?_
              refine r_eqI (y := lsF ft N) ?_ ?_
              · first
                  | exact l0 (by omega)
                  | (rw [y0 49 55 (by omega), h5, if_neg (by omega)])
              refine r_putI dX12_finds_187 fl_X12_401 sh_49 rfl ?_
              refine r_iinc (L' := [_, _, _, _, _]) dX12_finds_190 rfl rfl (by decide) rfl ?_
              refine r_goto (tgt := 119) dX12_finds_193 rfl ?_
              have l1 : lsF ft N < 1000000 := by
                by_cases z : c = 0
                · rw [← l0 z]; omega
                · exact h6 (by omega)
              refine ih (c + 1) _ _ _ (by omega) (fun a k z1 z2 z3 => ?_) (fun j hj => ?_) (by rw [up_s, if_neg (by omega)]) (fun _ => l1) (by omega)
              · rw [show upH g2 49 55 (lsF ft N) a k = g2 a k by unfold upH; rw [if_neg z3]]
                exact (y0 a k (by omega)).trans (hg a k z1 z2 z3)
              · rw [up_nc (by decide), up_nc (by decide)]
                by_cases e : j = c
                · rw [e]; exact y1 (by omega)
                · rw [y0 74 j (by omega), y0 75 j (by omega)]
                  exact h1 j (by omega)
            · refine r_iload_n dX12_finds_179 rfl rfl ?_
              refine r_goto (tgt := 187) dX12_finds_180 rfl ?_
              refine r_eqI (y := lsF ft N) ?_ ?_
              · first
                  | exact l0 (by omega)
                  | (rw [y0 49 55 (by omega), h5, if_neg (by omega)])
              refine r_putI dX12_finds_187 fl_X12_401 sh_49 rfl ?_
              refine r_iinc (L' := [_, _, _, _, _]) dX12_finds_190 rfl rfl (by decide) rfl ?_
              refine r_goto (tgt := 119) dX12_finds_193 rfl ?_
              have l1 : lsF ft N < 1000000 := by
                by_cases z : c = 0
                · rw [← l0 z]; omega
                · exact h6 (by omega)
              refine ih (c + 1) _ _ _ (by omega) (fun a k z1 z2 z3 => ?_) (fun j hj => ?_) (by rw [up_s, if_neg (by omega)]) (fun _ => l1) (by omega)
              · rw [show upH g2 49 55 (lsF ft N) a k = g2 a k by unfold upH; rw [if_neg z3]]
                exact (y0 a k (by omega)).trans (hg a k z1 z2 z3)
              · rw [up_nc (by decide), up_nc (by decide)]
                by_cases e : j = c
                · rw [e]; exact y1 (by omega)
                · rw [y0 74 j (by omega), y0 75 j (by omega)]
                  exact h1 j (by omega)
          · refine r_iconst dX12_finds_172 ?_
            refine r_zret dX12_finds_173 rfl (.inl rfl) ?_
            refine ⟨_, rfl, kf (fun z => ?_) g2 (fun a k z1 z2 z3 => (y0 a k (by omega)).trans (hg a k z1 z2 z3))⟩
            have := chn_all z hcN
            omega
set_option maxRecDepth 20000 in
set_option maxHeartbeats 400000 in
theorem sp_X12_finds {d : Nat} (hd : 6 ≤ d) {q : Int} {h : Hp} {N : Nat} (hw : MOK h) (hn : 0 ≤ (h 49 29) ∧ (h 49 29) ≤ 150) (hxy : MXY (h 49 3) (h 49 4) (h 60) (h 61) 0 (h 49 29)) (hX : ∀ k : Nat, (k : Int) < (h 49 48) → 0 ≤ h 70 k ∧ h 70 k < (h 49 29) ∧ R32 (h 71 k) ∧ R32 (h 72 k)) (hN : (h 49 48) = N ∧ N ≤ 12) (hd2 : 0 ≤ q ∧ q ≤ 999) {P : Int → Hp → Prop} (k0 : ∀ h' : Hp, (lsF (ftN (h 49 48) (h 49 5) (h 49 3) (h 49 6) (mL (h 49 5) (h 49 6) (h 60) (h 61)) (mR (h 49 3) (h 49 5) (h 49 6) (h 60) (h 61)) (h 70) (h 71) (h 72) q) N < 1000000) → (FrM h h') → (h' 49 55 = lsF (ftN (h 49 48) (h 49 5) (h 49 3) (h 49 6) (mL (h 49 5) (h 49 6) (h 60) (h 61)) (mR (h 49 3) (h 49 5) (h 49 6) (h 60) (h 61)) (h 70) (h 71) (h 72) q) N) → (∀ j : Nat, j < N → h' 74 j = fL (chF (bkF (ftN (h 49 48) (h 49 5) (h 49 3) (h 49 6) (mL (h 49 5) (h 49 6) (h 60) (h 61)) (mR (h 49 3) (h 49 5) (h 49 6) (h 60) (h 61)) (h 70) (h 71) (h 72) q) N) j) ∧ h' 75 j = fR (chF (bkF (ftN (h 49 48) (h 49 5) (h 49 3) (h 49 6) (mL (h 49 5) (h 49 6) (h 60) (h 61)) (mR (h 49 3) (h 49 5) (h 49 6) (h 60) (h 61)) (h 70) (h 71) (h 72) q) N) j)) → P (1) h') (k1 : ∀ h' : Hp, (¬ lsF (ftN (h 49 48) (h 49 5) (h 49 3) (h 49 6) (mL (h 49 5) (h 49 6) (h 60) (h 61)) (mR (h 49 3) (h 49 5) (h 49 6) (h 60) (h 61)) (h 70) (h 71) (h 72) q) N < 1000000) → (FrM h h') → P (0) h') : Cl d mX12_finds [.inr (.inr 49), .inl q] h (pI P) := by
  refine Cl.of (L := [some (.inr (.inr 49)), some (.inl q), none, none, none]) (by decide +kernel) (Nat.le_of_ble_eq_true rfl) rfl ?_
  obtain ⟨d, rfl⟩ : ∃ q, d = q + 1 := ⟨d - 1, by omega⟩
  refine r_aload_n dX12_finds_0 rfl rfl ?_
  refine r_getI dX12_finds_1 fl_X12_177 sh_49 rfl ?_
  refine r_iconst dX12_finds_4 ?_
  refine r_isub dX12_finds_5 ?_
  rw [hN.1, show (N : Int) - 1 = (N : Int) - 1 - (0 : Nat) by omega]
  refine r_istore_n (L' := [_, _, _, _, _]) dX12_finds_6 rfl rfl (by decide) rfl ?_
  refine lp_finds2 (N := N) (by omega) hw hn hxy hX hN hd2 (fun g o o2 o3 y1 y2 => ?_) 13 0 h _ _ (by omega) (fun _ _ _ _ _ _ => rfl) (fun c2 j z1 z2 _ => by omega) (by omega)
  refine r_aload_n dX12_finds_112 rfl rfl ?_
  refine r_iconst dX12_finds_113 ?_
  refine r_putI dX12_finds_114 fl_X12_401 sh_49 rfl ?_
  refine r_iconst dX12_finds_117 ?_
  refine r_istore_n (L' := [_, _, _, _, _]) dX12_finds_118 rfl rfl (by decide) rfl ?_
  have fy : FrY h (upH g 49 55 0) := fun a k z1 z2 z3 z4 => by
    rw [show upH g 49 55 0 a k = g a k by unfold upH; rw [if_neg z4]]
    exact y1 a k z1 z2 z3 z4
  refine lp_finds3 (h := upH g 49 55 0) (ft := (ftN (h 49 48) (h 49 5) (h 49 3) (h 49 6) (mL (h 49 5) (h 49 6) (h 60) (h 61)) (mR (h 49 3) (h 49 5) (h 49 6) (h 60) (h 61)) (h 70) (h 71) (h 72) q)) (N := N) (by omega) ⟨(fy 49 48 (by decide) (by decide) (by decide) (by decide)).trans hN.1, hN.2⟩ (fun c j a b => by rw [up_nc (by decide)]; exact y2 c j a b) (fun z g3 x0 x1 x2 => ?_) (fun z g3 x0 => ?_) 13 0 _ _ _ (by omega) (fun _ _ _ _ _ => rfl) (fun j hj => absurd hj (Nat.not_lt_zero j)) (by rw [up_s]; rfl) (fun z => absurd z (by omega)) (by omega)
  · exact k0 g3 z (FrY.fm (fun a k z1 z2 z3 z4 => (x0 a k z2 z3 z4).trans (fy a k z1 z2 z3 z4))) x1 x2
  · exact k1 g3 z (FrY.fm (fun a k z1 z2 z3 z4 => (x0 a k z2 z3 z4).trans (fy a k z1 z2 z3 z4)))
set_option maxRecDepth 20000 in
set_option maxHeartbeats 400000 in
theorem sp_X12_found {d : Nat} (hd : 7 ≤ d) {q v : Int} {h : Hp} {N : Nat} (hw : MOK h) (hq2 : R32 q) (hv : R32 v) (hn : 0 ≤ (h 49 29) ∧ (h 49 29) ≤ 150) (hxy : MXY (h 49 3) (h 49 4) (h 60) (h 61) 0 (h 49 29)) (hX : ∀ k : Nat, (k : Int) < (h 49 48) → 0 ≤ h 70 k ∧ h 70 k < (h 49 29) ∧ R32 (h 71 k) ∧ R32 (h 72 k)) (hN : (h 49 48) = N ∧ N ≤ 12) {P : Int → Hp → Prop} (k : ∀ h' : Hp, (FrM h h') → P (fnFound (ftN (h 49 48) (h 49 5) (h 49 3) (h 49 6) (mL (h 49 5) (h 49 6) (h 60) (h 61)) (mR (h 49 3) (h 49 5) (h 49 6) (h 60) (h 61)) (h 70) (h 71) (h 72) q) N q v) h') : Cl d mX12_found [.inr (.inr 49), .inl q, .inl v] h (pI P) := by
  refine Cl.of (L := [some (.inr (.inr 49)), some (.inl q), some (.inl v)]) (by decide +kernel) (Nat.le_of_ble_eq_true rfl) rfl ?_
  obtain ⟨d, rfl⟩ : ∃ q, d = q + 1 := ⟨d - 1, by omega⟩
  refine r_aload_n dX12_found_0 rfl rfl ?_
  refine r_iconst dX12_found_1 ?_
  refine r_putI dX12_found_2 fl_X12_127 sh_49 rfl ?_
  refine r_gh (fun g eg => ?_)
  have f : FrM h g := by rw [eg]; exact FrM.rf.up rfl
  have e3 : g 49 3 = h 49 3 := f 49 3 rfl
  have e4 : g 49 4 = h 49 4 := f 49 4 rfl
  have e5 : g 49 5 = h 49 5 := f 49 5 rfl
  have e6 : g 49 6 = h 49 6 := f 49 6 rfl
  have e7 : g 49 7 = h 49 7 := f 49 7 rfl
  have e8 : g 49 8 = h 49 8 := f 49 8 rfl
  have e29 : g 49 29 = h 49 29 := f 49 29 rfl
  have e48 : g 49 48 = h 49 48 := f 49 48 rfl
  have ea60 : g 60 = h 60 := funext fun j => f 60 j rfl
  have ea61 : g 61 = h 61 := funext fun j => f 61 j rfl
  have ea70 : g 70 = h 70 := funext fun j => f 70 j rfl
  have ea71 : g 71 = h 71 := funext fun j => f 71 j rfl
  have ea72 : g 72 = h 72 := funext fun j => f 72 j rfl
  have w : MOK g := by omega
  rw [← e3, ← e4, ← e29, ← ea60, ← ea61] at hxy
  rw [← e29] at hn
  rw [← e29, ← e48, ← ea70, ← ea71, ← ea72] at hX
  rw [← e48] at hN
  rw [← e3, ← e5, ← e6, ← e48, ← ea60, ← ea61, ← ea70, ← ea71, ← ea72] at k
  refine r_iload_n dX12_found_5 rfl rfl ?_
  refine r_iconst dX12_found_6 ?_
  refine r_sipush dX12_found_7 (by decide +kernel) ?_
  refine r_callSI (av := [_, _, _]) (M' := mX12_isIn) dX12_found_10 sX12_isIn ml_X12_160 rfl rfl (by simp [wtA]) (sp_X12_isIn (by omega) (by omega) (by omega) (by omega) (fun b_10 => ?_) (fun b_10 => ?_))
  · refine r_if_ne (tgt := 18) dX12_found_13 rfl ⟨by decide, by decide⟩ (fun c_13 => ?_) (fun c_13 => absurd c_13 (by decide))
    refine r_iload_n dX12_found_18 rfl rfl ?_
    refine r_iconst dX12_found_19 ?_
    refine r_iconst dX12_found_20 ?_
    refine r_aload_n dX12_found_21 rfl rfl ?_
    refine r_getI dX12_found_22 fl_X12_177 sh_49 rfl ?_
    refine r_imul dX12_found_25 ?_
    refine r_callSI (av := [_, _, _]) (M' := mX12_isIn) dX12_found_26 sX12_isIn ml_X12_160 rfl rfl (by simp [wtA]) (sp_X12_isIn (by omega) (by omega) (by omega) (by omega) (fun b_26 => ?_) (fun b_26 => ?_))
    · refine r_if_ne (tgt := 35) dX12_found_29 rfl ⟨by decide, by decide⟩ (fun c_29 => ?_) (fun c_29 => absurd c_29 (by decide))
      refine r_aload_n dX12_found_35 rfl rfl ?_
      refine r_iload_n dX12_found_36 rfl rfl ?_
      refine r_callVI (av := [_]) (M' := mX12_finds) dX12_found_37 vX12_finds ml_X12_404 sh_49 (by decide) rfl rfl rfl rfl (by simp [wtA]) (sp_X12_finds (by omega) (by omega) (by omega) hxy hX hN (by omega) (fun h_37 f0_37 f1_37 f2_37 f3_37 => ?_) (fun h_37 f0_37 f1_37 => ?_))
      · refine r_if_ne (tgt := 46) dX12_found_40 rfl ⟨by decide, by decide⟩ (fun c_40 => ?_) (fun c_40 => absurd c_40 (by decide))
        have k := k _ (f.tr f1_37)
        unfold fnFound at k
        rw [if_pos (by omega), if_pos (by omega), if_pos f0_37] at k
        refine r_iload_n dX12_found_46 rfl rfl ?_
        refine r_if_ne (tgt := 57) dX12_found_47 rfl (by omega) (fun c_47 => ?_) (fun c_47 => ?_)
        · rw [if_neg (by omega)] at k
          have d2 := tdivNN (a := v - 1) (b := 2) (by omega) (by omega)
          have d3 : (v - 1).tdiv 2 < N := by rw [Int.tdiv_eq_ediv_of_nonneg (by omega)]; omega
          have fj := f3_37 ((v - 1).tdiv 2).toNat (by omega)
          have t2 : 0 ≤ v.tmod 2 ∧ v.tmod 2 ≤ 1 := by rw [Int.tmod_eq_emod_of_nonneg (by omega)]; omega
          refine r_iload_n dX12_found_57 rfl rfl ?_
          refine r_iconst dX12_found_58 ?_
          refine r_irem dX12_found_59 (by omega) ⟨by decide, by decide⟩ (by decide) ?_
          refine r_iconst dX12_found_60 ?_
          refine r_icmp_ne (tgt := 77) dX12_found_61 rfl (by omega) ⟨by decide, by decide⟩ (fun c_61 => ?_) (fun c_61 => ?_)
          · refine r_aload_n dX12_found_77 rfl rfl ?_
            refine r_getR dX12_found_78 fl_X12_106 sh_49 rfl ?_
            refine r_iload_n dX12_found_81 rfl rfl ?_
            refine r_iconst dX12_found_82 ?_
            refine r_isub dX12_found_83 ?_
            refine r_iconst dX12_found_84 ?_
            refine r_idiv dX12_found_85 (by omega) ⟨by decide, by decide⟩ (by decide) ?_
            refine r_iald dX12_found_86 sh_75 (by decide) (by omega) ?_
            refine r_iret dX12_found_87 rfl ?_
            first
              | (rw [if_pos (show v = 0 by omega)] at k; exact ⟨_, rfl, eqP k f2_37.symm⟩)
              | (rw [if_pos (show v.tmod 2 = 1 by omega)] at k; exact ⟨_, rfl, eqP k fj.1.symm⟩)
              | (rw [if_neg (show ¬ v.tmod 2 = 1 by omega)] at k; exact ⟨_, rfl, eqP k fj.2.symm⟩)
          · refine r_aload_n dX12_found_64 rfl rfl ?_
            refine r_getR dX12_found_65 fl_X12_103 sh_49 rfl ?_
            refine r_iload_n dX12_found_68 rfl rfl ?_
            refine r_iconst dX12_found_69 ?_
            refine r_isub dX12_found_70 ?_
            refine r_iconst dX12_found_71 ?_
            refine r_idiv dX12_found_72 (by omega) ⟨by decide, by decide⟩ (by decide) ?_
            refine r_iald dX12_found_73 sh_74 (by decide) (by omega) ?_
            refine r_goto (tgt := 87) dX12_found_74 rfl ?_
            refine r_iret dX12_found_87 rfl ?_
            first
              | (rw [if_pos (show v = 0 by omega)] at k; exact ⟨_, rfl, eqP k f2_37.symm⟩)
              | (rw [if_pos (show v.tmod 2 = 1 by omega)] at k; exact ⟨_, rfl, eqP k fj.1.symm⟩)
              | (rw [if_neg (show ¬ v.tmod 2 = 1 by omega)] at k; exact ⟨_, rfl, eqP k fj.2.symm⟩)
        · refine r_aload_n dX12_found_50 rfl rfl ?_
          refine r_getI dX12_found_51 fl_X12_401 sh_49 rfl ?_
          refine r_goto (tgt := 87) dX12_found_54 rfl ?_
          refine r_iret dX12_found_87 rfl ?_
          first
            | (rw [if_pos (show v = 0 by omega)] at k; exact ⟨_, rfl, eqP k f2_37.symm⟩)
            | (rw [if_pos (show v.tmod 2 = 1 by omega)] at k; exact ⟨_, rfl, eqP k fj.1.symm⟩)
            | (rw [if_neg (show ¬ v.tmod 2 = 1 by omega)] at k; exact ⟨_, rfl, eqP k fj.2.symm⟩)
      · refine r_if_ne (tgt := 46) dX12_found_40 rfl ⟨by decide, by decide⟩ (fun c_40 => absurd c_40 (by decide)) (fun c_40 => ?_)
        refine r_bipush dX12_found_43 (by decide +kernel) ?_
        refine r_iret dX12_found_45 rfl ?_
        refine ⟨_, rfl, eqP (k _ (f.tr f1_37)) ?_⟩
        unfold fnFound
        rw [if_pos (by omega), if_pos (by omega), if_neg f0_37]
    · refine r_if_ne (tgt := 35) dX12_found_29 rfl ⟨by decide, by decide⟩ (fun c_29 => absurd c_29 (by decide)) (fun c_29 => ?_)
      refine r_ldc (z := -2147483648) dX12_found_32 kc_X12_194 (by decide +kernel) ?_
      refine r_iret dX12_found_34 rfl ?_
      refine ⟨_, rfl, eqP (k g f) ?_⟩
      unfold fnFound
      rw [if_pos (by omega), if_neg (by omega)]
  · refine r_if_ne (tgt := 18) dX12_found_13 rfl ⟨by decide, by decide⟩ (fun c_13 => absurd c_13 (by decide)) (fun c_13 => ?_)
    refine r_iconst dX12_found_16 ?_
    refine r_iret dX12_found_17 rfl ?_
    refine ⟨_, rfl, eqP (k g f) ?_⟩
    unfold fnFound
    rw [if_neg (by omega)]
