/-! CROSSES, THE CLASS: solve, found, mended -/
theorem fsN_cg {g g2 : Nat → Int} {z : Int} : ∀ {n j0 : Nat}, (∀ j : Nat, j0 ≤ j → j < j0 + n → g j = g2 j) → fsN g z j0 n = fsN g2 z j0 n
  | 0, _, _ => rfl
  | n + 1, j0, h => by
    rw [fsN, fsN, h j0 (by omega) (by omega), fsN_cg (n := n) (j0 := j0 + 1) (fun j a b => h j (by omega) (by omega))]
set_option maxRecDepth 20000 in
set_option maxHeartbeats 400000 in
theorem lp_firstField {d : Nat} {P : Int → Hp → Prop} {h : Hp} {c : Nat} {l r z : Int} (hc : c ≤ 11) (hl : -6 ≤ l ∧ l ≤ 6) (hr : -6 ≤ r ∧ r ≤ 6) (hz : R32 z) (hB : ∀ j : Nat, j < 169 → 0 ≤ h 39 (169 * c + j) ∧ h 39 (169 * c + j) ≤ 1000000) : ∀ (nn : Nat) (n j : Nat) (o : Option AV), (j + n = 169) → (P (fsN (fun f => dN l r f + h 39 (169 * c + f)) z j n : Nat) h) → n < nn → WW mX0_firstField (d + 1) (pI P) 3 [some (.inr (.inr 33)), some (.inl (c : Int)), some (.inl l), some (.inl r), some (.inl z), some (.inl (j : Int)), o] [] h := by
  intro nn
  induction nn with
  | zero => intro n j o hj k; intros; omega
  | succ nn ih =>
    intro n j o hj k hmu
    refine r_iload dX0_firstField_3 rfl ?_
    refine r_sipush dX0_firstField_5 (by decide +kernel) ?_
    refine r_icmp_ge (tgt := 70) dX0_firstField_8 rfl (by omega) ⟨by decide, by decide⟩ (fun c_8 => ?_) (fun c_8 => ?_)
    · refine r_iconst dX0_firstField_70 ?_
      refine r_iret dX0_firstField_71 rfl ?_
      have n0 : n = 0 := by omega
      subst n0
      exact ⟨_, rfl, k⟩
    · have lr := fLR_r (f := j) (by omega)
      have d0 := dN_r (f := j) (by omega) hl hr
      have hb := hB j (by omega)
      have ei : ((c : Int) * 169 + j).toNat = 169 * c + j := by omega
      rw [← ei] at hb
      refine r_iload dX0_firstField_11 rfl ?_
      refine r_bipush dX0_firstField_13 (by decide +kernel) ?_
      refine r_idiv dX0_firstField_15 (by omega) ⟨by decide, by decide⟩ (by decide) ?_
      refine r_bipush dX0_firstField_16 (by decide +kernel) ?_
      refine r_isub dX0_firstField_18 ?_
      rw [fLe]
      refine r_iload_n dX0_firstField_19 rfl rfl ?_
      refine r_isub dX0_firstField_20 ?_
      refine r_mabs (by omega) dX0_firstField_21 ml_X0_102 (by simp [wtA]) ?_
      refine r_iload dX0_firstField_24 rfl ?_
      refine r_bipush dX0_firstField_26 (by decide +kernel) ?_
      refine r_irem dX0_firstField_28 (by omega) ⟨by decide, by decide⟩ (by decide) ?_
      refine r_bipush dX0_firstField_29 (by decide +kernel) ?_
      refine r_isub dX0_firstField_31 ?_
      rw [fRe]
      refine r_iload_n dX0_firstField_32 rfl rfl ?_
      refine r_isub dX0_firstField_33 ?_
      refine r_mabs (by omega) dX0_firstField_34 ml_X0_102 (by simp [wtA]) ?_
      refine r_iadd dX0_firstField_37 ?_
      refine r_eqI (y := dN l r j) rfl ?_
      refine r_istore (L' := [_, _, _, _, _, _, _]) dX0_firstField_38 rfl (by decide) rfl ?_
      refine r_iload dX0_firstField_40 rfl ?_
      refine r_aload_n dX0_firstField_42 rfl rfl ?_
      refine r_getR dX0_firstField_43 fl_X0_34 sh_33 rfl ?_
      refine r_iload_n dX0_firstField_46 rfl rfl ?_
      refine r_sipush dX0_firstField_47 (by decide +kernel) ?_
      refine r_imul dX0_firstField_50 ?_
      refine r_iload dX0_firstField_51 rfl ?_
      refine r_iadd dX0_firstField_53 ?_
      refine r_iald dX0_firstField_54 sh_39 (by decide) (by omega) ?_
      refine r_iadd dX0_firstField_55 ?_
      refine r_iload dX0_firstField_56 rfl ?_
      refine r_icmp_ne (tgt := 64) dX0_firstField_58 rfl (by omega) (by omega) (fun c_58 => ?_) (fun c_58 => ?_)
      · refine r_iinc (L' := [_, _, _, _, _, _, _]) dX0_firstField_64 rfl rfl (by decide) rfl ?_
        refine r_goto (tgt := 3) dX0_firstField_67 rfl ?_
        obtain ⟨n, rfl⟩ : ∃ q, n = q + 1 := ⟨n - 1, by omega⟩
        rw [fsN, if_neg (by show ¬ dN l r j + h 39 (169 * c + j) = z; rw [← ei]; omega)] at k
        exact ih n (j + 1) _ (by omega) k (by omega)
      · refine r_iload dX0_firstField_61 rfl ?_
        refine r_iret dX0_firstField_63 rfl ?_
        obtain ⟨n, rfl⟩ : ∃ q, n = q + 1 := ⟨n - 1, by omega⟩
        rw [fsN, if_pos (by show dN l r j + h 39 (169 * c + j) = z; rw [← ei]; omega)] at k
        exact ⟨_, rfl, k⟩
set_option maxRecDepth 20000 in
set_option maxHeartbeats 400000 in
theorem sp_X0_firstField {d : Nat} (hd : 2 ≤ d) {l r z : Int} {h : Hp} {c : Nat} (hc : c ≤ 11) (hl : -6 ≤ l ∧ l ≤ 6) (hr : -6 ≤ r ∧ r ≤ 6) (hz : R32 z) (hB : ∀ j : Nat, j < 169 → 0 ≤ h 39 (169 * c + j) ∧ h 39 (169 * c + j) ≤ 1000000) {P : Int → Hp → Prop} (k : P ((aM (fun f => h 39 (169 * c + f)) l r z : Nat)) (h)) : Cl d mX0_firstField [.inr (.inr 33), .inl (c : Int), .inl l, .inl r, .inl z] h (pI P) := by
  refine Cl.of (L := [some (.inr (.inr 33)), some (.inl (c : Int)), some (.inl l), some (.inl r), some (.inl z), none, none]) (by decide +kernel) (Nat.le_of_ble_eq_true rfl) rfl ?_
  obtain ⟨d, rfl⟩ : ∃ q, d = q + 1 := ⟨d - 1, by omega⟩
  refine r_iconst dX0_firstField_0 ?_
  refine r_istore (L' := [_, _, _, _, _, _, _]) dX0_firstField_1 rfl (by decide) rfl ?_
  exact lp_firstField hc hl hr hz hB 170 169 0 _ rfl k (by omega)
set_option maxRecDepth 20000 in
set_option maxHeartbeats 400000 in
theorem lp_choose {d : Nat} (hd : 2 ≤ d) {P : Hp → Prop} {h : Hp} {ft : Nat → Nat → Int} {N : Nat} (hN : (h 33 0) = N ∧ N ≤ 12) (hb : ∀ c j : Nat, c < N → j < 169 → h 39 (169 * c + j) = bkF ft N c j) (hs : lsF ft N < 1000000) (k : ∀ g : Hp, (∀ a k, a ≠ 34 → a ≠ 35 → g a k = h a k) → (∀ j : Nat, j < N → g 34 j = fL (chF (bkF ft N) j) ∧ g 35 j = fR (chF (bkF ft N) j)) → P g) : ∀ (nn : Nat) (c : Nat) (l r z : Int) (g : Hp) (o : Option AV), (c ≤ N) → (∀ a k, a ≠ 34 → a ≠ 35 → g a k = h a k) → (l = cL (bkF ft N) c) → (r = cR (bkF ft N) c) → (c < N → z = dM (bkF ft N c) (cL (bkF ft N) c) (cR (bkF ft N) c)) → (R32 z) → (∀ j : Nat, j < c → g 34 j = fL (chF (bkF ft N) j) ∧ g 35 j = fR (chF (bkF ft N) j)) → N - c < nn → WW mX0_chooseLeast (d + 1) (pV P) 12 [some (.inr (.inr 33)), some (.inl l), some (.inl r), some (.inl z), some (.inl (c : Int)), o] [] g := by
  intro nn
  induction nn with
  | zero => intro c l r z g o hc hg hl hr hz hz2 h1; intros; omega
  | succ nn ih =>
    intro c l r z g o hc hg hl hr hz hz2 h1 hmu
    have wn := hg 33 0 (by decide) (by decide)
    have cr := cLR_r (bkF ft N) c
    have cl := chF_lt (bkF ft N) c
    have v39 : g 39 = h 39 := funext fun j => hg 39 j (by decide) (by decide)
    refine r_iload dX0_chooseLeast_12 rfl ?_
    refine r_aload_n dX0_chooseLeast_14 rfl rfl ?_
    refine r_getI dX0_chooseLeast_15 fl_X0_11 sh_33 rfl ?_
    refine r_icmp_ge (tgt := 87) dX0_chooseLeast_18 rfl (by omega) (by omega) (fun c_18 => ?_) (fun c_18 => ?_)
    · refine r_vret dX0_chooseLeast_87 rfl ?_
      have e : c = N := by omega
      subst e
      exact ⟨rfl, k g hg h1⟩
    · have gb : ∀ j : Nat, j < 169 → g 39 (169 * c + j) = bkF ft N c j := fun j hj => by rw [v39]; exact hb c j (by omega) hj
      refine r_aload_n dX0_chooseLeast_21 rfl rfl ?_
      refine r_iload dX0_chooseLeast_22 rfl ?_
      refine r_iload_n dX0_chooseLeast_24 rfl rfl ?_
      refine r_iload_n dX0_chooseLeast_25 rfl rfl ?_
      refine r_iload_n dX0_chooseLeast_26 rfl rfl ?_
      refine r_callVI (av := [_, _, _, _]) (M' := mX0_firstField) dX0_chooseLeast_27 vX0_firstField ml_X0_98 sh_33 (by decide) rfl rfl rfl rfl (by simp [wtA]) (sp_X0_firstField (by omega) (by omega) (by omega) (by omega) hz2 (fun j hj => by rw [gb j hj]; exact bhF_r _ _ _ _) ?_)
      refine r_eqI (y := (chF (bkF ft N) c : Nat)) ?_ ?_
      · rw [chF_eq, hl, hr, hz (by omega)]
        have ea : ∀ {B B2 : Nat → Int} {l r z : Int}, (∀ j : Nat, j < 169 → B j = B2 j) → aM B l r z = aM B2 l r z := fun e => by
          unfold aM
          exact fsN_cg (fun j _ hj => by rw [e j (by omega)])
        rw [ea gb]
      have lr := fLR_r cl
      refine r_istore (L' := [_, _, _, _, _, _]) dX0_chooseLeast_30 rfl (by decide) rfl ?_
      refine r_iload dX0_chooseLeast_32 rfl ?_
      refine r_bipush dX0_chooseLeast_34 (by decide +kernel) ?_
      refine r_idiv dX0_chooseLeast_36 (by omega) ⟨by decide, by decide⟩ (by decide) ?_
      refine r_bipush dX0_chooseLeast_37 (by decide +kernel) ?_
      refine r_isub dX0_chooseLeast_39 ?_
      rw [fLe]
      refine r_istore_n (L' := [_, _, _, _, _, _]) dX0_chooseLeast_40 rfl rfl (by decide) rfl ?_
      refine r_iload dX0_chooseLeast_41 rfl ?_
      refine r_bipush dX0_chooseLeast_43 (by decide +kernel) ?_
      refine r_irem dX0_chooseLeast_45 (by omega) ⟨by decide, by decide⟩ (by decide) ?_
      refine r_bipush dX0_chooseLeast_46 (by decide +kernel) ?_
      refine r_isub dX0_chooseLeast_48 ?_
      rw [fRe]
      refine r_istore_n (L' := [_, _, _, _, _, _]) dX0_chooseLeast_49 rfl rfl (by decide) rfl ?_
      refine r_aload_n dX0_chooseLeast_50 rfl rfl ?_
      refine r_getR dX0_chooseLeast_51 fl_X0_18 sh_33 rfl ?_
      refine r_iload dX0_chooseLeast_54 rfl ?_
      refine r_iload_n dX0_chooseLeast_56 rfl rfl ?_
      refine r_iast dX0_chooseLeast_57 sh_34 (by decide) (by omega) ?_
      refine r_aload_n dX0_chooseLeast_58 rfl rfl ?_
      refine r_getR dX0_chooseLeast_59 fl_X0_22 sh_33 rfl ?_
      refine r_iload dX0_chooseLeast_62 rfl ?_
      refine r_iload_n dX0_chooseLeast_64 rfl rfl ?_
      refine r_iast dX0_chooseLeast_65 sh_35 (by decide) (by omega) ?_
      refine r_aload_n dX0_chooseLeast_66 rfl rfl ?_
      refine r_getR dX0_chooseLeast_67 fl_X0_34 sh_33 rfl ?_
      refine r_iload dX0_chooseLeast_70 rfl ?_
      refine r_sipush dX0_chooseLeast_72 (by decide +kernel) ?_
      refine r_imul dX0_chooseLeast_75 ?_
      
      refine r_iload dX0_chooseLeast_76 rfl ?_
      refine r_iadd dX0_chooseLeast_78 ?_
      refine r_iald dX0_chooseLeast_79 sh_39 (by decide) (by omega) ?_
      refine r_eqI (((up_nc (by decide)).trans (up_nc (by decide)))) ?_
      refine r_eqI (y := bkF ft N c (chF (bkF ft N) c)) ?_ ?_
      · rw [show ((c : Int) * 169 + (chF (bkF ft N) c : Nat)).toNat = 169 * c + chF (bkF ft N) c by omega]
        exact gb _ cl
      refine r_istore_n (L' := [_, _, _, _, _, _]) dX0_chooseLeast_80 rfl rfl (by decide) rfl ?_
      refine r_iinc (L' := [_, _, _, _, _, _]) dX0_chooseLeast_81 rfl rfl (by decide) rfl ?_
      refine r_goto (tgt := 12) dX0_chooseLeast_84 rfl ?_
      have ec : ((c : Int)).toNat = c := Int.toNat_natCast c
      have hch := chn_all hs (k := c) (by omega)
      have br : 0 ≤ bkF ft N c (chF (bkF ft N) c) ∧ bkF ft N c (chF (bkF ft N) c) ≤ 1000000 := bhF_r ft N (N - 1 - c) _
      rw [ec]
      refine ih (c + 1) _ _ _ _ _ (by omega) (fun a j y1 y2 => ?_) rfl rfl (fun y => (chn y hch).1) ⟨by omega, by omega⟩ (fun j hj => ?_) (by omega)
      · rw [up_nc y2, up_nc y1]
        exact hg a j y1 y2
      · by_cases e : j = c
        · subst e
          exact ⟨by rw [up_nc (by decide), up_s], up_s _ _ _ _⟩
        · rw [up_nc (by decide), up_nk e, up_nk e, up_nc (by decide)]
          exact h1 j (by omega)
set_option maxRecDepth 20000 in
set_option maxHeartbeats 400000 in
theorem sp_X0_chooseLeast {d : Nat} (hd : 3 ≤ d) {h : Hp} {ft : Nat → Nat → Int} {N : Nat} (hN : (h 33 0) = N ∧ N ≤ 12) (hb : ∀ c j : Nat, c < N → j < 169 → h 39 (169 * c + j) = bkF ft N c j) (hs : lsF ft N < 1000000) (hl : (h 33 1) = lsF ft N) {P : Hp → Prop} (k : ∀ h' : Hp, (∀ a k, a ≠ 34 → a ≠ 35 → h' a k = h a k) → (∀ j : Nat, j < N → h' 34 j = fL (chF (bkF ft N) j) ∧ h' 35 j = fR (chF (bkF ft N) j)) → P h') : Cl d mX0_chooseLeast [.inr (.inr 33)] h (pV P) := by
  refine Cl.of (L := [some (.inr (.inr 33)), none, none, none, none, none]) (by decide +kernel) (Nat.le_of_ble_eq_true rfl) rfl ?_
  obtain ⟨d, rfl⟩ : ∃ q, d = q + 1 := ⟨d - 1, by omega⟩
  refine r_iconst dX0_chooseLeast_0 ?_
  refine r_istore_n (L' := [_, _, _, _, _, _]) dX0_chooseLeast_1 rfl rfl (by decide) rfl ?_
  refine r_iconst dX0_chooseLeast_2 ?_
  refine r_istore_n (L' := [_, _, _, _, _, _]) dX0_chooseLeast_3 rfl rfl (by decide) rfl ?_
  refine r_aload_n dX0_chooseLeast_4 rfl rfl ?_
  refine r_getI dX0_chooseLeast_5 fl_X0_15 sh_33 rfl ?_
  refine r_istore_n (L' := [_, _, _, _, _, _]) dX0_chooseLeast_8 rfl rfl (by decide) rfl ?_
  refine r_iconst dX0_chooseLeast_9 ?_
  refine r_istore (L' := [_, _, _, _, _, _]) dX0_chooseLeast_10 rfl (by decide) rfl ?_
  have lr := onF_r ft N N 84
  exact lp_choose (by omega) hN hb hs k 13 0 _ _ _ h _ (by omega) (fun _ _ _ _ => rfl) rfl rfl (fun y => by rw [hl, lsF_0 y]; rfl) (by unfold lsF at hl; omega) (fun j hj => absurd hj (Nat.not_lt_zero j)) (by omega)
set_option maxRecDepth 20000 in
set_option maxHeartbeats 400000 in
theorem lp_solve0 {d : Nat} {post : Pst} {h : Hp} {q : Int} (K : ∀ (g : Hp) (o : Option AV), (∀ a k, a ≠ 40 → g a k = h a k) → (∀ j : Nat, j < 169 → g 40 j = 0) → WW mX0_solve (d + 1) post 22 [some (.inr (.inr 33)), some (.inl q), o] [] g) : ∀ (nn : Nat) (f : Nat) (g : Hp), (f ≤ 169) → (∀ a k, a ≠ 40 → g a k = h a k) → (∀ j : Nat, j < f → g 40 j = 0) → 169 - f < nn → WW mX0_solve (d + 1) post 2 [some (.inr (.inr 33)), some (.inl q), some (.inl (f : Int))] [] g := by
  intro nn
  induction nn with
  | zero => intro f g hf hg h1; intros; omega
  | succ nn ih =>
    intro f g hf hg h1 hmu
    refine r_iload_n dX0_solve_2 rfl rfl ?_
    refine r_sipush dX0_solve_3 (by decide +kernel) ?_
    refine r_icmp_ge (tgt := 22) dX0_solve_6 rfl (by omega) ⟨by decide, by decide⟩ (fun c_6 => ?_) (fun c_6 => ?_)
    · have e : f = 169 := by omega
      subst e
      exact K g _ hg h1
    · refine r_aload_n dX0_solve_9 rfl rfl ?_
      refine r_getR dX0_solve_10 fl_X0_37 sh_33 rfl ?_
      refine r_iload_n dX0_solve_13 rfl rfl ?_
      refine r_iconst dX0_solve_14 ?_
      refine r_iast dX0_solve_15 sh_40 (by decide) (by omega) ?_
      refine r_iinc (L' := [_, _, _]) dX0_solve_16 rfl rfl (by decide) rfl ?_
      refine r_goto (tgt := 2) dX0_solve_19 rfl ?_
      rw [Int.toNat_natCast f]
      refine ih (f + 1) _ (by omega) (fun a j y => by rw [up_nc y]; exact hg a j y) (fun j hj => ?_) (by omega)
      by_cases e : j = f
      · rw [e]; exact up_s _ _ _ _
      · rw [up_nk e]; exact h1 j (by omega)
set_option maxRecDepth 20000 in
set_option maxHeartbeats 400000 in
theorem lp_solve1 {d : Nat} (hd : 4 ≤ d) {post : Pst} {h : Hp} {q : Int} {N : Nat} (hw : WOK h) (hn : 0 ≤ (h 16 0) ∧ (h 16 0) ≤ 150) (hq : LR (h 20) (h 21) (h 16 0)) (hX : ∀ k : Nat, (k : Int) < (h 33 0) → 0 ≤ h 36 k ∧ h 36 k < (h 16 0) ∧ R32 (h 37 k) ∧ R32 (h 38 k)) (hN : (h 33 0) = N ∧ N ≤ 12) (hd2 : 0 ≤ q ∧ q ≤ 999) (K : ∀ (g : Hp) (o : Option AV), FrX h g → (∀ j : Nat, j < 169 → g 40 j = onF (ftN (h 33 0) (h 1 2) (h 1 0) (h 1 3) (h 20) (h 21) (h 36) (h 37) (h 38) q) N N j) → (∀ c j : Nat, c < N → j < 169 → g 39 (169 * c + j) = bkF (ftN (h 33 0) (h 1 2) (h 1 0) (h 1 3) (h 20) (h 21) (h 36) (h 37) (h 38) q) N c j) → WW mX0_solve (d + 1) post 49 [some (.inr (.inr 33)), some (.inl q), o] [] g) : ∀ (nn : Nat) (i : Nat) (g : Hp), (i ≤ N) → (FrX h g) → (∀ j : Nat, j < 169 → g 40 j = onF (ftN (h 33 0) (h 1 2) (h 1 0) (h 1 3) (h 20) (h 21) (h 36) (h 37) (h 38) q) N i j) → (∀ c j : Nat, N ≤ c + i → c < N → j < 169 → g 39 (169 * c + j) = bkF (ftN (h 33 0) (h 1 2) (h 1 0) (h 1 3) (h 20) (h 21) (h 36) (h 37) (h 38) q) N c j) → N - i < nn → WW mX0_solve (d + 1) post 29 [some (.inr (.inr 33)), some (.inl q), some (.inl ((N : Int) - 1 - i))] [] g := by
  intro nn
  induction nn with
  | zero => intro i g hi hg h1 h2; intros; omega
  | succ nn ih =>
    intro i g hi hg h1 h2 hmu
    have w0 := hg.1 1 0 (by omega) (by decide) (by decide)
    have w1 := hg.1 1 1 (by omega) (by decide) (by decide)
    have w2 := hg.1 1 2 (by omega) (by decide) (by decide)
    have w3 := hg.1 1 3 (by omega) (by decide) (by decide)
    have w4 := hg.1 1 4 (by omega) (by decide) (by decide)
    have w5 := hg.1 1 5 (by omega) (by decide) (by decide)
    have gw : WOK g := by have := hg.2; omega
    have wn := hg.1 16 0 (by omega) (by decide) (by decide)
    have wc := hg.1 33 0 (by omega) (by decide) (by decide)
    have v20 : g 20 = h 20 := funext fun j => hg.1 20 j (by omega) (by decide) (by decide)
    have v21 : g 21 = h 21 := funext fun j => hg.1 21 j (by omega) (by decide) (by decide)
    have v36 : g 36 = h 36 := funext fun j => hg.1 36 j (by omega) (by decide) (by decide)
    have v37 : g 37 = h 37 := funext fun j => hg.1 37 j (by omega) (by decide) (by decide)
    have v38 : g 38 = h 38 := funext fun j => hg.1 38 j (by omega) (by decide) (by decide)
    have qr : LR (g 20) (g 21) (g 16 0) := by rw [v20, v21, wn]; exact hq
    refine r_iload_n dX0_solve_29 rfl rfl ?_
    refine r_if_lt (tgt := 49) dX0_solve_30 rfl (by omega) (fun c_30 => ?_) (fun c_30 => ?_)
    · have e : i = N := by omega
      subst e
      exact K g _ hg h1 (fun c j a b => h2 c j (by omega) a b)
    · rw [show (N : Int) - 1 - i = ((N - 1 - i : Nat) : Int) by omega]
      refine r_aload_n dX0_solve_33 rfl rfl ?_
      refine r_iload_n dX0_solve_34 rfl rfl ?_
      refine r_iload_n dX0_solve_35 rfl rfl ?_
      refine r_callVU (av := [_, _]) (M' := mX0_weigh) dX0_solve_36 vX0_weigh ml_X0_48 sh_33 (by decide) rfl rfl rfl rfl (by simp [wtA]) (sp_X0_weigh (O := onF (ftN (h 33 0) (h 1 2) (h 1 0) (h 1 3) (h 20) (h 21) (h 36) (h 37) (h 38) q) N i) (by omega) gw (by omega) qr (fun k hk => by rw [v36, v37, v38, wn]; rw [wc] at hk; exact hX k hk) (by omega) hd2 h1 (fun g2 f0 f1 f2 => ?_))
      rw [wc, w0, w2, w3, v20, v21, v36, v37, v38] at f1
      refine r_aload_n dX0_solve_39 rfl rfl ?_
      refine r_callVU (av := []) (M' := mX0_spread) dX0_solve_40 vX0_spread ml_X0_52 sh_33 (by decide) rfl rfl rfl rfl (by simp [wtA]) (sp_X0_spread (B := bhF (ftN (h 33 0) (h 1 2) (h 1 0) (h 1 3) (h 20) (h 21) (h 36) (h 37) (h 38) q) N i) (by omega) (fun j _ => bhF_r _ _ _ _) (fun j hj => (f1 j hj).1) (fun g3 y0 y1 => ?_))
      refine r_iinc (L' := [_, _, _]) dX0_solve_43 rfl rfl (by decide) rfl ?_
      refine r_goto (tgt := 29) dX0_solve_46 rfl ?_
      rw [show ((N - 1 - i : Nat) : Int) + -1 = (N : Int) - 1 - (i + 1 : Nat) by omega]
      refine ih (i + 1) g3 (by omega) (hg.tr ⟨fun a j z1 z2 z3 => (y0 a j z3).trans (f0.1 a j z1 z2 z3), by rw [y0 1 7 (by decide)]; exact f0.2⟩) (fun j hj => y1 j hj) (fun c j z1 z2 z3 => ?_) (by omega)
      rw [y0 39 _ (by decide)]
      by_cases e : c = N - 1 - i
      · subst e
        rw [(f1 j z3).2]
        unfold bkF
        rw [show N - 1 - (N - 1 - i) = i by omega]
        rfl
      · rw [f2 _ (by omega)]
        exact h2 c j (by omega) z2 z3
set_option maxRecDepth 20000 in
set_option maxHeartbeats 400000 in
theorem sp_X0_solve {d : Nat} (hd : 5 ≤ d) {q : Int} {h : Hp} {N : Nat} (hw : WOK h) (hn : 0 ≤ (h 16 0) ∧ (h 16 0) ≤ 150) (hq : LR (h 20) (h 21) (h 16 0)) (hX : ∀ k : Nat, (k : Int) < (h 33 0) → 0 ≤ h 36 k ∧ h 36 k < (h 16 0) ∧ R32 (h 37 k) ∧ R32 (h 38 k)) (hN : (h 33 0) = N ∧ N ≤ 12) (hd2 : 0 ≤ q ∧ q ≤ 999) {P : Int → Hp → Prop} (k0 : ∀ h' : Hp, (lsF (ftN (h 33 0) (h 1 2) (h 1 0) (h 1 3) (h 20) (h 21) (h 36) (h 37) (h 38) q) N < 1000000) → (FrC h h') → (h' 33 1 = lsF (ftN (h 33 0) (h 1 2) (h 1 0) (h 1 3) (h 20) (h 21) (h 36) (h 37) (h 38) q) N) → (∀ j : Nat, j < N → h' 34 j = fL (chF (bkF (ftN (h 33 0) (h 1 2) (h 1 0) (h 1 3) (h 20) (h 21) (h 36) (h 37) (h 38) q) N) j) ∧ h' 35 j = fR (chF (bkF (ftN (h 33 0) (h 1 2) (h 1 0) (h 1 3) (h 20) (h 21) (h 36) (h 37) (h 38) q) N) j)) → P (1) h') (k1 : ∀ h' : Hp, (¬ lsF (ftN (h 33 0) (h 1 2) (h 1 0) (h 1 3) (h 20) (h 21) (h 36) (h 37) (h 38) q) N < 1000000) → (FrC h h') → P (0) h') : Cl d mX0_solve [.inr (.inr 33), .inl q] h (pI P) := by
  refine Cl.of (L := [some (.inr (.inr 33)), some (.inl q), none]) (by decide +kernel) (Nat.le_of_ble_eq_true rfl) rfl ?_
  obtain ⟨d, rfl⟩ : ∃ q, d = q + 1 := ⟨d - 1, by omega⟩
  refine r_iconst dX0_solve_0 ?_
  refine r_istore_n (L' := [_, _, _]) dX0_solve_1 rfl rfl (by decide) rfl ?_
  refine lp_solve0 (fun g o z1 z2 => ?_) 170 0 h (by omega) (fun _ _ _ => rfl) (fun j hj => absurd hj (Nat.not_lt_zero j)) (by omega)
  refine r_aload_n dX0_solve_22 rfl rfl ?_
  refine r_getI dX0_solve_23 fl_X0_11 sh_33 rfl ?_
  rw [z1 33 0 (by decide), hN.1]
  refine r_iconst dX0_solve_26 ?_
  refine r_isub dX0_solve_27 ?_
  refine r_istore_n (L' := [_, _, _]) dX0_solve_28 rfl rfl (by decide) rfl ?_
  have gx : FrX h g := ⟨fun a j _ _ y => z1 a j y, by rw [z1 1 7 (by decide)]; omega⟩
  rw [show (N : Int) - 1 = (N : Int) - 1 - (0 : Nat) by omega]
  refine lp_solve1 (by omega) hw hn hq hX hN hd2 (fun g2 o2 y1 y2 y3 => ?_) 13 0 g (by omega) gx (fun j hj => z2 j hj) (fun c j a b _ => by omega) (by omega)
  have wc := y1.1 33 0 (by omega) (by decide) (by decide)
  have c84 := y2 84 (by decide)
  have r84 := onF_r (ftN (h 33 0) (h 1 2) (h 1 0) (h 1 3) (h 20) (h 21) (h 36) (h 37) (h 38) q) N N 84
  refine r_aload_n dX0_solve_49 rfl rfl ?_
  refine r_aload_n dX0_solve_50 rfl rfl ?_
  refine r_getI dX0_solve_51 fl_X0_11 sh_33 rfl ?_
  refine r_if_ne (tgt := 61) dX0_solve_54 rfl (by omega) (fun c_54 => ?_) (fun c_54 => ?_)
  · refine r_aload_n dX0_solve_61 rfl rfl ?_
    refine r_getR dX0_solve_62 fl_X0_37 sh_33 rfl ?_
    refine r_bipush dX0_solve_65 (by decide +kernel) ?_
    refine r_iald dX0_solve_67 sh_40 (by decide) ⟨by decide, by decide⟩ ?_
    refine r_eqI (y := lsF (ftN (h 33 0) (h 1 2) (h 1 0) (h 1 3) (h 20) (h 21) (h 36) (h 37) (h 38) q) N) c84 ?_
    refine r_putI dX0_solve_68 fl_X0_15 sh_33 rfl ?_
    have fx : FrC h (upH g2 33 1 (lsF (ftN (h 33 0) (h 1 2) (h 1 0) (h 1 3) (h 20) (h 21) (h 36) (h 37) (h 38) q) N)) := y1.fc.up rfl (by decide)
    refine r_aload_n dX0_solve_71 rfl rfl ?_
    refine r_getI dX0_solve_72 fl_X0_15 sh_33 rfl ?_
    refine r_eqI (up_s _ _ _ _) ?_
    refine r_ldc (z := 1000000) dX0_solve_75 kc_X0_55 (by decide +kernel) ?_
    refine r_icmp_lt (tgt := 82) dX0_solve_77 rfl (by unfold lsF; omega) ⟨by decide, by decide⟩ (fun c_77 => ?_) (fun c_77 => ?_)
    · refine r_aload_n dX0_solve_82 rfl rfl ?_
      refine r_callVU (av := []) (M' := mX0_chooseLeast) dX0_solve_83 vX0_chooseLeast ml_X0_56 sh_33 (by decide) rfl rfl rfl rfl (by simp [wtA]) (sp_X0_chooseLeast (ft := (ftN (h 33 0) (h 1 2) (h 1 0) (h 1 3) (h 20) (h 21) (h 36) (h 37) (h 38) q)) (N := N) (by omega) ⟨by rw [up_nk (by decide)]; exact wc.trans hN.1, hN.2⟩ (fun c j a b => by rw [up_nc (by decide)]; exact y3 c j a b) c_77 (up_s _ _ _ _) (fun g5 x0 x1 => ?_))
      refine r_iconst dX0_solve_86 ?_
      refine r_zret dX0_solve_87 rfl (.inr rfl) ?_
      refine ⟨_, rfl, k0 g5 c_77 (fx.tr ⟨fun a j y => x0 a j (by rintro rfl; cases y) (by rintro rfl; cases y), by rw [x0 1 7 (by decide) (by decide)]; exact fx.2⟩) (by rw [x0 33 1 (by decide) (by decide)]; exact up_s _ _ _ _) x1⟩
    · refine r_iconst dX0_solve_80 ?_
      refine r_zret dX0_solve_81 rfl (.inl rfl) ?_
      exact ⟨_, rfl, k1 _ (by omega) fx⟩
  · refine r_iconst dX0_solve_57 ?_
    refine r_goto (tgt := 68) dX0_solve_58 rfl ?_
    have e0 : (0 : Int) = lsF (ftN (h 33 0) (h 1 2) (h 1 0) (h 1 3) (h 20) (h 21) (h 36) (h 37) (h 38) q) N := by
      have n0 : N = 0 := by omega
      subst n0
      rfl
    refine r_eqI e0 ?_
    refine r_putI dX0_solve_68 fl_X0_15 sh_33 rfl ?_
    have fx : FrC h (upH g2 33 1 (lsF (ftN (h 33 0) (h 1 2) (h 1 0) (h 1 3) (h 20) (h 21) (h 36) (h 37) (h 38) q) N)) := y1.fc.up rfl (by decide)
    refine r_aload_n dX0_solve_71 rfl rfl ?_
    refine r_getI dX0_solve_72 fl_X0_15 sh_33 rfl ?_
    refine r_eqI (up_s _ _ _ _) ?_
    refine r_ldc (z := 1000000) dX0_solve_75 kc_X0_55 (by decide +kernel) ?_
    refine r_icmp_lt (tgt := 82) dX0_solve_77 rfl (by unfold lsF; omega) ⟨by decide, by decide⟩ (fun c_77 => ?_) (fun c_77 => ?_)
    · refine r_aload_n dX0_solve_82 rfl rfl ?_
      refine r_callVU (av := []) (M' := mX0_chooseLeast) dX0_solve_83 vX0_chooseLeast ml_X0_56 sh_33 (by decide) rfl rfl rfl rfl (by simp [wtA]) (sp_X0_chooseLeast (ft := (ftN (h 33 0) (h 1 2) (h 1 0) (h 1 3) (h 20) (h 21) (h 36) (h 37) (h 38) q)) (N := N) (by omega) ⟨by rw [up_nk (by decide)]; exact wc.trans hN.1, hN.2⟩ (fun c j a b => by rw [up_nc (by decide)]; exact y3 c j a b) c_77 (up_s _ _ _ _) (fun g5 x0 x1 => ?_))
      refine r_iconst dX0_solve_86 ?_
      refine r_zret dX0_solve_87 rfl (.inr rfl) ?_
      refine ⟨_, rfl, k0 g5 c_77 (fx.tr ⟨fun a j y => x0 a j (by rintro rfl; cases y) (by rintro rfl; cases y), by rw [x0 1 7 (by decide) (by decide)]; exact fx.2⟩) (by rw [x0 33 1 (by decide) (by decide)]; exact up_s _ _ _ _) x1⟩
    · refine r_iconst dX0_solve_80 ?_
      refine r_zret dX0_solve_81 rfl (.inl rfl) ?_
      exact ⟨_, rfl, k1 _ (by omega) fx⟩
noncomputable def fnFound (ft : Nat → Nat → Int) (N : Nat) (q v : Int) : Int := if 0 ≤ q ∧ q ≤ 999 then (if 0 ≤ v ∧ v ≤ 2 * N then (if lsF ft N < 1000000 then (if v = 0 then lsF ft N else if v.tmod 2 = 1 then fL (chF (bkF ft N) ((v - 1).tdiv 2).toNat) else fR (chF (bkF ft N) ((v - 1).tdiv 2).toNat)) else -2) else -2147483648) else -1
/-- the latest cross ahead of a move -/
def laF (mv : Nat → Int) (m : Int) : Nat → Int
  | 0 => -1
  | k + 1 => if mv k < m then k else laF mv m k
theorem laF_r (mv : Nat → Int) (m : Int) : ∀ k : Nat, -1 ≤ laF mv m k ∧ laF mv m k < k
  | 0 => by rw [laF]; omega
  | k + 1 => by
    have := laF_r mv m k
    rw [laF]
    split <;> omega
theorem laF_up {mv : Nat → Int} {m : Int} {k : Nat} : ∀ {n : Nat}, (∀ j : Nat, k ≤ j → j < k + n → ¬ mv j < m) → laF mv m (k + n) = laF mv m k
  | 0, _ => rfl
  | n + 1, h => by
    rw [show k + (n + 1) = (k + n) + 1 by omega, laF, if_neg (h (k + n) (by omega) (by omega))]
    exact laF_up (fun j a b => h j a (by omega))
theorem rise {mv : Nat → Int} {N k : Nat} (h : ∀ j : Nat, j + 1 < N → mv j < mv (j + 1)) : ∀ {n : Nat}, k + n < N → mv k ≤ mv (k + n)
  | 0, _ => Int.le_refl _
  | n + 1, hn => by
    have a := rise h (k := k) (n := n) (by omega)
    have b := h (k + n) (by omega)
    rw [show k + (n + 1) = k + n + 1 by omega]
    omega
noncomputable def mdP (K W E l r a : Int) : Int := if a = 0 then pX K W E l r else pY K W E l r
noncomputable def fnMend (ft : Nat → Nat → Int) (N : Nat) (W K E n m q a : Int) (lf rg ms mv : Nat → Int) : Int := if (0 ≤ m ∧ m < n) ∧ (0 ≤ q ∧ q ≤ 999) ∧ (a = 0 ∨ a = 1) ∧ lsF ft N < 1000000 then (if laF mv m N < 0 then mdP K W E (lf (m.toNat + 1) + msN ms 0 (m.toNat + 1)) (rg (m.toNat + 1) + msN ms 1 (m.toNat + 1)) a else mdP K W E (lf (m.toNat + 1) + msN ms 0 (m.toNat + 1) - fL (chF (bkF ft N) (laF mv m N).toNat)) (rg (m.toNat + 1) + msN ms 1 (m.toNat + 1) - fR (chF (bkF ft N) (laF mv m N).toNat)) a) else -2147483648
set_option maxRecDepth 20000 in
set_option maxHeartbeats 400000 in
theorem sp_X11_found {d : Nat} (hd : 6 ≤ d) {q v : Int} {h : Hp} {N : Nat} (hw : WOK h) (hq2 : R32 q) (hv : R32 v) (hn : 0 ≤ (h 16 0) ∧ (h 16 0) ≤ 150) (hq : LR (h 20) (h 21) (h 16 0)) (hX : ∀ k : Nat, (k : Int) < (h 33 0) → 0 ≤ h 36 k ∧ h 36 k < (h 16 0) ∧ R32 (h 37 k) ∧ R32 (h 38 k)) (hN : (h 33 0) = N ∧ N ≤ 12) {P : Int → Hp → Prop} (k : ∀ h' : Hp, (FrC h h') → P (fnFound (ftN (h 33 0) (h 1 2) (h 1 0) (h 1 3) (h 20) (h 21) (h 36) (h 37) (h 38) q) N q v) h') : Cl d mX11_found [.inr (.inr 0), .inl q, .inl v] h (pI P) := by
  refine Cl.of (L := [some (.inr (.inr 0)), some (.inl q), some (.inl v), none]) (by decide +kernel) (Nat.le_of_ble_eq_true rfl) rfl ?_
  obtain ⟨d, rfl⟩ : ∃ q, d = q + 1 := ⟨d - 1, by omega⟩
  refine r_iload_n dX11_found_0 rfl rfl ?_
  refine r_iconst dX11_found_1 ?_
  refine r_sipush dX11_found_2 (by decide +kernel) ?_
  refine r_callSI (av := [_, _, _]) (M' := mX11_isWithin) dX11_found_5 sX11_isWithin ml_X11_116 rfl rfl (by simp [wtA]) (sp_X11_isWithin (by omega) (by omega) (by omega) (by omega) (fun b_5 => ?_) (fun b_5 => ?_))
  · refine r_if_ne (tgt := 13) dX11_found_8 rfl ⟨by decide, by decide⟩ (fun c_8 => ?_) (fun c_8 => absurd c_8 (by decide))
    refine r_iload_n dX11_found_13 rfl rfl ?_
    refine r_iconst dX11_found_14 ?_
    refine r_iconst dX11_found_15 ?_
    refine r_aload_n dX11_found_16 rfl rfl ?_
    refine r_getR dX11_found_17 fl_X11_72 sh_0 rfl ?_
    refine r_getI dX11_found_20 fl_X11_260 sh_33 rfl ?_
    refine r_imul dX11_found_23 ?_
    refine r_callSI (av := [_, _, _]) (M' := mX11_isWithin) dX11_found_24 sX11_isWithin ml_X11_116 rfl rfl (by simp [wtA]) (sp_X11_isWithin (by omega) (by omega) (by omega) (by omega) (fun b_24 => ?_) (fun b_24 => ?_))
    · refine r_if_ne (tgt := 33) dX11_found_27 rfl ⟨by decide, by decide⟩ (fun c_27 => ?_) (fun c_27 => absurd c_27 (by decide))
      refine r_aload_n dX11_found_33 rfl rfl ?_
      refine r_getR dX11_found_34 fl_X11_72 sh_0 rfl ?_
      refine r_iload_n dX11_found_37 rfl rfl ?_
      refine r_callVI (av := [_]) (M' := mX0_solve) dX11_found_38 vX0_solve ml_X11_261 sh_33 (by decide) rfl rfl rfl rfl (by simp [wtA]) (sp_X0_solve (by omega) (by omega) (by omega) hq hX hN (by omega) (fun h_38 f0_38 f1_38 f2_38 f3_38 => ?_) (fun h_38 f0_38 f1_38 => ?_))
      · refine r_if_ne (tgt := 47) dX11_found_41 rfl ⟨by decide, by decide⟩ (fun c_41 => ?_) (fun c_41 => absurd c_41 (by decide))
        have k := k _ f1_38
        unfold fnFound at k
        rw [if_pos (by omega), if_pos (by omega), if_pos f0_38] at k
        refine r_iload_n dX11_found_47 rfl rfl ?_
        refine r_if_ne (tgt := 59) dX11_found_48 rfl (by omega) (fun c_48 => ?_) (fun c_48 => ?_)
        · rw [if_neg (by omega)] at k
          have d2 := tdivNN (a := v - 1) (b := 2) (by omega) (by omega)
          have d3 : (v - 1).tdiv 2 < N := by rw [Int.tdiv_eq_ediv_of_nonneg (by omega)]; omega
          have fj := f3_38 ((v - 1).tdiv 2).toNat (by omega)
          have t2 : 0 ≤ v.tmod 2 ∧ v.tmod 2 ≤ 1 := by rw [Int.tmod_eq_emod_of_nonneg (by omega)]; omega
          refine r_iload_n dX11_found_59 rfl rfl ?_
          refine r_iconst dX11_found_60 ?_
          refine r_isub dX11_found_61 ?_
          refine r_iconst dX11_found_62 ?_
          refine r_idiv dX11_found_63 (by omega) ⟨by decide, by decide⟩ (by decide) ?_
          refine r_istore_n (L' := [_, _, _, _]) dX11_found_64 rfl rfl (by decide) rfl ?_
          refine r_iload_n dX11_found_65 rfl rfl ?_
          refine r_iconst dX11_found_66 ?_
          refine r_irem dX11_found_67 (by omega) ⟨by decide, by decide⟩ (by decide) ?_
          refine r_iconst dX11_found_68 ?_
          refine r_icmp_ne (tgt := 84) dX11_found_69 rfl (by omega) ⟨by decide, by decide⟩ (fun c_69 => ?_) (fun c_69 => ?_)
          · refine r_aload_n dX11_found_84 rfl rfl ?_
            refine r_getR dX11_found_85 fl_X11_72 sh_0 rfl ?_
            refine r_getR dX11_found_88 fl_X11_270 sh_33 rfl ?_
            refine r_iload_n dX11_found_91 rfl rfl ?_
            refine r_iald dX11_found_92 sh_35 (by decide) (by omega) ?_
            refine r_iret dX11_found_93 rfl ?_
            first
              | (rw [if_pos (by omega)] at k; exact ⟨_, rfl, eqP k fj.1.symm⟩)
              | (rw [if_neg (by omega)] at k; exact ⟨_, rfl, eqP k fj.2.symm⟩)
          · refine r_aload_n dX11_found_72 rfl rfl ?_
            refine r_getR dX11_found_73 fl_X11_72 sh_0 rfl ?_
            refine r_getR dX11_found_76 fl_X11_267 sh_33 rfl ?_
            refine r_iload_n dX11_found_79 rfl rfl ?_
            refine r_iald dX11_found_80 sh_34 (by decide) (by omega) ?_
            refine r_goto (tgt := 93) dX11_found_81 rfl ?_
            refine r_iret dX11_found_93 rfl ?_
            first
              | (rw [if_pos (by omega)] at k; exact ⟨_, rfl, eqP k fj.1.symm⟩)
              | (rw [if_neg (by omega)] at k; exact ⟨_, rfl, eqP k fj.2.symm⟩)
        · refine r_aload_n dX11_found_51 rfl rfl ?_
          refine r_getR dX11_found_52 fl_X11_72 sh_0 rfl ?_
          refine r_getI dX11_found_55 fl_X11_264 sh_33 rfl ?_
          refine r_iret dX11_found_58 rfl ?_
          rw [if_pos (by omega)] at k
          exact ⟨_, rfl, eqP k f2_38.symm⟩
      · refine r_if_ne (tgt := 47) dX11_found_41 rfl ⟨by decide, by decide⟩ (fun c_41 => absurd c_41 (by decide)) (fun c_41 => ?_)
        refine r_bipush dX11_found_44 (by decide +kernel) ?_
        refine r_iret dX11_found_46 rfl ?_
        refine ⟨_, rfl, eqP (k _ f1_38) ?_⟩
        unfold fnFound
        rw [if_pos (by omega), if_pos (by omega), if_neg f0_38]
    · refine r_if_ne (tgt := 33) dX11_found_27 rfl ⟨by decide, by decide⟩ (fun c_27 => absurd c_27 (by decide)) (fun c_27 => ?_)
      refine r_ldc (z := -2147483648) dX11_found_30 kc_X11_217 (by decide +kernel) ?_
      refine r_iret dX11_found_32 rfl ?_
      refine ⟨_, rfl, eqP (k h (FrC.rf hw)) ?_⟩
      unfold fnFound
      rw [if_pos (by omega), if_neg (by omega)]
  · refine r_if_ne (tgt := 13) dX11_found_8 rfl ⟨by decide, by decide⟩ (fun c_8 => absurd c_8 (by decide)) (fun c_8 => ?_)
    refine r_iconst dX11_found_11 ?_
    refine r_iret dX11_found_12 rfl ?_
    refine ⟨_, rfl, eqP (k h (FrC.rf hw)) ?_⟩
    unfold fnFound
    rw [if_neg (by omega)]
set_option maxRecDepth 20000 in
set_option maxHeartbeats 400000 in
theorem lp_latest {d : Nat} {P : Int → Hp → Prop} {h : Hp} {m : Int} {N : Nat} (hm : R32 m) (hN : (h 33 0) = N ∧ N ≤ 12) (hX : ∀ k : Nat, k < N → R32 (h 36 k)) (hr : ∀ k : Nat, k + 1 < N → h 36 k < h 36 (k + 1)) (k : P (laF (h 36) m N) h) : ∀ (nn : Nat) (j : Nat) (z : Int), (j ≤ N) → (z = laF (h 36) m j) → N - j < nn → WW mX0_latestAhead (d + 1) (pI P) 4 [some (.inr (.inr 33)), some (.inl m), some (.inl z), some (.inl (j : Int))] [] h := by
  intro nn
  induction nn with
  | zero => intro j z hj hz; intros; omega
  | succ nn ih =>
    intro j z hj hz hmu
    have ej : ((j : Int)).toNat = j := Int.toNat_natCast j
    have lr := laF_r (h 36) m j
    refine r_iload_n dX0_latestAhead_4 rfl rfl ?_
    refine r_aload_n dX0_latestAhead_5 rfl rfl ?_
    refine r_getI dX0_latestAhead_6 fl_X0_11 sh_33 rfl ?_
    refine r_icmp_ge (tgt := 30) dX0_latestAhead_9 rfl (by omega) (by omega) (fun c_9 => ?_) (fun c_9 => ?_)
    · refine r_iload_n dX0_latestAhead_30 rfl rfl ?_
      refine r_iret dX0_latestAhead_31 rfl ?_
      refine ⟨_, rfl, eqP k ?_⟩
      rw [hz]
      first
        | (have e : j = N := by omega
           rw [e])
        | (have e : N = j + (N - j) := by omega
           rw [e]
           refine laF_up (fun i a b => ?_)
           have := rise hr (k := j) (n := i - j) (by omega)
           rw [show j + (i - j) = i by omega] at this
           rw [ej] at c_19
           omega)
    · have xj := hX j (by omega)
      rw [← ej] at xj
      refine r_aload_n dX0_latestAhead_12 rfl rfl ?_
      refine r_getR dX0_latestAhead_13 fl_X0_25 sh_33 rfl ?_
      refine r_iload_n dX0_latestAhead_16 rfl rfl ?_
      refine r_iald dX0_latestAhead_17 sh_36 (by decide) (by omega) ?_
      refine r_iload_n dX0_latestAhead_18 rfl rfl ?_
      refine r_icmp_ge (tgt := 30) dX0_latestAhead_19 rfl (by omega) (by omega) (fun c_19 => ?_) (fun c_19 => ?_)
      · refine r_iload_n dX0_latestAhead_30 rfl rfl ?_
        refine r_iret dX0_latestAhead_31 rfl ?_
        refine ⟨_, rfl, eqP k ?_⟩
        rw [hz]
        first
          | (have e : j = N := by omega
             rw [e])
          | (have e : N = j + (N - j) := by omega
             rw [e]
             refine laF_up (fun i a b => ?_)
             have := rise hr (k := j) (n := i - j) (by omega)
             rw [show j + (i - j) = i by omega] at this
             rw [ej] at c_19
             omega)
      · refine r_iload_n dX0_latestAhead_22 rfl rfl ?_
        refine r_istore_n (L' := [_, _, _, _]) dX0_latestAhead_23 rfl rfl (by decide) rfl ?_
        refine r_iinc (L' := [_, _, _, _]) dX0_latestAhead_24 rfl rfl (by decide) rfl ?_
        refine r_goto (tgt := 4) dX0_latestAhead_27 rfl ?_
        refine ih (j + 1) _ (by omega) ?_ (by omega)
        rw [laF]
        rw [ej] at c_19
        rw [if_pos (by omega)]
set_option maxRecDepth 20000 in
set_option maxHeartbeats 400000 in
theorem sp_X0_latestAhead {d : Nat} (hd : 2 ≤ d) {m : Int} {h : Hp} {N : Nat} (hm : R32 m) (hN : (h 33 0) = N ∧ N ≤ 12) (hX : ∀ k : Nat, k < N → R32 (h 36 k)) (hr : ∀ k : Nat, k + 1 < N → h 36 k < h 36 (k + 1)) {P : Int → Hp → Prop} (k : P (laF (h 36) m N) (h)) : Cl d mX0_latestAhead [.inr (.inr 33), .inl m] h (pI P) := by
  refine Cl.of (L := [some (.inr (.inr 33)), some (.inl m), none, none]) (by decide +kernel) (Nat.le_of_ble_eq_true rfl) rfl ?_
  obtain ⟨d, rfl⟩ : ∃ q, d = q + 1 := ⟨d - 1, by omega⟩
  refine r_iconst dX0_latestAhead_0 ?_
  refine r_istore_n (L' := [_, _, _, _]) dX0_latestAhead_1 rfl rfl (by decide) rfl ?_
  refine r_iconst dX0_latestAhead_2 ?_
  refine r_istore_n (L' := [_, _, _, _]) dX0_latestAhead_3 rfl rfl (by decide) rfl ?_
  exact lp_latest hm hN hX hr k 13 0 _ (by omega) rfl (by omega)
set_option maxRecDepth 20000 in
set_option maxHeartbeats 400000 in
theorem sp_X11_mended {d : Nat} (hd : 6 ≤ d) {m q a : Int} {h : Hp} {N : Nat} (hw : WOK h) (hm : R32 m) (hq2 : R32 q) (ha : R32 a) (hn : 0 ≤ (h 16 0) ∧ (h 16 0) ≤ 150) (hq : LR (h 20) (h 21) (h 16 0)) (hX : ∀ k : Nat, (k : Int) < (h 33 0) → 0 ≤ h 36 k ∧ h 36 k < (h 16 0) ∧ R32 (h 37 k) ∧ R32 (h 38 k)) (hN : (h 33 0) = N ∧ N ≤ 12) (hs : ∀ j : Nat, j < 300 → -9 ≤ h 22 j ∧ h 22 j ≤ 9) (hr : ∀ k : Nat, k + 1 < N → h 36 k < h 36 (k + 1)) {P : Int → Hp → Prop} (k : ∀ h' : Hp, (FrC h h') → P (fnMend (ftN (h 33 0) (h 1 2) (h 1 0) (h 1 3) (h 20) (h 21) (h 36) (h 37) (h 38) q) N (h 1 0) (h 1 2) (h 1 3) (h 16 0) m q a (h 20) (h 21) (h 22) (h 36)) h') : Cl d mX11_mended [.inr (.inr 0), .inl m, .inl q, .inl a] h (pI P) := by
  refine Cl.of (L := [some (.inr (.inr 0)), some (.inl m), some (.inl q), some (.inl a), none]) (by decide +kernel) (Nat.le_of_ble_eq_true rfl) rfl ?_
  obtain ⟨d, rfl⟩ : ∃ q, d = q + 1 := ⟨d - 1, by omega⟩
  refine r_aload_n dX11_mended_0 rfl rfl ?_
  refine r_getR dX11_mended_1 fl_X11_44 sh_0 rfl ?_
  refine r_iload_n dX11_mended_4 rfl rfl ?_
  refine r_callVI (av := [_]) (M' := mX2_has) dX11_mended_5 vX2_has ml_X11_164 sh_16 (by decide) rfl rfl rfl rfl (by simp [wtA]) (sp_X2_has_16 (by omega) (by omega) hn (fun b_5 => ?_) (fun b_5 => ?_))
  · refine r_if_eq (tgt := 40) dX11_mended_8 rfl ⟨by decide, by decide⟩ (fun c_8 => absurd c_8 (by decide)) (fun c_8 => ?_)
    refine r_iload_n dX11_mended_11 rfl rfl ?_
    refine r_iconst dX11_mended_12 ?_
    refine r_sipush dX11_mended_13 (by decide +kernel) ?_
    refine r_callSI (av := [_, _, _]) (M' := mX11_isWithin) dX11_mended_16 sX11_isWithin ml_X11_116 rfl rfl (by simp [wtA]) (sp_X11_isWithin (by omega) (by omega) (by omega) (by omega) (fun b_16 => ?_) (fun b_16 => ?_))
    · refine r_if_eq (tgt := 40) dX11_mended_19 rfl ⟨by decide, by decide⟩ (fun c_19 => absurd c_19 (by decide)) (fun c_19 => ?_)
      refine r_iload_n dX11_mended_22 rfl rfl ?_
      refine r_callSI (av := [_]) (M' := mX11_isAxis) dX11_mended_23 sX11_isAxis ml_X11_214 rfl rfl (by simp [wtA]) (sp_X11_isAxis (by omega) (by omega) (fun b_23 => ?_) (fun b_23 => ?_))
      · refine r_if_eq (tgt := 40) dX11_mended_26 rfl ⟨by decide, by decide⟩ (fun c_26 => absurd c_26 (by decide)) (fun c_26 => ?_)
        refine r_aload_n dX11_mended_29 rfl rfl ?_
        refine r_getR dX11_mended_30 fl_X11_72 sh_0 rfl ?_
        refine r_iload_n dX11_mended_33 rfl rfl ?_
        refine r_callVI (av := [_]) (M' := mX0_solve) dX11_mended_34 vX0_solve ml_X11_261 sh_33 (by decide) rfl rfl rfl rfl (by simp [wtA]) (sp_X0_solve (by omega) (by omega) (by omega) hq hX hN (by omega) (fun h_34 f0_34 f1_34 f2_34 f3_34 => ?_) (fun h_34 f0_34 f1_34 => ?_))
        · refine r_if_ne (tgt := 43) dX11_mended_37 rfl ⟨by decide, by decide⟩ (fun c_37 => ?_) (fun c_37 => absurd c_37 (by decide))
          unfold fnMend at k
          rw [if_pos ⟨b_5, b_16, b_23, f0_34⟩] at k
          have w0 := f1_34.1 1 0 rfl
          have w1 := f1_34.1 1 1 rfl
          have w2 := f1_34.1 1 2 rfl
          have w3 := f1_34.1 1 3 rfl
          have w4 := f1_34.1 1 4 rfl
          have w5 := f1_34.1 1 5 rfl
          have gw : WOK h_34 := by have := f1_34.2; omega
          have wn := f1_34.1 16 0 rfl
          have wc := f1_34.1 33 0 rfl
          have v20 : h_34 20 = h 20 := funext fun j => f1_34.1 20 j rfl
          have v21 : h_34 21 = h 21 := funext fun j => f1_34.1 21 j rfl
          have v22 : h_34 22 = h 22 := funext fun j => f1_34.1 22 j rfl
          have v36 : h_34 36 = h 36 := funext fun j => f1_34.1 36 j rfl
          have qr : LR (h_34 20) (h_34 21) (h_34 16 0) := by rw [v20, v21, wn]; exact hq
          have lr := laF_r (h 36) m N
          refine r_aload_n dX11_mended_43 rfl rfl ?_
          refine r_getR dX11_mended_44 fl_X11_72 sh_0 rfl ?_
          refine r_iload_n dX11_mended_47 rfl rfl ?_
          refine r_callVI (av := [_]) (M' := mX0_latestAhead) dX11_mended_48 vX0_latestAhead ml_X11_273 sh_33 (by decide) rfl rfl rfl rfl (by simp [wtA]) (sp_X0_latestAhead (N := N) (by omega) hm ⟨wc.trans hN.1, hN.2⟩ (fun k hk => by rw [v36]; have := hX k (by omega); omega) (by rw [v36]; exact hr) ?_)
          rw [v36]
          refine r_istore (L' := [_, _, _, _, _]) dX11_mended_51 rfl (by decide) rfl ?_
          refine r_iload dX11_mended_53 rfl ?_
          refine r_if_ge (tgt := 67) dX11_mended_55 rfl (by omega) (fun c_55 => ?_) (fun c_55 => ?_)
          · have fj := f3_34 (laF (h 36) m N).toNat (by omega)
            have cj := fLR_r (chF_lt (bkF (ftN (h 33 0) (h 1 2) (h 1 0) (h 1 3) (h 20) (h 21) (h 36) (h 37) (h 38) q) N) (laF (h 36) m N).toNat)
            refine r_aload_n dX11_mended_67 rfl rfl ?_
            refine r_iload_n dX11_mended_68 rfl rfl ?_
            refine r_aload_n dX11_mended_69 rfl rfl ?_
            refine r_getR dX11_mended_70 fl_X11_72 sh_0 rfl ?_
            refine r_getR dX11_mended_73 fl_X11_267 sh_33 rfl ?_
            refine r_iload dX11_mended_76 rfl ?_
            refine r_iald dX11_mended_78 sh_34 (by decide) (by omega) ?_
            refine r_aload_n dX11_mended_79 rfl rfl ?_
            refine r_getR dX11_mended_80 fl_X11_72 sh_0 rfl ?_
            refine r_getR dX11_mended_83 fl_X11_270 sh_33 rfl ?_
            refine r_iload dX11_mended_86 rfl ?_
            refine r_iald dX11_mended_88 sh_35 (by decide) (by omega) ?_
            refine r_iload_n dX11_mended_89 rfl rfl ?_
            refine r_callVI (av := [_, _, _, _]) (M' := mX11_realNumber) dX11_mended_90 vX11_realNumber ml_X11_251 sh_0 (by decide) rfl rfl rfl rfl (by simp [wtA]) (sp_X11_realNumber (by omega) (by omega) (by omega) (by omega) (by omega) (by omega) (by omega) qr (by rw [v22]; exact hs) (fun h_90 f0_90 => ?_))
            refine r_iret dX11_mended_93 rfl ?_
            rw [if_neg (by omega)] at k
            refine ⟨_, rfl, eqP (k _ (f1_34.tr f0_90)) ?_⟩
            rw [w0, w2, w3, v20, v21, v22, fj.1, fj.2]
            rfl
          · refine r_aload_n dX11_mended_58 rfl rfl ?_
            refine r_iload_n dX11_mended_59 rfl rfl ?_
            refine r_iconst dX11_mended_60 ?_
            refine r_iconst dX11_mended_61 ?_
            refine r_iload_n dX11_mended_62 rfl rfl ?_
            refine r_callVI (av := [_, _, _, _]) (M' := mX11_realNumber) dX11_mended_63 vX11_realNumber ml_X11_251 sh_0 (by decide) rfl rfl rfl rfl (by simp [wtA]) (sp_X11_realNumber (by omega) (by omega) (by omega) (by omega) (by omega) (by omega) (by omega) qr (by rw [v22]; exact hs) (fun h_63 f0_63 => ?_))
            refine r_iret dX11_mended_66 rfl ?_
            rw [if_pos (by omega)] at k
            refine ⟨_, rfl, eqP (k _ (f1_34.tr f0_63)) ?_⟩
            rw [w0, w2, w3, v20, v21, v22, Int.sub_zero, Int.sub_zero]
            rfl
        · refine r_if_ne (tgt := 43) dX11_mended_37 rfl ⟨by decide, by decide⟩ (fun c_37 => absurd c_37 (by decide)) (fun c_37 => ?_)
          refine r_ldc (z := -2147483648) dX11_mended_40 kc_X11_217 (by decide +kernel) ?_
          refine r_iret dX11_mended_42 rfl ?_
          first
            | (refine ⟨_, rfl, eqP (k h (FrC.rf hw)) ?_⟩
               unfold fnMend
               rw [if_neg (by omega)])
            | (refine ⟨_, rfl, eqP (k _ f1_34) ?_⟩
               unfold fnMend
               rw [if_neg (fun z => f0_34 z.2.2.2)])
      · refine r_if_eq (tgt := 40) dX11_mended_26 rfl ⟨by decide, by decide⟩ (fun c_26 => ?_) (fun c_26 => absurd c_26 (by decide))
        refine r_ldc (z := -2147483648) dX11_mended_40 kc_X11_217 (by decide +kernel) ?_
        refine r_iret dX11_mended_42 rfl ?_
        first
          | (refine ⟨_, rfl, eqP (k h (FrC.rf hw)) ?_⟩
             unfold fnMend
             rw [if_neg (by omega)])
          | (refine ⟨_, rfl, eqP (k _ f1_34) ?_⟩
             unfold fnMend
             rw [if_neg (fun z => f0_34 z.2.2.2)])
    · refine r_if_eq (tgt := 40) dX11_mended_19 rfl ⟨by decide, by decide⟩ (fun c_19 => ?_) (fun c_19 => absurd c_19 (by decide))
      refine r_ldc (z := -2147483648) dX11_mended_40 kc_X11_217 (by decide +kernel) ?_
      refine r_iret dX11_mended_42 rfl ?_
      first
        | (refine ⟨_, rfl, eqP (k h (FrC.rf hw)) ?_⟩
           unfold fnMend
           rw [if_neg (by omega)])
        | (refine ⟨_, rfl, eqP (k _ f1_34) ?_⟩
           unfold fnMend
           rw [if_neg (fun z => f0_34 z.2.2.2)])
  · refine r_if_eq (tgt := 40) dX11_mended_8 rfl ⟨by decide, by decide⟩ (fun c_8 => ?_) (fun c_8 => absurd c_8 (by decide))
    refine r_ldc (z := -2147483648) dX11_mended_40 kc_X11_217 (by decide +kernel) ?_
    refine r_iret dX11_mended_42 rfl ?_
    first
      | (refine ⟨_, rfl, eqP (k h (FrC.rf hw)) ?_⟩
         unfold fnMend
         rw [if_neg (by omega)])
      | (refine ⟨_, rfl, eqP (k _ f1_34) ?_⟩
         unfold fnMend
         rw [if_neg (fun z => f0_34 z.2.2.2)])
