/-! A HATCH OF THE CLASS: the lines beyond the window are left out, and nothing is left of them -/
theorem ht_ex {y1 bt gp : Int} (h : 1 ≤ gp) : ∃ N : Nat, ∀ i : Nat, i < N ↔ y1 + (i : Int) * gp ≤ bt := by
  refine ⟨((bt - y1) / gp + 1).toNat, fun i => ?_⟩
  have q := Int.le_ediv_iff_mul_le (a := (i : Int)) (b := bt - y1) (c := gp) (by omega)
  constructor
  · intro z
    have := q.mp (by omega)
    omega
  · intro z
    have := q.mpr (by omega)
    omega
theorem ht_i0 {ab gp : Int} (h : 1 ≤ gp) (ha : 0 ≤ ab) : ∃ i : Nat, (ab + gp - 1).tdiv gp = i ∧ (∀ j : Nat, j < i ↔ (j : Int) * gp < ab) ∧ (i : Int) * gp ≤ ab + gp - 1 ∧ (i : Int) ≤ ab + gp - 1 := by
  have e : (ab + gp - 1).tdiv gp = (ab + gp - 1) / gp := Int.tdiv_eq_ediv_of_nonneg (by omega)
  have nn : 0 ≤ (ab + gp - 1) / gp := Int.ediv_nonneg (by omega) (by omega)
  obtain ⟨i, hi⟩ : ∃ i : Nat, (ab + gp - 1) / gp = i := ⟨((ab + gp - 1) / gp).toNat, by omega⟩
  have top := (Int.le_ediv_iff_mul_le (a := (i : Int)) (b := ab + gp - 1) (c := gp) (by omega)).mp (by omega)
  have one := Int.mul_le_mul_of_nonneg_left h (Int.natCast_nonneg i)
  rw [Int.mul_one] at one
  refine ⟨i, e.trans hi, fun j => ?_, top, by omega⟩
  have q := Int.le_ediv_iff_mul_le (a := (j : Int) + 1) (b := ab + gp - 1) (c := gp) (by omega)
  rw [Int.add_mul, Int.one_mul, hi] at q
  constructor
  · intro z
    have := q.mp (by omega)
    omega
  · intro z
    have := q.mpr (by omega)
    omega
theorem ht_out {w : Q4} {x1 x2 y1 gp sx sy : Int} {j : Nat} (h : y1 + (j : Int) * gp + sy < w.2.1 ∨ w.2.2.2 < y1 + (j : Int) * gp + sy) : lnN w (htE x1 x2 y1 gp sx sy j) := by
  unfold htE
  split
  · exact lnN_lv h
  · exact lnN_lv h
theorem ht_eq {w : Q4} {g : Gm} {x1 x2 y1 gp sx sy y2 bt ab : Int} {N M i0 : Nat} (hgp : 1 ≤ gp) (hN : ∀ i : Nat, i < N ↔ y1 + (i : Int) * gp ≤ y2) (hM : ∀ i : Nat, i < M ↔ y1 + (i : Int) * gp ≤ bt) (hi : ∀ j : Nat, j < i0 ↔ (j : Int) * gp < ab) (eb : bt = min y2 (w.2.2.2 - sy)) (ea : ab = max (w.2.1 - sy - y1) 0) : itF w (htE x1 x2 y1 gp sx sy) (M - i0) i0 g = itF w (htE x1 x2 y1 gp sx sy) N 0 g := by
  have lo : ∀ j : Nat, j < i0 → lnN w (htE x1 x2 y1 gp sx sy j) := fun j hj => by
    have a := (hi j).mp hj
    have b := Int.mul_nonneg (Int.natCast_nonneg j) (show 0 ≤ gp by omega)
    exact ht_out (Or.inl (by omega))
  have hi2 : ∀ j : Nat, M ≤ j → j < N → lnN w (htE x1 x2 y1 gp sx sy j) := fun j hj hk => by
    have a := (hN j).mp hk
    have b : ¬ y1 + (j : Int) * gp ≤ bt := fun z => Nat.not_lt.mpr hj ((hM j).mpr z)
    exact ht_out (Or.inr (by omega))
  have mn : M ≤ N := by
    rcases Nat.lt_or_ge N M with z | z
    · have a := (hM N).mp z
      have b := (hN N).mpr (by omega)
      exact absurd b (Nat.lt_irrefl N)
    · exact z
  rcases Nat.lt_or_ge M i0 with c | c
  · rw [show M - i0 = 0 by omega, itF]
    refine (itF_n N 0 g (fun j _ hj => ?_)).symm
    rcases Nat.lt_or_ge j i0 with z | z
    · exact lo j z
    · exact hi2 j (by omega) (by omega)
  · have e : N = i0 + ((M - i0) + (N - M)) := by omega
    rw [e, itF_add, itF_add, itF_n i0 0 g (fun j _ hj => lo j (by omega)), Nat.zero_add]
    exact (itF_n _ _ _ (fun j a b => hi2 j (by omega) (by omega))).symm
set_option maxRecDepth 20000 in
set_option maxHeartbeats 400000 in
theorem sp_X5_drawHatch {d : Nat} (hd : 5 ≤ d) {h : Hp} {s N : Nat} (hs : s < 60) (hN : ∀ i : Nat, i < N ↔ h 8 (5 * s + 1) + (i : Int) * h 8 (5 * s + 4) ≤ h 8 (5 * s + 3)) (hn : (0 ≤ h 8 (5 * s) ∧ h 8 (5 * s) ≤ 999) ∧ (0 ≤ h 8 (5 * s + 1) ∧ h 8 (5 * s + 1) ≤ 999) ∧ (0 ≤ h 8 (5 * s + 2) ∧ h 8 (5 * s + 2) ≤ 999) ∧ (0 ≤ h 8 (5 * s + 3) ∧ h 8 (5 * s + 3) ≤ 999) ∧ (1 ≤ h 8 (5 * s + 4) ∧ h 8 (5 * s + 4) ≤ 99)) (hsh : (-500000 ≤ h 30 3 ∧ h 30 3 ≤ 500000) ∧ (-500000 ≤ h 30 4 ∧ h 30 4 ≤ 500000)) (hw : WnR (wnC h)) (hg : GmR (gmC h)) (h01 : h 30 10 = 0 ∨ h 30 10 = 1) {P : Hp → Prop} (k : ∀ h' : Hp, (FrL h h') → (gmC h' = itF (wnC h) (htE (h 8 (5 * s)) (h 8 (5 * s + 2)) (h 8 (5 * s + 1)) (h 8 (5 * s + 4)) (h 30 3) (h 30 4)) N 0 (gmC h)) → P h') : Cl d mX5_drawHatch [.inr (.inr 30), .inl (s : Int)] h (pV P) := by
  refine Cl.of (L := [some (.inr (.inr 30)), some (.inl (s : Int)), none, none, none, none, none, none, none, none]) (by decide +kernel) (Nat.le_of_ble_eq_true rfl) rfl ?_
  obtain ⟨d, rfl⟩ : ∃ q, d = q + 1 := ⟨d - 1, by omega⟩
  have i0 : (5 * (s : Int) + 0).toNat = 5 * s := by clear hw hg hN; omega
  have i1 : (5 * (s : Int) + 1).toNat = 5 * s + 1 := by clear hw hg hN; omega
  have i2 : (5 * (s : Int) + 2).toNat = 5 * s + 2 := by clear hw hg hN; omega
  have i3 : (5 * (s : Int) + 3).toNat = 5 * s + 3 := by clear hw hg hN; omega
  have i4 : (5 * (s : Int) + 4).toNat = 5 * s + 4 := by clear hw hg hN; omega
  have m4 : max (h 8 (5 * s + 4)) 1 = h 8 (5 * s + 4) := by clear hw hg hN; omega
  have w2 : 0 ≤ h 30 6 ∧ h 30 6 ≤ 999 := hw.2.1
  have w4 : 0 ≤ h 30 8 ∧ h 30 8 ≤ 999 := hw.2.2.2
  refine r_aload_n dX5_drawHatch_0 rfl rfl ?_
  refine r_getR dX5_drawHatch_1 fl_X5_43 sh_30 rfl ?_
  refine r_iload_n dX5_drawHatch_4 rfl rfl ?_
  refine r_iconst dX5_drawHatch_5 ?_
  refine r_callVI (av := [_, _]) (M' := mX7_get) dX5_drawHatch_6 vX7_get ml_X5_93 sh_4 (by decide) rfl rfl rfl rfl (by simp [wtA]) (sp_X7_get (by omega) (by clear hw hg hN; omega) (by decide) ?_)
  rw [i0]
  refine r_istore_n (L' := [_, _, _, _, _, _, _, _, _, _]) dX5_drawHatch_9 rfl rfl (by decide) rfl ?_
  refine r_aload_n dX5_drawHatch_10 rfl rfl ?_
  refine r_getR dX5_drawHatch_11 fl_X5_43 sh_30 rfl ?_
  refine r_iload_n dX5_drawHatch_14 rfl rfl ?_
  refine r_iconst dX5_drawHatch_15 ?_
  refine r_callVI (av := [_, _]) (M' := mX7_get) dX5_drawHatch_16 vX7_get ml_X5_93 sh_4 (by decide) rfl rfl rfl rfl (by simp [wtA]) (sp_X7_get (by omega) (by clear hw hg hN; omega) (by decide) ?_)
  rw [i2]
  refine r_istore_n (L' := [_, _, _, _, _, _, _, _, _, _]) dX5_drawHatch_19 rfl rfl (by decide) rfl ?_
  refine r_aload_n dX5_drawHatch_20 rfl rfl ?_
  refine r_getR dX5_drawHatch_21 fl_X5_43 sh_30 rfl ?_
  refine r_iload_n dX5_drawHatch_24 rfl rfl ?_
  refine r_iconst dX5_drawHatch_25 ?_
  refine r_callVI (av := [_, _]) (M' := mX7_get) dX5_drawHatch_26 vX7_get ml_X5_93 sh_4 (by decide) rfl rfl rfl rfl (by simp [wtA]) (sp_X7_get (by omega) (by clear hw hg hN; omega) (by decide) ?_)
  rw [i1]
  refine r_istore (L' := [_, _, _, _, _, _, _, _, _, _]) dX5_drawHatch_29 rfl (by decide) rfl ?_
  refine r_aload_n dX5_drawHatch_31 rfl rfl ?_
  refine r_getR dX5_drawHatch_32 fl_X5_43 sh_30 rfl ?_
  refine r_iload_n dX5_drawHatch_35 rfl rfl ?_
  refine r_iconst dX5_drawHatch_36 ?_
  refine r_callVI (av := [_, _]) (M' := mX7_get) dX5_drawHatch_37 vX7_get ml_X5_93 sh_4 (by decide) rfl rfl rfl rfl (by simp [wtA]) (sp_X7_get (by omega) (by clear hw hg hN; omega) (by decide) ?_)
  rw [i4]
  refine r_iconst dX5_drawHatch_40 ?_
  refine r_mmax (by clear hw hg hN; omega) ⟨by decide, by decide⟩ dX5_drawHatch_41 ml_X5_83 (by simp [wtA]) ?_
  rw [m4]
  refine r_istore (L' := [_, _, _, _, _, _, _, _, _, _]) dX5_drawHatch_44 rfl (by decide) rfl ?_
  refine r_aload_n dX5_drawHatch_46 rfl rfl ?_
  refine r_getI dX5_drawHatch_47 fl_X5_19 sh_30 rfl ?_
  refine r_aload_n dX5_drawHatch_50 rfl rfl ?_
  refine r_getI dX5_drawHatch_51 fl_X5_13 sh_30 rfl ?_
  refine r_isub dX5_drawHatch_54 ?_
  refine r_iload dX5_drawHatch_55 rfl ?_
  refine r_isub dX5_drawHatch_57 ?_
  refine r_iconst dX5_drawHatch_58 ?_
  refine r_mmax (by clear hN hg; omega) ⟨by decide, by decide⟩ dX5_drawHatch_59 ml_X5_83 (by simp [wtA]) ?_
  refine r_nmI (fun ab e_ab => ?_)
  refine r_istore (L' := [_, _, _, _, _, _, _, _, _, _]) dX5_drawHatch_62 rfl (by decide) rfl ?_
  refine r_aload_n dX5_drawHatch_64 rfl rfl ?_
  refine r_getR dX5_drawHatch_65 fl_X5_43 sh_30 rfl ?_
  refine r_iload_n dX5_drawHatch_68 rfl rfl ?_
  refine r_iconst dX5_drawHatch_69 ?_
  refine r_callVI (av := [_, _]) (M' := mX7_get) dX5_drawHatch_70 vX7_get ml_X5_93 sh_4 (by decide) rfl rfl rfl rfl (by simp [wtA]) (sp_X7_get (by omega) (by clear hw hg hN; omega) (by decide) ?_)
  rw [i3]
  refine r_aload_n dX5_drawHatch_73 rfl rfl ?_
  refine r_getI dX5_drawHatch_74 fl_X5_25 sh_30 rfl ?_
  refine r_aload_n dX5_drawHatch_77 rfl rfl ?_
  refine r_getI dX5_drawHatch_78 fl_X5_13 sh_30 rfl ?_
  refine r_isub dX5_drawHatch_81 ?_
  refine r_mmin (by clear hw hg hN; omega) (by clear hN hg; omega) dX5_drawHatch_82 ml_X5_109 (by simp [wtA]) ?_
  refine r_nmI (fun bt e_bt => ?_)
  refine r_istore (L' := [_, _, _, _, _, _, _, _, _, _]) dX5_drawHatch_85 rfl (by decide) rfl ?_
  refine r_iload dX5_drawHatch_87 rfl ?_
  refine r_iload dX5_drawHatch_89 rfl ?_
  refine r_iadd dX5_drawHatch_91 ?_
  refine r_iconst dX5_drawHatch_92 ?_
  refine r_isub dX5_drawHatch_93 ?_
  refine r_iload dX5_drawHatch_94 rfl ?_
  refine r_idiv dX5_drawHatch_96 (by clear hN hg; omega) (by clear hw hg hN; omega) (by clear hw hg hN; omega) ?_
  refine r_nmI (fun q0 e_q0 => ?_)
  refine r_istore (L' := [_, _, _, _, _, _, _, _, _, _]) dX5_drawHatch_97 rfl (by decide) rfl ?_
  obtain ⟨i0, ei, hi, up, up2⟩ := ht_i0 (ab := ab) (gp := h 8 (5 * s + 4)) hn.2.2.2.2.1 (by clear hw hg hN; omega)
  rw [ei] at e_q0
  rw [e_q0]
  obtain ⟨M, hM⟩ := ht_ex (y1 := h 8 (5 * s + 1)) (bt := bt) (gp := h 8 (5 * s + 4)) hn.2.2.2.2.1
  have ip := Int.mul_nonneg (Int.natCast_nonneg i0) (show 0 ≤ h 8 (5 * s + 4) by clear hw hg hN hM hi; omega)
  refine lp_chatch (h := h) (M := M) (by omega) hM hn.2.1 (by clear hg hN hM hi hw; omega) hn.2.2.2.2 hn.1 hn.2.2.1 hsh hw (fun g a e => k g a e) (M - i0 + 1) i0 (M - i0) _ _ h (by clear hw hg hN hM hi; omega) rfl ?_ ?_ FrL.rf hg h01 (ht_eq (y2 := h 8 (5 * s + 3)) hn.2.2.2.2.1 hN hM hi e_bt e_ab) (by omega)
  · generalize (i0 : Int) * h 8 (5 * s + 4) = z at *
    clear hg hN hM hi hw
    omega
  · clear hg hN hM hi hw
    omega
