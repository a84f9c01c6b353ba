/-! THE CLASS'S OTHER ACTS -/
def toF (w : Q4) (x y : Int) (g : Gm) : Gm := if (w.1 ≤ x ∧ x ≤ w.2.2.1) ∧ (w.2.1 ≤ y ∧ y ≤ w.2.2.2) then mv1 x y g else g
theorem GE.to {w : Q4} {x y : Int} {g u : Gm} (e : GE g u) (r : GmR g) (hw : WnR w) : GE (toF w x y g) (toF w x y u) ∧ GmR (toF w x y g) := by
  unfold toF
  split
  · exact ⟨(e.m1 r.1.1).1, r.m1 (by omega) (by omega)⟩
  · exact ⟨e, r⟩
set_option maxRecDepth 20000 in
set_option maxHeartbeats 400000 in
theorem sp_X5_goTo {d : Nat} (hd : 3 ≤ d) {x y : Int} {h : Hp}  (hx : (-600000 ≤ x ∧ x ≤ 600000) ∧ (-600000 ≤ y ∧ y ≤ 600000)) (hw : WnR (wnC h)) (hg : GmR (gmC h)) (hf : h 30 10 = 0) {P : Hp → Prop} (k : ∀ h' : Hp, (FrL h h') → (gmC h' = toF (wnC h) x y (gmC h)) → P h') : Cl d mX5_goTo [.inr (.inr 30), .inl x, .inl y] h (pV P) := by
  refine Cl.of (L := [some (.inr (.inr 30)), some (.inl x), some (.inl y), none]) (by decide +kernel) (Nat.le_of_ble_eq_true rfl) rfl ?_
  obtain ⟨d, rfl⟩ : ∃ q, d = q + 1 := ⟨d - 1, by omega⟩
  have w1 : 0 ≤ h 30 5 ∧ h 30 5 ≤ 999 := hw.1
  have w2 : 0 ≤ h 30 6 ∧ h 30 6 ≤ 999 := hw.2.1
  have w3 : 0 ≤ h 30 7 ∧ h 30 7 ≤ 999 := hw.2.2.1
  have w4 : 0 ≤ h 30 8 ∧ h 30 8 ≤ 999 := hw.2.2.2
  have hm : 0 ≤ h 16 0 ∧ h 16 0 ≤ 150 := hg.1
  have hl : (0 ≤ h 17 (h 16 0).toNat ∧ h 17 (h 16 0).toNat ≤ 2000) ∧ (0 ≤ h 18 (h 16 0).toNat ∧ h 18 (h 16 0).toNat ≤ 2000) := hg.2 (h 16 0).toNat (by show ((h 16 0).toNat : Int) ≤ h 16 0; omega)
  clear hg hw
  refine r_iload_n dX5_goTo_0 rfl rfl ?_
  refine r_aload_n dX5_goTo_1 rfl rfl ?_
  refine r_getI dX5_goTo_2 fl_X5_16 sh_30 rfl ?_
  refine r_aload_n dX5_goTo_5 rfl rfl ?_
  refine r_getI dX5_goTo_6 fl_X5_22 sh_30 rfl ?_
  refine r_callNI (av := [_, _, _]) (M' := mX11_isWithin) dX5_goTo_9 sX11_isWithin mn_X5_124 rfl rfl (by simp [wtA]) (sp_X11_isWithin (by omega) (by omega) (by omega) (by omega) (fun b_9 => ?_) (fun b_9 => ?_))
  · refine r_if_eq (tgt := 34) dX5_goTo_12 rfl ⟨by decide, by decide⟩ (fun c_12 => absurd c_12 (by decide)) (fun c_12 => ?_)
    refine r_iload_n dX5_goTo_15 rfl rfl ?_
    refine r_aload_n dX5_goTo_16 rfl rfl ?_
    refine r_getI dX5_goTo_17 fl_X5_19 sh_30 rfl ?_
    refine r_aload_n dX5_goTo_20 rfl rfl ?_
    refine r_getI dX5_goTo_21 fl_X5_25 sh_30 rfl ?_
    refine r_callNI (av := [_, _, _]) (M' := mX11_isWithin) dX5_goTo_24 sX11_isWithin mn_X5_124 rfl rfl (by simp [wtA]) (sp_X11_isWithin (by omega) (by omega) (by omega) (by omega) (fun b_24 => ?_) (fun b_24 => ?_))
    · refine r_if_eq (tgt := 34) dX5_goTo_27 rfl ⟨by decide, by decide⟩ (fun c_27 => absurd c_27 (by decide)) (fun c_27 => ?_)
      refine r_iconst dX5_goTo_30 ?_
      refine r_goto (tgt := 35) dX5_goTo_31 rfl ?_
      refine r_istore_n (L' := [_, _, _, _]) dX5_goTo_35 rfl rfl (by decide) rfl ?_
      refine r_iload_n dX5_goTo_36 rfl rfl ?_
      refine r_if_eq (tgt := 74) dX5_goTo_37 rfl ⟨by decide, by decide⟩ (fun c_37 => absurd c_37 (by decide)) (fun c_37 => ?_)
      refine r_aload_n dX5_goTo_40 rfl rfl ?_
      refine r_getR dX5_goTo_41 fl_X5_47 sh_30 rfl ?_
      refine r_iload_n dX5_goTo_44 rfl rfl ?_
      refine r_iload_n dX5_goTo_45 rfl rfl ?_
      refine r_callVI (av := [_, _]) (M' := mX2_penIsAt) dX5_goTo_46 vX2_penIsAt ml_X5_130 sh_16 (by decide) rfl rfl rfl rfl (by simp [wtA]) (sp_penAt (by omega) hm ⟨by omega, by omega⟩ ⟨by omega, by omega⟩ (fun pt => ?_) (fun pt => ?_))
      · refine r_if_ne (tgt := 74) dX5_goTo_49 rfl ⟨by decide, by decide⟩ (fun c_49 => ?_) (fun c_49 => absurd c_49 (by decide))
        refine r_vret dX5_goTo_74 rfl ?_
        have iw : (h 30 5 ≤ x ∧ x ≤ h 30 7) ∧ (h 30 6 ≤ y ∧ y ≤ h 30 8) := ⟨b_9, b_24⟩
        have et : toF (wnC h) x y (gmC h) = mv1 x y (gmC h) := if_pos iw
        rw [et] at k
        exact ⟨rfl, k _ (fun _ _ _ _ _ _ _ _ => rfl) (if_pos (show gmP x y (gmC h) from pt)).symm⟩
      · refine r_if_ne (tgt := 74) dX5_goTo_49 rfl ⟨by decide, by decide⟩ (fun c_49 => absurd c_49 (by decide)) (fun c_49 => ?_)
        refine r_aload_n dX5_goTo_52 rfl rfl ?_
        refine r_aload_n dX5_goTo_53 rfl rfl ?_
        refine r_getR dX5_goTo_54 fl_X5_47 sh_30 rfl ?_
        refine r_iload_n dX5_goTo_57 rfl rfl ?_
        refine r_iload_n dX5_goTo_58 rfl rfl ?_
        refine r_iconst dX5_goTo_59 ?_
        refine r_callVI (av := [_, _, _]) (M' := mX2_append) dX5_goTo_60 vX2_append ml_X5_134 sh_16 (by decide) rfl rfl rfl rfl (by simp [wtA]) (sp_append_0 (by omega) hm (fun g5 f5 v5 => ?_) (fun v5 => ?_))
        · refine r_if_ne (tgt := 70) dX5_goTo_63 rfl ⟨by decide, by decide⟩ (fun c_63 => ?_) (fun c_63 => absurd c_63 (by decide))
          refine r_iconst dX5_goTo_70 ?_
          refine r_putZ dX5_goTo_71 fl_X5_31 sh_30 rfl (.inl rfl) ?_
          refine r_vret dX5_goTo_74 rfl ?_
          have iw : (h 30 5 ≤ x ∧ x ≤ h 30 7) ∧ (h 30 6 ≤ y ∧ y ≤ h 30 8) := ⟨b_9, b_24⟩
          have et : toF (wnC h) x y (gmC h) = mv1 x y (gmC h) := if_pos iw
          rw [et] at k
          have em : mv1 x y (gmC h) = gmA x y 0 (gmC h) := if_neg (show ¬ gmP x y (gmC h) from pt)
          rw [em] at k
          refine ⟨rfl, k _ (fun a k z1 z2 z3 z4 z5 z6 => ?_) ?_⟩
          · have e1 : upH g5 30 10 0 a k = g5 a k := by unfold upH; rw [if_neg z5]
            rw [e1]
            exact f5 a k z1 z2 z3 z4
          · rw [gmA_y (show (gmC h).1 < 150 from v5.1)]
            unfold gmC
            rw [up_nc (by decide), upH_f (by decide), upH_f (by decide), upH_f (by decide), up_s, v5.2.1, v5.2.2.1, v5.2.2.2.1, v5.2.2.2.2, hf]
        · refine r_if_ne (tgt := 70) dX5_goTo_63 rfl ⟨by decide, by decide⟩ (fun c_63 => absurd c_63 (by decide)) (fun c_63 => ?_)
          refine r_iconst dX5_goTo_66 ?_
          refine r_goto (tgt := 71) dX5_goTo_67 rfl ?_
          refine r_putZ dX5_goTo_71 fl_X5_31 sh_30 rfl (.inr rfl) ?_
          refine r_vret dX5_goTo_74 rfl ?_
          have iw : (h 30 5 ≤ x ∧ x ≤ h 30 7) ∧ (h 30 6 ≤ y ∧ y ≤ h 30 8) := ⟨b_9, b_24⟩
          have et : toF (wnC h) x y (gmC h) = mv1 x y (gmC h) := if_pos iw
          rw [et] at k
          have em : mv1 x y (gmC h) = gmA x y 0 (gmC h) := if_neg (show ¬ gmP x y (gmC h) from pt)
          rw [em] at k
          refine ⟨rfl, k _ (fun a k z1 z2 z3 z4 z5 z6 => ?_) ?_⟩
          · unfold upH
            rw [if_neg z5]
          · rw [gmA_n (show ¬ (gmC h).1 < 150 from v5)]
            unfold gmC
            rw [up_nc (by decide), upH_f (by decide), upH_f (by decide), upH_f (by decide), up_s]
    · refine r_if_eq (tgt := 34) dX5_goTo_27 rfl ⟨by decide, by decide⟩ (fun c_27 => ?_) (fun c_27 => absurd c_27 (by decide))
      refine r_iconst dX5_goTo_34 ?_
      refine r_istore_n (L' := [_, _, _, _]) dX5_goTo_35 rfl rfl (by decide) rfl ?_
      refine r_iload_n dX5_goTo_36 rfl rfl ?_
      refine r_if_eq (tgt := 74) dX5_goTo_37 rfl ⟨by decide, by decide⟩ (fun c_37 => ?_) (fun c_37 => absurd c_37 (by decide))
      refine r_vret dX5_goTo_74 rfl ?_
      have nw : ¬ ((h 30 5 ≤ x ∧ x ≤ h 30 7) ∧ (h 30 6 ≤ y ∧ y ≤ h 30 8)) := by omega
      exact ⟨rfl, k _ (fun _ _ _ _ _ _ _ _ => rfl) (if_neg nw).symm⟩
  · refine r_if_eq (tgt := 34) dX5_goTo_12 rfl ⟨by decide, by decide⟩ (fun c_12 => ?_) (fun c_12 => absurd c_12 (by decide))
    refine r_iconst dX5_goTo_34 ?_
    refine r_istore_n (L' := [_, _, _, _]) dX5_goTo_35 rfl rfl (by decide) rfl ?_
    refine r_iload_n dX5_goTo_36 rfl rfl ?_
    refine r_if_eq (tgt := 74) dX5_goTo_37 rfl ⟨by decide, by decide⟩ (fun c_37 => ?_) (fun c_37 => absurd c_37 (by decide))
    refine r_vret dX5_goTo_74 rfl ?_
    have nw : ¬ ((h 30 5 ≤ x ∧ x ≤ h 30 7) ∧ (h 30 6 ≤ y ∧ y ≤ h 30 8)) := by omega
    exact ⟨rfl, k _ (fun _ _ _ _ _ _ _ _ => rfl) (if_neg nw).symm⟩
set_option maxRecDepth 20000 in
set_option maxHeartbeats 400000 in
theorem sp_X5_narrow {d : Nat} (hd : 2 ≤ d) {h : Hp} {s : Nat} (hs : s < 60) (hn : ∀ q : Nat, q < 4 → 0 ≤ h 8 (5 * s + q) ∧ h 8 (5 * s + q) ≤ 999) (hW : (0 ≤ (h 1 0) ∧ (h 1 0) ≤ 999) ∧ (0 ≤ (h 1 1) ∧ (h 1 1) ≤ 999)) {P : Hp → Prop} (k : ∀ h' : Hp, (∀ a k, ¬ (a = 30 ∧ 5 ≤ k ∧ k ≤ 8) → h' a k = h a k) → (wnC h' = (max (h 8 (5 * s + 0)) 0, max (h 8 (5 * s + 1)) 1, min (h 8 (5 * s + 2)) (h 1 0), min (h 8 (5 * s + 3)) (h 1 1))) → P h') : Cl d mX5_narrow [.inr (.inr 30), .inl (s : Int)] h (pV P) := by
  refine Cl.of (L := [some (.inr (.inr 30)), some (.inl (s : Int))]) (by decide +kernel) (Nat.le_of_ble_eq_true rfl) rfl ?_
  obtain ⟨d, rfl⟩ : ∃ q, d = q + 1 := ⟨d - 1, by omega⟩
  have n0 := hn 0 (by decide)
  have n1 := hn 1 (by decide)
  have n2 := hn 2 (by decide)
  have n3 := hn 3 (by decide)
  have ix : ∀ q : Nat, (5 * (s : Int) + (q : Int)).toNat = 5 * s + q := fun q => by omega
  have i0 : (5 * (s : Int) + 0).toNat = 5 * s + 0 := ix 0
  have i1 : (5 * (s : Int) + 1).toNat = 5 * s + 1 := ix 1
  have i2 : (5 * (s : Int) + 2).toNat = 5 * s + 2 := ix 2
  have i3 : (5 * (s : Int) + 3).toNat = 5 * s + 3 := ix 3
  refine r_aload_n dX5_narrow_0 rfl rfl ?_
  refine r_aload_n dX5_narrow_1 rfl rfl ?_
  refine r_getR dX5_narrow_2 fl_X5_43 sh_30 rfl ?_
  refine r_iload_n dX5_narrow_5 rfl rfl ?_
  refine r_iconst dX5_narrow_6 ?_
  refine r_callVI (av := [_, _]) (M' := mX7_get) dX5_narrow_7 vX7_get ml_X5_93 sh_4 (by decide) rfl rfl rfl rfl (by simp [wtA]) (sp_X7_get (by omega) (by omega) (by omega) ?_)
  rw [i0]
  refine r_iconst dX5_narrow_10 ?_
  refine r_mmax (by omega) ⟨by decide, by decide⟩ dX5_narrow_11 ml_X5_83 (by simp [wtA]) ?_
  refine r_putI dX5_narrow_14 fl_X5_16 sh_30 rfl ?_
  refine r_aload_n dX5_narrow_17 rfl rfl ?_
  refine r_aload_n dX5_narrow_18 rfl rfl ?_
  refine r_getR dX5_narrow_19 fl_X5_43 sh_30 rfl ?_
  refine r_iload_n dX5_narrow_22 rfl rfl ?_
  refine r_iconst dX5_narrow_23 ?_
  refine r_callVI (av := [_, _]) (M' := mX7_get) dX5_narrow_24 vX7_get ml_X5_93 sh_4 (by decide) rfl rfl rfl rfl (by simp [wtA]) (sp_X7_get (by omega) (by omega) (by omega) ?_)
  rw [i1]
  refine r_eqI (y := h 8 (5 * s + 1)) (up_nc (by decide)) ?_
  refine r_iconst dX5_narrow_27 ?_
  refine r_mmax (by omega) ⟨by decide, by decide⟩ dX5_narrow_28 ml_X5_83 (by simp [wtA]) ?_
  refine r_putI dX5_narrow_31 fl_X5_19 sh_30 rfl ?_
  refine r_aload_n dX5_narrow_34 rfl rfl ?_
  refine r_aload_n dX5_narrow_35 rfl rfl ?_
  refine r_getR dX5_narrow_36 fl_X5_43 sh_30 rfl ?_
  refine r_iload_n dX5_narrow_39 rfl rfl ?_
  refine r_iconst dX5_narrow_40 ?_
  refine r_callVI (av := [_, _]) (M' := mX7_get) dX5_narrow_41 vX7_get ml_X5_93 sh_4 (by decide) rfl rfl rfl rfl (by simp [wtA]) (sp_X7_get (by omega) (by omega) (by omega) ?_)
  rw [i2]
  refine r_eqI (y := h 8 (5 * s + 2)) ((up_nc (by decide)).trans (up_nc (by decide))) ?_
  refine r_aload_n dX5_narrow_44 rfl rfl ?_
  refine r_getR dX5_narrow_45 fl_X5_39 sh_30 rfl ?_
  refine r_getI dX5_narrow_48 fl_X5_56 sh_1 rfl ?_
  refine r_eqI (((up_nc (by decide)).trans (up_nc (by decide)))) ?_
  refine r_mmin (by omega) (by omega) dX5_narrow_51 ml_X5_109 (by simp [wtA]) ?_
  refine r_putI dX5_narrow_54 fl_X5_22 sh_30 rfl ?_
  refine r_aload_n dX5_narrow_57 rfl rfl ?_
  refine r_aload_n dX5_narrow_58 rfl rfl ?_
  refine r_getR dX5_narrow_59 fl_X5_43 sh_30 rfl ?_
  refine r_iload_n dX5_narrow_62 rfl rfl ?_
  refine r_iconst dX5_narrow_63 ?_
  refine r_callVI (av := [_, _]) (M' := mX7_get) dX5_narrow_64 vX7_get ml_X5_93 sh_4 (by decide) rfl rfl rfl rfl (by simp [wtA]) (sp_X7_get (by omega) (by omega) (by omega) ?_)
  rw [i3]
  refine r_eqI (y := h 8 (5 * s + 3)) ((up_nc (by decide)).trans ((up_nc (by decide)).trans (up_nc (by decide)))) ?_
  refine r_aload_n dX5_narrow_67 rfl rfl ?_
  refine r_getR dX5_narrow_68 fl_X5_39 sh_30 rfl ?_
  refine r_getI dX5_narrow_71 fl_X5_61 sh_1 rfl ?_
  refine r_eqI (((up_nc (by decide)).trans (((up_nc (by decide)).trans (up_nc (by decide)))))) ?_
  refine r_mmin (by omega) (by omega) dX5_narrow_74 ml_X5_109 (by simp [wtA]) ?_
  refine r_putI dX5_narrow_77 fl_X5_25 sh_30 rfl ?_
  refine r_vret dX5_narrow_80 rfl ?_
  refine ⟨rfl, k _ (fun a k z => ?_) ?_⟩
  · unfold upH
    rw [if_neg (by omega), if_neg (by omega), if_neg (by omega), if_neg (by omega)]
  · rfl
