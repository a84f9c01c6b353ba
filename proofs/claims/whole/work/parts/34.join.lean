/-! JOINT, THE CLASS -/
def nth : List Int → Nat → Int
  | [], _ => 0
  | a :: t, k => if k = t.length then a else nth t k
theorem RV.nth {f : Nat → Int} : ∀ {r : List Int}, RV f r → ∀ k : Nat, k < r.length → f k = nth r k
  | [], _, k, hk => absurd hk (Nat.not_lt_zero k)
  | a :: t, h, k, hk => by
    rw [List.length_cons] at hk
    rw [Jvm.Pilot.CCordPensLaw_law_r6915_ee5714.nth]
    split
    · rename_i e
      rw [e]
      exact h.1
    · exact RV.nth h.2 k (by omega)
theorem nth_r {H : Int} (h0 : 0 ≤ H) : ∀ {r : List Int}, LB H r → ∀ k : Nat, 0 ≤ nth r k ∧ nth r k ≤ H
  | [], _, _ => ⟨Int.le_refl _, h0⟩
  | a :: t, h, k => by
    rw [nth]
    split
    · exact h a (List.mem_cons_self ..)
    · exact nth_r h0 (fun z hz => h z (List.mem_cons_of_mem _ hz)) k
def gap (r s : List Int) (k : Nat) : Int := ((nth r k - nth s k).natAbs : Int)
theorem gap_r {r s : List Int} (hr : LB 400 r) (hs : LB 400 s) (k : Nat) : 0 ≤ gap r s k ∧ gap r s k ≤ 400 := by
  have a := nth_r (by decide) hr k
  have b := nth_r (by decide) hs k
  unfold gap
  omega
def gapM (r s : List Int) : Nat → Int
  | 0 => 0
  | k + 1 => max (gapM r s k) (gap r s k)
theorem gapM_r {r s : List Int} (hr : LB 400 r) (hs : LB 400 s) : ∀ k : Nat, 0 ≤ gapM r s k ∧ gapM r s k ≤ 400
  | 0 => ⟨Int.le_refl _, show (0 : Int) ≤ 400 by decide⟩
  | k + 1 => by
    have a := gapM_r hr hs k
    have b := gap_r hr hs k
    rw [gapM]
    omega
def mnL (r s : List Int) : Nat := if r.length < s.length then r.length else s.length
def fnJ (r s : List Int) (w : Int) : Int := if w = 0 then mnL r s else if w = 1 then sumN (gap r s) (mnL r s) else if w = 2 then gapM r s (mnL r s) else (((r.length : Int) - s.length).natAbs : Int)
set_option maxRecDepth 20000 in
set_option maxHeartbeats 400000 in
theorem lp_join {d : Nat} {P : Hp → Prop} {h : Hp} {v x m n : Int} {r s : List Int} (hr : LB 400 r) (hs : LB 400 s) (hl : r.length ≤ 300 ∧ s.length ≤ 300) (p0 : h 41 0 = mnL r s) (r1 : RV (h 43) r) (r2 : RV (h 44) s) (k : ∀ g : Hp, (∀ a k, ¬ (a = 41 ∧ (k = 1 ∨ k = 2)) → g a k = h a k) → g 41 1 = sumN (gap r s) (mnL r s) → g 41 2 = gapM r s (mnL r s) → P g) : ∀ (nn : Nat) (i : Nat) (g : Hp) (o : Option AV), (i ≤ mnL r s) → (∀ a k, ¬ (a = 41 ∧ (k = 1 ∨ k = 2)) → g a k = h a k) → (g 41 1 = sumN (gap r s) i) → (g 41 2 = gapM r s i) → mnL r s - i < nn → WW mX1_join (d + 1) (pV P) 66 [some (.inr (.inr 41)), some (.inl v), some (.inl x), some (.inl m), some (.inl n), some (.inl (i : Int)), o] [] g := by
  intro nn
  induction nn with
  | zero => intro i g o hi hg h1 h2; intros; omega
  | succ nn ih =>
    intro i g o hi hg h1 h2 hmu
    have w0 : g 41 0 = h 41 0 := hg 41 0 (by decide)
    have hm : mnL r s ≤ r.length ∧ mnL r s ≤ s.length := by unfold mnL; split <;> omega
    have w43 : ∀ q, g 43 q = h 43 q := fun q => hg 43 q (by omega)
    have w44 : ∀ q, g 44 q = h 44 q := fun q => hg 44 q (by omega)
    have e1 : ((i : Int)).toNat = i := Int.toNat_natCast i
    have b1 := sumN_r (f := gap r s) (B := 400) i (fun j _ => gap_r hr hs j)
    have b2 := gapM_r hr hs i
    have b3 := nth_r (by decide) hr i
    have b4 := nth_r (by decide) hs i
    have b5 := gap_r hr hs i
    refine r_iload dX1_join_66 rfl ?_
    refine r_aload_n dX1_join_68 rfl rfl ?_
    refine r_getI dX1_join_69 fl_X1_9 sh_41 rfl ?_
    refine r_icmp_ge (tgt := 125) dX1_join_72 rfl (by omega) (by omega) (fun c_72 => ?_) (fun c_72 => ?_)
    · refine r_vret dX1_join_125 rfl ?_
      have e0 : i = mnL r s := by omega
      subst e0
      exact ⟨rfl, k g hg h1 h2⟩
    · have q1 : g 43 (i : Int).toNat = nth r i := by rw [e1, w43]; exact r1.nth i (by omega)
      have q2 : g 44 (i : Int).toNat = nth s i := by rw [e1, w44]; exact r2.nth i (by omega)
      refine r_aload_n dX1_join_75 rfl rfl ?_
      refine r_getR dX1_join_76 fl_X1_28 sh_41 rfl ?_
      refine r_iload dX1_join_79 rfl ?_
      refine r_iald dX1_join_81 sh_43 (by decide) (by omega) ?_
      refine r_aload_n dX1_join_82 rfl rfl ?_
      refine r_getR dX1_join_83 fl_X1_31 sh_41 rfl ?_
      refine r_iload dX1_join_86 rfl ?_
      refine r_iald dX1_join_88 sh_44 (by decide) (by omega) ?_
      refine r_isub dX1_join_89 ?_
      refine r_mabs (by omega) dX1_join_90 ml_X1_87 (by simp [wtA]) ?_
      refine r_eqI (y := gap r s i) (by unfold gap; rw [← q1, ← q2]) ?_
      refine r_istore (L' := [_, _, _, _, _, _, _]) dX1_join_93 rfl (by decide) rfl ?_
      refine r_aload_n dX1_join_95 rfl rfl ?_
      refine r_dup dX1_join_96 (fun _ h => by cases h) ?_
      refine r_getI dX1_join_97 fl_X1_15 sh_41 rfl ?_
      refine r_iload dX1_join_100 rfl ?_
      refine r_iadd dX1_join_102 ?_
      refine r_putI dX1_join_103 fl_X1_15 sh_41 rfl ?_
      refine r_aload_n dX1_join_106 rfl rfl ?_
      refine r_aload_n dX1_join_107 rfl rfl ?_
      refine r_getI dX1_join_108 fl_X1_18 sh_41 rfl ?_
      refine r_eqI (up_nk (by decide)) ?_
      refine r_iload dX1_join_111 rfl ?_
      refine r_mmax (by omega) (by omega) dX1_join_113 ml_X1_76 (by simp [wtA]) ?_
      refine r_putI dX1_join_116 fl_X1_18 sh_41 rfl ?_
      refine r_iinc (L' := [_, _, _, _, _, _, _]) dX1_join_119 rfl rfl (by decide) rfl ?_
      refine r_goto (tgt := 66) dX1_join_122 rfl ?_
      refine ih (i + 1) _ _ (by omega) (fun a q z => ?_) ?_ ?_ (by omega)
      · unfold upH
        rw [if_neg (by omega), if_neg (by omega)]
        exact hg a q z
      · show g 41 1 + gap r s i = sumN (gap r s) i + gap r s i
        omega
      · show max (g 41 2) (gap r s i) = max (gapM r s i) (gap r s i)
        rw [h2]
set_option maxRecDepth 20000 in
set_option maxHeartbeats 400000 in
theorem sp_X1_join {d : Nat} (hd : 3 ≤ d) {v x : Int} {h : Hp}  (hv : R32 v) (hx : R32 x) (hn : 0 ≤ (h 16 0) ∧ (h 16 0) ≤ 150) (hn2 : 0 ≤ (h 23 0) ∧ (h 23 0) ≤ 150) (hxy : ∀ p : Nat, (p : Int) ≤ (h 16 0) → (0 ≤ h 17 p ∧ h 17 p ≤ 400 ∧ 0 ≤ h 18 p ∧ h 18 p ≤ 400) ∧ (h 19 p = 0 ∨ h 19 p = 1)) (hxy2 : ∀ p : Nat, (p : Int) ≤ (h 23 0) → (0 ≤ h 24 p ∧ h 24 p ≤ 400 ∧ 0 ≤ h 25 p ∧ h 25 p ≤ 400) ∧ (h 26 p = 0 ∨ h 26 p = 1)) {P : Hp → Prop} (k : ∀ h' : Hp, (∀ a k, ¬ (a = 41 ∧ k ≤ 3) → a ≠ 43 → a ≠ 44 → h' a k = h a k) → (h' 41 0 = mnL (gatL (h 17) (h 18) (h 19) x (h 16 0).toNat) (gatL (h 24) (h 25) (h 26) (x - v) (h 23 0).toNat)) → (h' 41 1 = sumN (gap (gatL (h 17) (h 18) (h 19) x (h 16 0).toNat) (gatL (h 24) (h 25) (h 26) (x - v) (h 23 0).toNat)) (mnL (gatL (h 17) (h 18) (h 19) x (h 16 0).toNat) (gatL (h 24) (h 25) (h 26) (x - v) (h 23 0).toNat))) → (h' 41 2 = gapM (gatL (h 17) (h 18) (h 19) x (h 16 0).toNat) (gatL (h 24) (h 25) (h 26) (x - v) (h 23 0).toNat) (mnL (gatL (h 17) (h 18) (h 19) x (h 16 0).toNat) (gatL (h 24) (h 25) (h 26) (x - v) (h 23 0).toNat))) → (h' 41 3 = ((((gatL (h 17) (h 18) (h 19) x (h 16 0).toNat).length : Int) - (gatL (h 24) (h 25) (h 26) (x - v) (h 23 0).toNat).length).natAbs : Int)) → P h') : Cl d mX1_join [.inr (.inr 41), .inl v, .inl x] h (pV P) := by
  refine Cl.of (L := [some (.inr (.inr 41)), some (.inl v), some (.inl x), none, none, none, none]) (by decide +kernel) (Nat.le_of_ble_eq_true rfl) rfl ?_
  obtain ⟨d, rfl⟩ : ∃ q, d = q + 1 := ⟨d - 1, by omega⟩
  refine r_aload_n dX1_join_0 rfl rfl ?_
  refine r_getR dX1_join_1 fl_X1_38 sh_41 rfl ?_
  refine r_iload_n dX1_join_4 rfl rfl ?_
  refine r_i2l dX1_join_5 (by omega) ?_
  refine r_aload_n dX1_join_6 rfl rfl ?_
  refine r_getR dX1_join_7 fl_X1_28 sh_41 rfl ?_
  refine r_callSI (av := [_, _, _]) (M' := mX1_gather) dX1_join_10 sX1_gather ml_X1_83 rfl rfl (by simp [wtA]) (sp_X1_gather_16_43 (by omega) (by omega) (by omega) hxy (fun v_10 h_10 f0_10 f1_10 f2_10 => ?_))
  refine r_istore_n (L' := [_, _, _, _, _, _, _]) dX1_join_13 rfl rfl (by decide) rfl ?_
  refine r_aload_n dX1_join_14 rfl rfl ?_
  refine r_getR dX1_join_15 fl_X1_42 sh_41 rfl ?_
  refine r_iload_n dX1_join_18 rfl rfl ?_
  refine r_i2l dX1_join_19 (by omega) ?_
  refine r_iload_n dX1_join_20 rfl rfl ?_
  refine r_i2l dX1_join_21 (by omega) ?_
  refine r_lsub dX1_join_22 ?_
  refine r_aload_n dX1_join_23 rfl rfl ?_
  refine r_getR dX1_join_24 fl_X1_31 sh_41 rfl ?_
  refine r_callSI (av := [_, _, _]) (M' := mX1_gather) dX1_join_27 sX1_gather ml_X1_83 rfl rfl (by simp [wtA]) (sp_X1_gather_23_44 (by omega) (by omega) (by rw [f0_10 23 0 (by decide)]; exact hn2) (fun p hp => by rw [f0_10 23 0 (by decide)] at hp; rw [f0_10 24 p (by decide), f0_10 25 p (by decide), f0_10 26 p (by decide)]; exact hxy2 p hp) (fun v_27 h_27 f0_27 f1_27 f2_27 => ?_))
  rw [f0_10 23 0 (by decide), show h_10 24 = h 24 from funext fun j => f0_10 24 j (by decide), show h_10 25 = h 25 from funext fun j => f0_10 25 j (by decide), show h_10 26 = h 26 from funext fun j => f0_10 26 j (by decide)] at f1_27 f2_27
  have len1 := gatL_len (h 17) (h 18) (h 19) x (h 16 0).toNat
  have len2 := gatL_len (h 24) (h 25) (h 26) (x - v) (h 23 0).toNat
  have lb1 : LB 400 (gatL (h 17) (h 18) (h 19) x (h 16 0).toNat) := gatL_LB (fun k hk => ⟨(hxy k (by omega)).1.2.2.1, (hxy k (by omega)).1.2.2.2⟩)
  have lb2 : LB 400 (gatL (h 24) (h 25) (h 26) (x - v) (h 23 0).toNat) := gatL_LB (fun k hk => ⟨(hxy2 k (by omega)).1.2.2.1, (hxy2 k (by omega)).1.2.2.2⟩)
  have r1 : RV (h_27 43) (gatL (h 17) (h 18) (h 19) x (h 16 0).toNat) := by rw [show h_27 43 = h_10 43 from funext fun j => f0_27 43 j (by decide)]; exact f1_10
  have fr : ∀ a k, a ≠ 43 → a ≠ 44 → h_27 a k = h a k := fun a k z1 z2 => (f0_27 a k z2).trans (f0_10 a k z1)
  refine r_istore (L' := [_, _, _, _, _, _, _]) dX1_join_30 rfl (by decide) rfl ?_
  refine r_aload_n dX1_join_32 rfl rfl ?_
  refine r_iload_n dX1_join_33 rfl rfl ?_
  refine r_iload dX1_join_34 rfl ?_
  refine r_mmin (by omega) (by omega) dX1_join_36 ml_X1_70 (by simp [wtA]) ?_
  refine r_putI dX1_join_39 fl_X1_9 sh_41 rfl ?_
  refine r_aload_n dX1_join_42 rfl rfl ?_
  refine r_iload_n dX1_join_43 rfl rfl ?_
  refine r_iload dX1_join_44 rfl ?_
  refine r_isub dX1_join_46 ?_
  refine r_mabs (by omega) dX1_join_47 ml_X1_87 (by simp [wtA]) ?_
  refine r_putI dX1_join_50 fl_X1_21 sh_41 rfl ?_
  refine r_aload_n dX1_join_53 rfl rfl ?_
  refine r_iconst dX1_join_54 ?_
  refine r_putI dX1_join_55 fl_X1_15 sh_41 rfl ?_
  refine r_aload_n dX1_join_58 rfl rfl ?_
  refine r_iconst dX1_join_59 ?_
  refine r_putI dX1_join_60 fl_X1_18 sh_41 rfl ?_
  refine r_iconst dX1_join_63 ?_
  refine r_istore (L' := [_, _, _, _, _, _, _]) dX1_join_64 rfl (by decide) rfl ?_
  generalize (gatL (h 17) (h 18) (h 19) x (h 16 0).toNat) = A1 at *
  generalize (gatL (h 24) (h 25) (h 26) (x - v) (h 23 0).toNat) = A2 at *
  have em : min v_10 v_27 = mnL A1 A2 := by unfold mnL; split <;> omega
  have ea : ((v_10 - v_27).natAbs : Int) = (((A1.length : Int) - A2.length).natAbs : Int) := by rw [f2_10, f2_27]
  refine lp_join (h := upH (upH (upH (upH h_27 41 0 (min v_10 v_27)) 41 3 ((v_10 - v_27).natAbs : Int)) 41 1 0) 41 2 0) lb1 lb2 (by omega) em r1 f1_27 (fun g z1 z2 z3 => ?_) 301 0 _ _ (by omega) (fun _ _ _ => rfl) rfl rfl (by unfold mnL; split <;> omega)
  refine k g (fun a q y1 y2 y3 => ?_) ((z1 41 0 (by decide)).trans em) z2 z3 ((z1 41 3 (by decide)).trans ea)
  refine (z1 a q (by omega)).trans ?_
  unfold upH
  rw [if_neg (by omega), if_neg (by omega), if_neg (by omega), if_neg (by omega)]
  exact fr a q y2 y3
set_option maxRecDepth 20000 in
set_option maxHeartbeats 400000 in
theorem sp_X11_joint {d : Nat} (hd : 5 ≤ d) {v x w : Int} {h : Hp}  (hw : WOK h) (hv : R32 v) (hx : R32 x) (hw2 : R32 w) (hn : 0 ≤ (h 16 0) ∧ (h 16 0) ≤ 150) (hn2 : 0 ≤ (h 23 0) ∧ (h 23 0) ≤ 150) (hxy : ∀ p : Nat, (p : Int) ≤ (h 16 0) → (0 ≤ h 17 p ∧ h 17 p ≤ 400 ∧ 0 ≤ h 18 p ∧ h 18 p ≤ 400) ∧ (h 19 p = 0 ∨ h 19 p = 1)) (hxy2 : ∀ p : Nat, (p : Int) ≤ (h 23 0) → (0 ≤ h 24 p ∧ h 24 p ≤ 400 ∧ 0 ≤ h 25 p ∧ h 25 p ≤ 400) ∧ (h 26 p = 0 ∨ h 26 p = 1)) {P : Int → Hp → Prop} (k : ∀ h' : Hp, (FrC h h') → P (if (1 ≤ v ∧ v ≤ (h 1 0)) ∧ (0 ≤ w ∧ w ≤ 3) then fnJ (gatL (h 17) (h 18) (h 19) x (h 16 0).toNat) (gatL (h 24) (h 25) (h 26) (x - v) (h 23 0).toNat) w else -1) h') : Cl d mX11_joint [.inr (.inr 0), .inl v, .inl x, .inl w] h (pI P) := by
  refine Cl.of (L := [some (.inr (.inr 0)), some (.inl v), some (.inl x), some (.inl w)]) (by decide +kernel) (Nat.le_of_ble_eq_true rfl) rfl ?_
  obtain ⟨d, rfl⟩ : ∃ q, d = q + 1 := ⟨d - 1, by omega⟩
  refine r_iload_n dX11_joint_0 rfl rfl ?_
  refine r_iconst dX11_joint_1 ?_
  refine r_aload_n dX11_joint_2 rfl rfl ?_
  refine r_getR dX11_joint_3 fl_X11_10 sh_0 rfl ?_
  refine r_getI dX11_joint_6 fl_X11_120 sh_1 rfl ?_
  refine r_callSI (av := [_, _, _]) (M' := mX11_isWithin) dX11_joint_9 sX11_isWithin ml_X11_116 rfl rfl (by simp [wtA]) (sp_X11_isWithin (by omega) (by omega) (by omega) (by omega) (fun b_9 => ?_) (fun b_9 => ?_))
  · refine r_if_eq (tgt := 24) dX11_joint_12 rfl ⟨by decide, by decide⟩ (fun c_12 => absurd c_12 (by decide)) (fun c_12 => ?_)
    refine r_iload_n dX11_joint_15 rfl rfl ?_
    refine r_iconst dX11_joint_16 ?_
    refine r_iconst dX11_joint_17 ?_
    refine r_callSI (av := [_, _, _]) (M' := mX11_isWithin) dX11_joint_18 sX11_isWithin ml_X11_116 rfl rfl (by simp [wtA]) (sp_X11_isWithin (by omega) (by omega) (by omega) (by omega) (fun b_18 => ?_) (fun b_18 => ?_))
    · refine r_if_ne (tgt := 26) dX11_joint_21 rfl ⟨by decide, by decide⟩ (fun c_21 => ?_) (fun c_21 => absurd c_21 (by decide))
      refine r_aload_n dX11_joint_26 rfl rfl ?_
      refine r_getR dX11_joint_27 fl_X11_81 sh_0 rfl ?_
      refine r_iload_n dX11_joint_30 rfl rfl ?_
      refine r_iload_n dX11_joint_31 rfl rfl ?_
      refine r_callVU (av := [_, _]) (M' := mX1_join) dX11_joint_32 vX1_join ml_X11_289 sh_41 (by decide) rfl rfl rfl rfl (by simp [wtA]) (sp_X1_join (by omega) (by omega) (by omega) (by omega) (by omega) hxy hxy2 (fun h_32 f0_32 f1_32 f2_32 f3_32 f4_32 => ?_))
      have fr : FrC h h_32 := ⟨fun a q z => f0_32 a q (by rintro ⟨rfl, z2⟩; cases z) (by rintro rfl; cases z) (by rintro rfl; cases z), by rw [f0_32 1 7 (by omega) (by decide) (by decide)]; omega⟩
      have k := k _ fr
      rw [if_pos (by omega)] at k
      unfold fnJ at k
      rw [← f1_32, ← f2_32, ← f3_32, ← f4_32] at k
      refine r_iload_n dX11_joint_35 rfl rfl ?_
      by_cases c_36_0 : w = 0
      · refine r_tsIn (off := 28) (tgt := 64) dX11_joint_36 c_36_0 ⟨by decide, by decide⟩ (by decide) (by decide) (by decide +kernel) rfl ?_
        refine r_aload_n dX11_joint_64 rfl rfl ?_
        refine r_getR dX11_joint_65 fl_X11_81 sh_0 rfl ?_
        refine r_getI dX11_joint_68 fl_X11_293 sh_41 rfl ?_
        refine r_iret dX11_joint_71 rfl ?_
        refine ⟨_, rfl, eqP k ?_⟩
        first
          | exact if_pos (by omega)
          | (rw [if_neg (by omega)]; exact if_pos (by omega))
          | (rw [if_neg (by omega), if_neg (by omega)]; exact if_pos (by omega))
          | (rw [if_neg (by omega), if_neg (by omega)]; exact if_neg (by omega))
      by_cases c_36_1 : w = 1
      · refine r_tsIn (off := 36) (tgt := 72) dX11_joint_36 c_36_1 ⟨by decide, by decide⟩ (by decide) (by decide) (by decide +kernel) rfl ?_
        refine r_aload_n dX11_joint_72 rfl rfl ?_
        refine r_getR dX11_joint_73 fl_X11_81 sh_0 rfl ?_
        refine r_getI dX11_joint_76 fl_X11_296 sh_41 rfl ?_
        refine r_iret dX11_joint_79 rfl ?_
        refine ⟨_, rfl, eqP k ?_⟩
        first
          | exact if_pos (by omega)
          | (rw [if_neg (by omega)]; exact if_pos (by omega))
          | (rw [if_neg (by omega), if_neg (by omega)]; exact if_pos (by omega))
          | (rw [if_neg (by omega), if_neg (by omega)]; exact if_neg (by omega))
      by_cases c_36_2 : w = 2
      · refine r_tsIn (off := 44) (tgt := 80) dX11_joint_36 c_36_2 ⟨by decide, by decide⟩ (by decide) (by decide) (by decide +kernel) rfl ?_
        refine r_aload_n dX11_joint_80 rfl rfl ?_
        refine r_getR dX11_joint_81 fl_X11_81 sh_0 rfl ?_
        refine r_getI dX11_joint_84 fl_X11_299 sh_41 rfl ?_
        refine r_iret dX11_joint_87 rfl ?_
        refine ⟨_, rfl, eqP k ?_⟩
        first
          | exact if_pos (by omega)
          | (rw [if_neg (by omega)]; exact if_pos (by omega))
          | (rw [if_neg (by omega), if_neg (by omega)]; exact if_pos (by omega))
          | (rw [if_neg (by omega), if_neg (by omega)]; exact if_neg (by omega))
      refine r_tsOut (tgt := 88) dX11_joint_36 (by omega) (by omega) rfl ?_
      refine r_aload_n dX11_joint_88 rfl rfl ?_
      refine r_getR dX11_joint_89 fl_X11_81 sh_0 rfl ?_
      refine r_getI dX11_joint_92 fl_X11_302 sh_41 rfl ?_
      refine r_iret dX11_joint_95 rfl ?_
      refine ⟨_, rfl, eqP k ?_⟩
      first
        | exact if_pos (by omega)
        | (rw [if_neg (by omega)]; exact if_pos (by omega))
        | (rw [if_neg (by omega), if_neg (by omega)]; exact if_pos (by omega))
        | (rw [if_neg (by omega), if_neg (by omega)]; exact if_neg (by omega))
    · refine r_if_ne (tgt := 26) dX11_joint_21 rfl ⟨by decide, by decide⟩ (fun c_21 => absurd c_21 (by decide)) (fun c_21 => ?_)
      refine r_iconst dX11_joint_24 ?_
      refine r_iret dX11_joint_25 rfl ?_
      refine ⟨_, rfl, eqP (k h (FrC.rf hw)) ?_⟩
      rw [if_neg (by omega)]
  · refine r_if_eq (tgt := 24) dX11_joint_12 rfl ⟨by decide, by decide⟩ (fun c_12 => ?_) (fun c_12 => absurd c_12 (by decide))
    refine r_iconst dX11_joint_24 ?_
    refine r_iret dX11_joint_25 rfl ?_
    refine ⟨_, rfl, eqP (k h (FrC.rf hw)) ?_⟩
    rw [if_neg (by omega)]
