/-! GOING HOME, AND BEGINS, ahead of the other cells -/
abbrev WWq (nS : Nat) (M : MI) (d : Nat) (post : Pst) (pc : Nat) (L : List (Option AV)) (st : List AV) (h : Hp) : Prop := WG (GQ nS d post) M pc L st h
set_option maxRecDepth 20000 in
set_option maxHeartbeats 400000 in
theorem lp_root_q {nS : Nat} (hn9 : 49 ≤ nS) {d : Nat} {P : Int → Hp → Prop} {h : Hp} {n g g0 s : Int} (hn : 0 < n ∧ n ≤ 2305843009213693952) (hs : IsRt n s) (hs0 : 0 < s) (k : P s h) : ∀ (nn : Nat) (r : Int) (i : Nat) (o : Option AV), (s ≤ r ∧ r ≤ 4611686018427387904) → (i ≤ 200) → ((r - s) * 2 ^ i ≤ 4611686018427387904) → 200 - i < nn → WWq nS mX11_root d (pJ P) 37 [some (.inr (.inl n)), none, some (.inr (.inl g)), none, some (.inr (.inl g0)), none, some (.inr (.inl r)), none, some (.inl (i : Int)), o, none] [] h := by
  intro nn
  induction nn with
  | zero => intro r i o hr hi he; intros; omega
  | succ nn ih =>
    intro r i o hr hi he hmu
    have hd0 := tdivNN (a := n) (b := r) (by omega) (by omega)
    have hd1 := tdivNN (a := r + n.tdiv r) (b := 2) (by omega) (by omega)
    refine gg_iload dX11_root_37 rfl ?_
    refine gg_sipush dX11_root_39 (by decide +kernel) ?_
    refine gg_icmp_ge (tgt := 86) dX11_root_42 rfl (by omega) ⟨by decide, by decide⟩ (fun c_42 => ?_) (fun c_42 => ?_)
    · refine gg_lload dX11_root_86 rfl ?_
      refine gg_lret dX11_root_88 rfl ?_
      have e0 : r = s := by
        have := halved he (by omega) (by decide) (by omega)
        omega
      subst e0
      exact ⟨_, rfl, k⟩
    · refine gg_lload dX11_root_45 rfl ?_
      refine gg_lconst (z := 0) dX11_root_47 (by decide +kernel) ?_
      refine gg_lcmp_le (tgt := 86) dX11_root_48 dX11_root_49 rfl (by omega) ⟨by decide, by decide⟩ (fun c_48 => ?_) (fun c_48 => ?_)
      · refine gg_lload dX11_root_86 rfl ?_
        refine gg_lret dX11_root_88 rfl ?_
        have e0 : r = s := by
          have := halved he (by omega) (by decide) (by omega)
          omega
        subst e0
        exact ⟨_, rfl, k⟩
      · refine gg_lload dX11_root_52 rfl ?_
        refine gg_lload_n dX11_root_54 rfl rfl ?_
        refine gg_lload dX11_root_55 rfl ?_
        refine gg_ldiv dX11_root_57 (by omega) (by omega) (by omega) ?_
        refine gg_ladd dX11_root_58 ?_
        refine gg_ldc2 (z := 2) dX11_root_59 kl_X11_356 (by decide +kernel) ?_
        refine gg_ldiv dX11_root_62 (by omega) ⟨by decide, by decide⟩ (by decide) ?_
        refine gg_nmJ (fun x9_63 e_x9_63 => ?_)
        refine gg_lstore (L' := [_, _, _, _, _, _, _, _, _, _, _]) dX11_root_63 rfl (by decide) rfl ?_
        refine gg_lload dX11_root_65 rfl ?_
        refine gg_lload dX11_root_67 rfl ?_
        refine gg_lcmp_lt (tgt := 76) dX11_root_69 dX11_root_70 rfl (by omega) (by omega) (fun c_69 => ?_) (fun c_69 => ?_)
        · refine gg_lload dX11_root_76 rfl ?_
          refine gg_lstore (L' := [_, _, _, _, _, _, _, _, _, _, _]) dX11_root_78 rfl (by decide) rfl ?_
          refine gg_iinc (L' := [_, _, _, _, _, _, _, _, _, _, _]) dX11_root_80 rfl rfl (by decide) rfl ?_
          refine gg_goto (tgt := 37) dX11_root_83 rfl ?_
          have q : s < r := by
            rcases ilg s r with q | q
            · exact q
            · have e0 : r = s := by omega
              have := newton0 hs hs0
              rw [← e0] at this
              omega
          have hN := newton hs q
          exact ih _ (i + 1) _ (by omega) (by omega) (halves he (by omega)) (by omega)
        · refine gg_lload dX11_root_73 rfl ?_
          refine gg_lret dX11_root_75 rfl ?_
          have e0 : r = s := by
            rcases ilg s r with q | q
            · have := (newton hs q).2.2
              omega
            · omega
          subst e0
          exact ⟨_, rfl, k⟩
set_option maxRecDepth 20000 in
set_option maxHeartbeats 400000 in
theorem sp_X11_root_q {nS : Nat} (hn9 : 49 ≤ nS) {d : Nat} (hd : 1 ≤ d) {n g : Int} {h : Hp}  (hn : n ≤ 2305843009213693952 ∧ -9223372036854775808 ≤ n) (hg : g ≤ 2305843009213693952 ∧ -9223372036854775808 ≤ g) {P : Int → Hp → Prop} (k : P (if n ≤ 0 then 0 else rt n) (h)) : Clq nS d mX11_root [.inr (.inl n), .inr (.inl g)] h (pJ P) := by
  refine Clq.of (L := [some (.inr (.inl n)), none, some (.inr (.inl g)), none, none, none, none, none, none, none, none]) (by decide +kernel) (Nat.le_of_ble_eq_true rfl) rfl ?_
  refine gg_lload_n dX11_root_0 rfl rfl ?_
  refine gg_lconst (z := 0) dX11_root_1 (by decide +kernel) ?_
  refine gg_lcmp_gt (tgt := 8) dX11_root_2 dX11_root_3 rfl (by omega) ⟨by decide, by decide⟩ (fun c_2 => ?_) (fun c_2 => ?_)
  · refine gg_lload_n dX11_root_8 rfl rfl ?_
    refine gg_lconst (z := 0) dX11_root_9 (by decide +kernel) ?_
    refine gg_lcmp_le (tgt := 18) dX11_root_10 dX11_root_11 rfl (by omega) ⟨by decide, by decide⟩ (fun c_10 => ?_) (fun c_10 => ?_)
    · refine gg_lconst (z := 1) dX11_root_18 (by decide +kernel) ?_
      refine gg_nmJ (fun x4_19 e_x4_19 => ?_)
      refine gg_lstore (L' := [_, _, _, _, _, _, _, _, _, _, _]) dX11_root_19 rfl (by decide) rfl ?_
      refine gg_lload dX11_root_21 rfl ?_
      refine gg_lload_n dX11_root_23 rfl rfl ?_
      refine gg_lload dX11_root_24 rfl ?_
      have hd0 := tdivNN (a := n) (b := x4_19) (by omega) (by omega)
      refine gg_ldiv dX11_root_26 (by omega) (by omega) (by omega) ?_
      refine gg_ladd dX11_root_27 ?_
      refine gg_ldc2 (z := 2) dX11_root_28 kl_X11_356 (by decide +kernel) ?_
      have hd1 := tdivNN (a := x4_19 + n.tdiv x4_19) (b := 2) (by omega) (by omega)
      refine gg_ldiv dX11_root_31 (by omega) ⟨by decide, by decide⟩ (by decide) ?_
      refine gg_nmJ (fun x6_32 e_x6_32 => ?_)
      refine gg_lstore (L' := [_, _, _, _, _, _, _, _, _, _, _]) dX11_root_32 rfl (by decide) rfl ?_
      refine gg_iconst dX11_root_34 ?_
      refine gg_istore (L' := [_, _, _, _, _, _, _, _, _, _, _]) dX11_root_35 rfl (by decide) rfl ?_
      have hs := rt_is (n := n) (by omega)
      have hs0 : 0 < rt n := by
        have := rt_ge (n := n) (b := 1) (by omega) (by omega) (by omega)
        omega
      have hq := newton1 (r := x4_19) hs (by omega)
      have hle := rt_le (n := n) (b := n) (by omega) (by omega) (by have := Int.mul_le_mul_of_nonneg_left (show 1 ≤ n by omega) (show 0 ≤ n by omega); omega)
      rw [if_neg (by omega)] at k
      exact lp_root_q hn9 (by omega) hs hs0 k 201 _ 0 _ (by omega) (by omega) (by omega) (by omega)
    · refine gg_lload_n dX11_root_14 rfl rfl ?_
      refine gg_goto (tgt := 19) dX11_root_15 rfl ?_
      refine gg_nmJ (fun x4_19 e_x4_19 => ?_)
      refine gg_lstore (L' := [_, _, _, _, _, _, _, _, _, _, _]) dX11_root_19 rfl (by decide) rfl ?_
      refine gg_lload dX11_root_21 rfl ?_
      refine gg_lload_n dX11_root_23 rfl rfl ?_
      refine gg_lload dX11_root_24 rfl ?_
      have hd0 := tdivNN (a := n) (b := x4_19) (by omega) (by omega)
      refine gg_ldiv dX11_root_26 (by omega) (by omega) (by omega) ?_
      refine gg_ladd dX11_root_27 ?_
      refine gg_ldc2 (z := 2) dX11_root_28 kl_X11_356 (by decide +kernel) ?_
      have hd1 := tdivNN (a := x4_19 + n.tdiv x4_19) (b := 2) (by omega) (by omega)
      refine gg_ldiv dX11_root_31 (by omega) ⟨by decide, by decide⟩ (by decide) ?_
      refine gg_nmJ (fun x6_32 e_x6_32 => ?_)
      refine gg_lstore (L' := [_, _, _, _, _, _, _, _, _, _, _]) dX11_root_32 rfl (by decide) rfl ?_
      refine gg_iconst dX11_root_34 ?_
      refine gg_istore (L' := [_, _, _, _, _, _, _, _, _, _, _]) dX11_root_35 rfl (by decide) rfl ?_
      have hs := rt_is (n := n) (by omega)
      have hs0 : 0 < rt n := by
        have := rt_ge (n := n) (b := 1) (by omega) (by omega) (by omega)
        omega
      have hq := newton1 (r := x4_19) hs (by omega)
      have hle := rt_le (n := n) (b := n) (by omega) (by omega) (by have := Int.mul_le_mul_of_nonneg_left (show 1 ≤ n by omega) (show 0 ≤ n by omega); omega)
      rw [if_neg (by omega)] at k
      exact lp_root_q hn9 (by omega) hs hs0 k 201 _ 0 _ (by omega) (by omega) (by omega) (by omega)
  · refine gg_lconst (z := 0) dX11_root_6 (by decide +kernel) ?_
    refine gg_lret dX11_root_7 rfl ?_
    rw [if_pos (by omega)] at k
    exact ⟨_, rfl, k⟩
set_option maxRecDepth 20000 in
set_option maxHeartbeats 400000 in
theorem sp_X10_leftSteps_q {nS : Nat} (hn9 : 49 ≤ nS) {d : Nat} (hd : 2 ≤ d) {x y : Int} {h : Hp}  (hw : WOK h) (hx : 0 ≤ x ∧ x ≤ 20000) (hy : 0 ≤ y ∧ y ≤ 20000) {P : Int → Hp → Prop} (k : P (stF (h 1 2) (h 1 3) x y) (h)) : Clq nS d mX10_leftSteps [.inr (.inr 1), .inr (.inl x), .inr (.inl y)] h (pI P) := by
  refine Clq.of (L := [some (.inr (.inr 1)), some (.inr (.inl x)), none, some (.inr (.inl y)), none, none, none, none, none]) (by decide +kernel) (Nat.le_of_ble_eq_true rfl) rfl ?_
  obtain ⟨d, rfl⟩ : ∃ q, d = q + 1 := ⟨d - 1, by omega⟩
  have g1 := stF_r (K := (h 1 2)) (E := (h 1 3)) (x := x) (y := y) (by omega) (by omega) hx hy
  have g2 := mulR (a := (h 1 2)) (b := x + y) (A := 20) (B := 40000) (by omega) (by omega)
  have g3 := rt0_nn ((h 1 2) * (h 1 2) * (x * x + y * y))
  have g4 := rt0_le (n := (h 1 2) * (h 1 2) * (x * x + y * y)) (b := 566000) (by omega) (by omega)
  refine gg_aload_n dX10_leftSteps_0 rfl rfl ?_
  refine gg_getI dX10_leftSteps_1 fl_X10_18 (shq (Nat.lt_of_lt_of_le (m := 49) (by decide) hn9) sh_1) rfl ?_
  refine gg_i2l dX10_leftSteps_4 (by omega) ?_
  refine gg_aload_n dX10_leftSteps_5 rfl rfl ?_
  refine gg_getI dX10_leftSteps_6 fl_X10_18 (shq (Nat.lt_of_lt_of_le (m := 49) (by decide) hn9) sh_1) rfl ?_
  refine gg_i2l dX10_leftSteps_9 (by omega) ?_
  refine gg_lmul dX10_leftSteps_10 ?_
  refine gg_lload_n dX10_leftSteps_11 rfl rfl ?_
  refine gg_lload_n dX10_leftSteps_12 rfl rfl ?_
  refine gg_lmul dX10_leftSteps_13 ?_
  refine gg_lload_n dX10_leftSteps_14 rfl rfl ?_
  refine gg_lload_n dX10_leftSteps_15 rfl rfl ?_
  refine gg_lmul dX10_leftSteps_16 ?_
  refine gg_ladd dX10_leftSteps_17 ?_
  refine gg_lmul dX10_leftSteps_18 ?_
  refine gg_lstore (L' := [_, _, _, _, _, _, _, _, _]) dX10_leftSteps_19 rfl (by decide) rfl ?_
  refine gg_lload dX10_leftSteps_21 rfl ?_
  refine gg_aload_n dX10_leftSteps_23 rfl rfl ?_
  refine gg_getI dX10_leftSteps_24 fl_X10_18 (shq (Nat.lt_of_lt_of_le (m := 49) (by decide) hn9) sh_1) rfl ?_
  refine gg_i2l dX10_leftSteps_27 (by omega) ?_
  refine gg_lload_n dX10_leftSteps_28 rfl rfl ?_
  refine gg_lload_n dX10_leftSteps_29 rfl rfl ?_
  refine gg_ladd dX10_leftSteps_30 ?_
  refine gg_lmul dX10_leftSteps_31 ?_
  refine gg_callNJ gq_rm gq_ck (av := [_, _]) (M' := mX11_root) dX10_leftSteps_32 sX11_root mn_X10_46 rfl rfl (by simp [wtA]) (sp_X11_root_q hn9 (by omega) (by omega) (by omega) (show WWq nS _ _ _ _ _ (.inr (.inl (rt0 _)) :: _) _ from ?_))
  refine gg_ldc2 (z := 100) dX10_leftSteps_35 kl_X10_50 (by decide +kernel) ?_
  refine gg_ldiv dX10_leftSteps_38 (by omega) ⟨by decide, by decide⟩ (by decide) ?_
  refine gg_nmJ (fun x7 e_x7 => ?_)
  refine gg_lstore (L' := [_, _, _, _, _, _, _, _, _]) dX10_leftSteps_39 rfl (by decide) rfl ?_
  have g5 := tdivNN (a := rt0 ((h 1 2) * (h 1 2) * (x * x + y * y))) (b := 100) (by omega) (by omega)
  refine gg_ldc2 (z := 10000) dX10_leftSteps_41 kl_X10_44 (by decide +kernel) ?_
  refine gg_lload dX10_leftSteps_44 rfl ?_
  refine gg_lconst (z := 1) dX10_leftSteps_46 (by decide +kernel) ?_
  refine gg_ladd dX10_leftSteps_47 ?_
  refine gg_lmul dX10_leftSteps_48 ?_
  refine gg_lconst (z := 1) dX10_leftSteps_49 (by decide +kernel) ?_
  refine gg_lsub dX10_leftSteps_50 ?_
  refine gg_sipush dX10_leftSteps_51 (by decide +kernel) ?_
  refine gg_aload_n dX10_leftSteps_54 rfl rfl ?_
  refine gg_getI dX10_leftSteps_55 fl_X10_21 (shq (Nat.lt_of_lt_of_le (m := 49) (by decide) hn9) sh_1) rfl ?_
  refine gg_iadd dX10_leftSteps_58 ?_
  refine gg_i2l dX10_leftSteps_59 (by omega) ?_
  refine gg_ldiv dX10_leftSteps_60 (by omega) (by omega) (by omega) ?_
  refine gg_l2i dX10_leftSteps_61 ?_
  refine gg_iret dX10_leftSteps_62 rfl ?_
  subst e_x7
  exact ⟨_, rfl, k⟩
set_option maxRecDepth 20000 in
set_option maxHeartbeats 400000 in
theorem sp_X10_rightSteps_q {nS : Nat} (hn9 : 49 ≤ nS) {d : Nat} (hd : 3 ≤ d) {x y : Int} {h : Hp}  (hw : WOK h) (hx : 0 ≤ x ∧ x ≤ 100 * (h 1 0)) (hy : 0 ≤ y ∧ y ≤ 20000) {P : Int → Hp → Prop} (k : P (stF (h 1 2) (h 1 3) (100 * (h 1 0) - x) y) (h)) : Clq nS d mX10_rightSteps [.inr (.inr 1), .inr (.inl x), .inr (.inl y)] h (pI P) := by
  refine Clq.of (L := [some (.inr (.inr 1)), some (.inr (.inl x)), none, some (.inr (.inl y)), none]) (by decide +kernel) (Nat.le_of_ble_eq_true rfl) rfl ?_
  obtain ⟨d, rfl⟩ : ∃ q, d = q + 1 := ⟨d - 1, by omega⟩
  refine gg_aload_n dX10_rightSteps_0 rfl rfl ?_
  refine gg_ldc2 (z := 100) dX10_rightSteps_1 kl_X10_50 (by decide +kernel) ?_
  refine gg_aload_n dX10_rightSteps_4 rfl rfl ?_
  refine gg_getI dX10_rightSteps_5 fl_X10_9 (shq (Nat.lt_of_lt_of_le (m := 49) (by decide) hn9) sh_1) rfl ?_
  refine gg_i2l dX10_rightSteps_8 (by omega) ?_
  refine gg_lmul dX10_rightSteps_9 ?_
  refine gg_lload_n dX10_rightSteps_10 rfl rfl ?_
  refine gg_lsub dX10_rightSteps_11 ?_
  refine gg_lload_n dX10_rightSteps_12 rfl rfl ?_
  refine gg_callVI gq_rm gq_ck (av := [_, _]) (M' := mX10_leftSteps) dX10_rightSteps_13 vX10_leftSteps ml_X10_52 (shq (Nat.lt_of_lt_of_le (m := 49) (by decide) hn9) sh_1) (by decide) rfl rfl rfl rfl (by simp [wtA]) (sp_X10_leftSteps_q hn9 (by omega) (by omega) (by omega) (by omega) ?_)
  refine gg_iret dX10_rightSteps_16 rfl ?_
  exact ⟨_, rfl, k⟩
set_option maxRecDepth 20000 in
set_option maxHeartbeats 400000 in
theorem sp_X2_measureOne_16_q {nS : Nat} (hn9 : 49 ≤ nS) {d : Nat} (hd : 4 ≤ d) {p : Int} {h : Hp}  (hw : WOK h) (hp : 0 ≤ p ∧ p ≤ 150) (hx : 0 ≤ h 17 p.toNat ∧ h 17 p.toNat ≤ (h 1 0)) (hy : 0 ≤ h 18 p.toNat ∧ h 18 p.toNat ≤ (h 1 1)) {P : Hp → Prop} (k : P (upH (upH h 20 p.toNat (stF (h 1 2) (h 1 3) (100 * h 17 p.toNat) (100 * h 18 p.toNat))) 21 p.toNat (stF (h 1 2) (h 1 3) (100 * (h 1 0) - 100 * h 17 p.toNat) (100 * h 18 p.toNat)))) : Clq nS d mX2_measureOne [.inr (.inr 16), .inl p] h (pV P) := by
  refine Clq.of (L := [some (.inr (.inr 16)), some (.inl p)]) (by decide +kernel) (Nat.le_of_ble_eq_true rfl) rfl ?_
  obtain ⟨d, rfl⟩ : ∃ q, d = q + 1 := ⟨d - 1, by omega⟩
  refine gg_aload_n dX2_measureOne_0 rfl rfl ?_
  refine gg_getR dX2_measureOne_1 fl_X2_26 (shq (Nat.lt_of_lt_of_le (m := 49) (by decide) hn9) sh_16) rfl ?_
  refine gg_iload_n dX2_measureOne_4 rfl rfl ?_
  refine gg_aload_n dX2_measureOne_5 rfl rfl ?_
  refine gg_getR dX2_measureOne_6 fl_X2_35 (shq (Nat.lt_of_lt_of_le (m := 49) (by decide) hn9) sh_16) rfl ?_
  refine gg_ldc2 (z := 100) dX2_measureOne_9 kl_X2_51 (by decide +kernel) ?_
  refine gg_aload_n dX2_measureOne_12 rfl rfl ?_
  refine gg_getR dX2_measureOne_13 fl_X2_15 (shq (Nat.lt_of_lt_of_le (m := 49) (by decide) hn9) sh_16) rfl ?_
  refine gg_iload_n dX2_measureOne_16 rfl rfl ?_
  refine gg_iald dX2_measureOne_17 (shq (Nat.lt_of_lt_of_le (m := 49) (by decide) hn9) sh_17) (by decide) (by omega) ?_
  refine gg_i2l dX2_measureOne_18 (by omega) ?_
  refine gg_lmul dX2_measureOne_19 ?_
  refine gg_ldc2 (z := 100) dX2_measureOne_20 kl_X2_51 (by decide +kernel) ?_
  refine gg_aload_n dX2_measureOne_23 rfl rfl ?_
  refine gg_getR dX2_measureOne_24 fl_X2_19 (shq (Nat.lt_of_lt_of_le (m := 49) (by decide) hn9) sh_16) rfl ?_
  refine gg_iload_n dX2_measureOne_27 rfl rfl ?_
  refine gg_iald dX2_measureOne_28 (shq (Nat.lt_of_lt_of_le (m := 49) (by decide) hn9) sh_18) (by decide) (by omega) ?_
  refine gg_i2l dX2_measureOne_29 (by omega) ?_
  refine gg_lmul dX2_measureOne_30 ?_
  refine gg_callVI gq_rm gq_ck (av := [_, _]) (M' := mX10_leftSteps) dX2_measureOne_31 vX10_leftSteps ml_X2_53 (shq (Nat.lt_of_lt_of_le (m := 49) (by decide) hn9) sh_1) (by decide) rfl rfl rfl rfl (by simp [wtA]) (sp_X10_leftSteps_q hn9 (by omega) (by omega) (by omega) (by omega) ?_)
  refine gg_iast dX2_measureOne_34 (shq (Nat.lt_of_lt_of_le (m := 49) (by decide) hn9) sh_20) (by decide) (by omega) ?_
  refine gg_gh (fun g eg => ?_)
  have w : WOK g := by rw [eg]; exact hw
  have e0 : g 1 0 = h 1 0 := by rw [eg]; rfl
  have ex : g 17 p.toNat = h 17 p.toNat := by rw [eg]; exact up_nc (by decide)
  have ey : g 18 p.toNat = h 18 p.toNat := by rw [eg]; exact up_nc (by decide)
  refine gg_aload_n dX2_measureOne_35 rfl rfl ?_
  refine gg_getR dX2_measureOne_36 fl_X2_29 (shq (Nat.lt_of_lt_of_le (m := 49) (by decide) hn9) sh_16) rfl ?_
  refine gg_iload_n dX2_measureOne_39 rfl rfl ?_
  refine gg_aload_n dX2_measureOne_40 rfl rfl ?_
  refine gg_getR dX2_measureOne_41 fl_X2_35 (shq (Nat.lt_of_lt_of_le (m := 49) (by decide) hn9) sh_16) rfl ?_
  refine gg_ldc2 (z := 100) dX2_measureOne_44 kl_X2_51 (by decide +kernel) ?_
  refine gg_aload_n dX2_measureOne_47 rfl rfl ?_
  refine gg_getR dX2_measureOne_48 fl_X2_15 (shq (Nat.lt_of_lt_of_le (m := 49) (by decide) hn9) sh_16) rfl ?_
  refine gg_iload_n dX2_measureOne_51 rfl rfl ?_
  refine gg_iald dX2_measureOne_52 (shq (Nat.lt_of_lt_of_le (m := 49) (by decide) hn9) sh_17) (by decide) (by omega) ?_
  refine gg_i2l dX2_measureOne_53 (by omega) ?_
  refine gg_lmul dX2_measureOne_54 ?_
  refine gg_ldc2 (z := 100) dX2_measureOne_55 kl_X2_51 (by decide +kernel) ?_
  refine gg_aload_n dX2_measureOne_58 rfl rfl ?_
  refine gg_getR dX2_measureOne_59 fl_X2_19 (shq (Nat.lt_of_lt_of_le (m := 49) (by decide) hn9) sh_16) rfl ?_
  refine gg_iload_n dX2_measureOne_62 rfl rfl ?_
  refine gg_iald dX2_measureOne_63 (shq (Nat.lt_of_lt_of_le (m := 49) (by decide) hn9) sh_18) (by decide) (by omega) ?_
  refine gg_i2l dX2_measureOne_64 (by omega) ?_
  refine gg_lmul dX2_measureOne_65 ?_
  refine gg_callVI gq_rm gq_ck (av := [_, _]) (M' := mX10_rightSteps) dX2_measureOne_66 vX10_rightSteps ml_X2_57 (shq (Nat.lt_of_lt_of_le (m := 49) (by decide) hn9) sh_1) (by decide) rfl rfl rfl rfl (by simp [wtA]) (sp_X10_rightSteps_q hn9 (by omega) (by omega) (by omega) (by omega) ?_)
  refine gg_iast dX2_measureOne_69 (shq (Nat.lt_of_lt_of_le (m := 49) (by decide) hn9) sh_21) (by decide) (by omega) ?_
  refine gg_vret dX2_measureOne_70 rfl ?_
  subst eg
  rw [ex, ey]
  exact ⟨rfl, k⟩
set_option maxRecDepth 20000 in
set_option maxHeartbeats 400000 in
theorem sp_X2_goHome_16_q {nS : Nat} (hn9 : 49 ≤ nS) {d : Nat} (hd : 5 ≤ d) {h : Hp}  (hw : WOK h) {P : Hp → Prop} (k : P (upH (upH (upH (upH (upH (upH h 16 0 0) 17 0 ((h 1 0).tdiv 2)) 18 0 (h 1 1)) 19 0 0) 20 0 (stF (h 1 2) (h 1 3) (100 * (h 1 0).tdiv 2) (100 * (h 1 1)))) 21 0 (stF (h 1 2) (h 1 3) (100 * (h 1 0) - 100 * (h 1 0).tdiv 2) (100 * (h 1 1))))) : Clq nS d mX2_goHome [.inr (.inr 16)] h (pV P) := by
  refine Clq.of (L := [some (.inr (.inr 16))]) (by decide +kernel) (Nat.le_of_ble_eq_true rfl) rfl ?_
  obtain ⟨d, rfl⟩ : ∃ q, d = q + 1 := ⟨d - 1, by omega⟩
  have t1 := tdivNN (a := (h 1 0)) (b := 2) (by omega) (by omega)
  refine gg_aload_n dX2_goHome_0 rfl rfl ?_
  refine gg_iconst dX2_goHome_1 ?_
  refine gg_putI dX2_goHome_2 fl_X2_9 (shq (Nat.lt_of_lt_of_le (m := 49) (by decide) hn9) sh_16) rfl ?_
  refine gg_aload_n dX2_goHome_5 rfl rfl ?_
  refine gg_getR dX2_goHome_6 fl_X2_15 (shq (Nat.lt_of_lt_of_le (m := 49) (by decide) hn9) sh_16) rfl ?_
  refine gg_iconst dX2_goHome_9 ?_
  refine gg_aload_n dX2_goHome_10 rfl rfl ?_
  refine gg_getR dX2_goHome_11 fl_X2_35 (shq (Nat.lt_of_lt_of_le (m := 49) (by decide) hn9) sh_16) rfl ?_
  refine gg_getI dX2_goHome_14 fl_X2_39 (shq (Nat.lt_of_lt_of_le (m := 49) (by decide) hn9) sh_1) rfl ?_
  refine gg_eqI (up_nc (by decide)) ?_
  refine gg_iconst dX2_goHome_17 ?_
  refine gg_idiv dX2_goHome_18 (by omega) ⟨by decide, by decide⟩ (by decide) ?_
  refine gg_iast dX2_goHome_19 (shq (Nat.lt_of_lt_of_le (m := 49) (by decide) hn9) sh_17) (by decide) ⟨by decide, by decide⟩ ?_
  refine gg_aload_n dX2_goHome_20 rfl rfl ?_
  refine gg_getR dX2_goHome_21 fl_X2_19 (shq (Nat.lt_of_lt_of_le (m := 49) (by decide) hn9) sh_16) rfl ?_
  refine gg_iconst dX2_goHome_24 ?_
  refine gg_aload_n dX2_goHome_25 rfl rfl ?_
  refine gg_getR dX2_goHome_26 fl_X2_35 (shq (Nat.lt_of_lt_of_le (m := 49) (by decide) hn9) sh_16) rfl ?_
  refine gg_getI dX2_goHome_29 fl_X2_44 (shq (Nat.lt_of_lt_of_le (m := 49) (by decide) hn9) sh_1) rfl ?_
  refine gg_eqI (((up_nc (by decide)).trans (up_nc (by decide)))) ?_
  refine gg_iast dX2_goHome_32 (shq (Nat.lt_of_lt_of_le (m := 49) (by decide) hn9) sh_18) (by decide) ⟨by decide, by decide⟩ ?_
  refine gg_aload_n dX2_goHome_33 rfl rfl ?_
  refine gg_getR dX2_goHome_34 fl_X2_22 (shq (Nat.lt_of_lt_of_le (m := 49) (by decide) hn9) sh_16) rfl ?_
  refine gg_iconst dX2_goHome_37 ?_
  refine gg_iconst dX2_goHome_38 ?_
  refine gg_zast dX2_goHome_39 (shq (Nat.lt_of_lt_of_le (m := 49) (by decide) hn9) sh_19) (by decide) ⟨by decide, by decide⟩ (.inl rfl) ?_
  refine gg_gh (fun g eg => ?_)
  have w : WOK g := by rw [eg]; exact hw
  have e0 : g 1 0 = h 1 0 := by rw [eg]; rfl
  have e1 : g 1 1 = h 1 1 := by rw [eg]; rfl
  have ex : g 17 0 = (h 1 0).tdiv 2 := by rw [eg]; rfl
  have ey : g 18 0 = (h 1 1) := by rw [eg]; rfl
  refine gg_aload_n dX2_goHome_40 rfl rfl ?_
  refine gg_iconst dX2_goHome_41 ?_
  refine gg_callVU gq_rm gq_ck (av := [_]) (M' := mX2_measureOne) dX2_goHome_42 vX2_measureOne ml_X2_47 (shq (Nat.lt_of_lt_of_le (m := 49) (by decide) hn9) sh_16) (by decide) rfl rfl rfl rfl (by simp [wtA]) (sp_X2_measureOne_16_q hn9 (by omega) (by omega) (by omega) (show 0 ≤ g 17 0 ∧ g 17 0 ≤ g 1 0 by omega) (show 0 ≤ g 18 0 ∧ g 18 0 ≤ g 1 1 by omega) ?_)
  refine gg_vret dX2_goHome_45 rfl ?_
  subst eg
  exact ⟨rfl, k⟩
set_option maxRecDepth 20000 in
set_option maxHeartbeats 400000 in
theorem sp_X2_measureOne_23_q {nS : Nat} (hn9 : 49 ≤ nS) {d : Nat} (hd : 4 ≤ d) {p : Int} {h : Hp}  (hw : WOK h) (hp : 0 ≤ p ∧ p ≤ 150) (hx : 0 ≤ h 24 p.toNat ∧ h 24 p.toNat ≤ (h 1 0)) (hy : 0 ≤ h 25 p.toNat ∧ h 25 p.toNat ≤ (h 1 1)) {P : Hp → Prop} (k : P (upH (upH h 27 p.toNat (stF (h 1 2) (h 1 3) (100 * h 24 p.toNat) (100 * h 25 p.toNat))) 28 p.toNat (stF (h 1 2) (h 1 3) (100 * (h 1 0) - 100 * h 24 p.toNat) (100 * h 25 p.toNat)))) : Clq nS d mX2_measureOne [.inr (.inr 23), .inl p] h (pV P) := by
  refine Clq.of (L := [some (.inr (.inr 23)), some (.inl p)]) (by decide +kernel) (Nat.le_of_ble_eq_true rfl) rfl ?_
  obtain ⟨d, rfl⟩ : ∃ q, d = q + 1 := ⟨d - 1, by omega⟩
  refine gg_aload_n dX2_measureOne_0 rfl rfl ?_
  refine gg_getR dX2_measureOne_1 fl_X2_26 (shq (Nat.lt_of_lt_of_le (m := 49) (by decide) hn9) sh_23) rfl ?_
  refine gg_iload_n dX2_measureOne_4 rfl rfl ?_
  refine gg_aload_n dX2_measureOne_5 rfl rfl ?_
  refine gg_getR dX2_measureOne_6 fl_X2_35 (shq (Nat.lt_of_lt_of_le (m := 49) (by decide) hn9) sh_23) rfl ?_
  refine gg_ldc2 (z := 100) dX2_measureOne_9 kl_X2_51 (by decide +kernel) ?_
  refine gg_aload_n dX2_measureOne_12 rfl rfl ?_
  refine gg_getR dX2_measureOne_13 fl_X2_15 (shq (Nat.lt_of_lt_of_le (m := 49) (by decide) hn9) sh_23) rfl ?_
  refine gg_iload_n dX2_measureOne_16 rfl rfl ?_
  refine gg_iald dX2_measureOne_17 (shq (Nat.lt_of_lt_of_le (m := 49) (by decide) hn9) sh_24) (by decide) (by omega) ?_
  refine gg_i2l dX2_measureOne_18 (by omega) ?_
  refine gg_lmul dX2_measureOne_19 ?_
  refine gg_ldc2 (z := 100) dX2_measureOne_20 kl_X2_51 (by decide +kernel) ?_
  refine gg_aload_n dX2_measureOne_23 rfl rfl ?_
  refine gg_getR dX2_measureOne_24 fl_X2_19 (shq (Nat.lt_of_lt_of_le (m := 49) (by decide) hn9) sh_23) rfl ?_
  refine gg_iload_n dX2_measureOne_27 rfl rfl ?_
  refine gg_iald dX2_measureOne_28 (shq (Nat.lt_of_lt_of_le (m := 49) (by decide) hn9) sh_25) (by decide) (by omega) ?_
  refine gg_i2l dX2_measureOne_29 (by omega) ?_
  refine gg_lmul dX2_measureOne_30 ?_
  refine gg_callVI gq_rm gq_ck (av := [_, _]) (M' := mX10_leftSteps) dX2_measureOne_31 vX10_leftSteps ml_X2_53 (shq (Nat.lt_of_lt_of_le (m := 49) (by decide) hn9) sh_1) (by decide) rfl rfl rfl rfl (by simp [wtA]) (sp_X10_leftSteps_q hn9 (by omega) (by omega) (by omega) (by omega) ?_)
  refine gg_iast dX2_measureOne_34 (shq (Nat.lt_of_lt_of_le (m := 49) (by decide) hn9) sh_27) (by decide) (by omega) ?_
  refine gg_gh (fun g eg => ?_)
  have w : WOK g := by rw [eg]; exact hw
  have e0 : g 1 0 = h 1 0 := by rw [eg]; rfl
  have ex : g 24 p.toNat = h 24 p.toNat := by rw [eg]; exact up_nc (by decide)
  have ey : g 25 p.toNat = h 25 p.toNat := by rw [eg]; exact up_nc (by decide)
  refine gg_aload_n dX2_measureOne_35 rfl rfl ?_
  refine gg_getR dX2_measureOne_36 fl_X2_29 (shq (Nat.lt_of_lt_of_le (m := 49) (by decide) hn9) sh_23) rfl ?_
  refine gg_iload_n dX2_measureOne_39 rfl rfl ?_
  refine gg_aload_n dX2_measureOne_40 rfl rfl ?_
  refine gg_getR dX2_measureOne_41 fl_X2_35 (shq (Nat.lt_of_lt_of_le (m := 49) (by decide) hn9) sh_23) rfl ?_
  refine gg_ldc2 (z := 100) dX2_measureOne_44 kl_X2_51 (by decide +kernel) ?_
  refine gg_aload_n dX2_measureOne_47 rfl rfl ?_
  refine gg_getR dX2_measureOne_48 fl_X2_15 (shq (Nat.lt_of_lt_of_le (m := 49) (by decide) hn9) sh_23) rfl ?_
  refine gg_iload_n dX2_measureOne_51 rfl rfl ?_
  refine gg_iald dX2_measureOne_52 (shq (Nat.lt_of_lt_of_le (m := 49) (by decide) hn9) sh_24) (by decide) (by omega) ?_
  refine gg_i2l dX2_measureOne_53 (by omega) ?_
  refine gg_lmul dX2_measureOne_54 ?_
  refine gg_ldc2 (z := 100) dX2_measureOne_55 kl_X2_51 (by decide +kernel) ?_
  refine gg_aload_n dX2_measureOne_58 rfl rfl ?_
  refine gg_getR dX2_measureOne_59 fl_X2_19 (shq (Nat.lt_of_lt_of_le (m := 49) (by decide) hn9) sh_23) rfl ?_
  refine gg_iload_n dX2_measureOne_62 rfl rfl ?_
  refine gg_iald dX2_measureOne_63 (shq (Nat.lt_of_lt_of_le (m := 49) (by decide) hn9) sh_25) (by decide) (by omega) ?_
  refine gg_i2l dX2_measureOne_64 (by omega) ?_
  refine gg_lmul dX2_measureOne_65 ?_
  refine gg_callVI gq_rm gq_ck (av := [_, _]) (M' := mX10_rightSteps) dX2_measureOne_66 vX10_rightSteps ml_X2_57 (shq (Nat.lt_of_lt_of_le (m := 49) (by decide) hn9) sh_1) (by decide) rfl rfl rfl rfl (by simp [wtA]) (sp_X10_rightSteps_q hn9 (by omega) (by omega) (by omega) (by omega) ?_)
  refine gg_iast dX2_measureOne_69 (shq (Nat.lt_of_lt_of_le (m := 49) (by decide) hn9) sh_28) (by decide) (by omega) ?_
  refine gg_vret dX2_measureOne_70 rfl ?_
  subst eg
  rw [ex, ey]
  exact ⟨rfl, k⟩
set_option maxRecDepth 20000 in
set_option maxHeartbeats 400000 in
theorem sp_X2_goHome_23_q {nS : Nat} (hn9 : 49 ≤ nS) {d : Nat} (hd : 5 ≤ d) {h : Hp}  (hw : WOK h) {P : Hp → Prop} (k : P (upH (upH (upH (upH (upH (upH h 23 0 0) 24 0 ((h 1 0).tdiv 2)) 25 0 (h 1 1)) 26 0 0) 27 0 (stF (h 1 2) (h 1 3) (100 * (h 1 0).tdiv 2) (100 * (h 1 1)))) 28 0 (stF (h 1 2) (h 1 3) (100 * (h 1 0) - 100 * (h 1 0).tdiv 2) (100 * (h 1 1))))) : Clq nS d mX2_goHome [.inr (.inr 23)] h (pV P) := by
  refine Clq.of (L := [some (.inr (.inr 23))]) (by decide +kernel) (Nat.le_of_ble_eq_true rfl) rfl ?_
  obtain ⟨d, rfl⟩ : ∃ q, d = q + 1 := ⟨d - 1, by omega⟩
  have t1 := tdivNN (a := (h 1 0)) (b := 2) (by omega) (by omega)
  refine gg_aload_n dX2_goHome_0 rfl rfl ?_
  refine gg_iconst dX2_goHome_1 ?_
  refine gg_putI dX2_goHome_2 fl_X2_9 (shq (Nat.lt_of_lt_of_le (m := 49) (by decide) hn9) sh_23) rfl ?_
  refine gg_aload_n dX2_goHome_5 rfl rfl ?_
  refine gg_getR dX2_goHome_6 fl_X2_15 (shq (Nat.lt_of_lt_of_le (m := 49) (by decide) hn9) sh_23) rfl ?_
  refine gg_iconst dX2_goHome_9 ?_
  refine gg_aload_n dX2_goHome_10 rfl rfl ?_
  refine gg_getR dX2_goHome_11 fl_X2_35 (shq (Nat.lt_of_lt_of_le (m := 49) (by decide) hn9) sh_23) rfl ?_
  refine gg_getI dX2_goHome_14 fl_X2_39 (shq (Nat.lt_of_lt_of_le (m := 49) (by decide) hn9) sh_1) rfl ?_
  refine gg_eqI (up_nc (by decide)) ?_
  refine gg_iconst dX2_goHome_17 ?_
  refine gg_idiv dX2_goHome_18 (by omega) ⟨by decide, by decide⟩ (by decide) ?_
  refine gg_iast dX2_goHome_19 (shq (Nat.lt_of_lt_of_le (m := 49) (by decide) hn9) sh_24) (by decide) ⟨by decide, by decide⟩ ?_
  refine gg_aload_n dX2_goHome_20 rfl rfl ?_
  refine gg_getR dX2_goHome_21 fl_X2_19 (shq (Nat.lt_of_lt_of_le (m := 49) (by decide) hn9) sh_23) rfl ?_
  refine gg_iconst dX2_goHome_24 ?_
  refine gg_aload_n dX2_goHome_25 rfl rfl ?_
  refine gg_getR dX2_goHome_26 fl_X2_35 (shq (Nat.lt_of_lt_of_le (m := 49) (by decide) hn9) sh_23) rfl ?_
  refine gg_getI dX2_goHome_29 fl_X2_44 (shq (Nat.lt_of_lt_of_le (m := 49) (by decide) hn9) sh_1) rfl ?_
  refine gg_eqI (((up_nc (by decide)).trans (up_nc (by decide)))) ?_
  refine gg_iast dX2_goHome_32 (shq (Nat.lt_of_lt_of_le (m := 49) (by decide) hn9) sh_25) (by decide) ⟨by decide, by decide⟩ ?_
  refine gg_aload_n dX2_goHome_33 rfl rfl ?_
  refine gg_getR dX2_goHome_34 fl_X2_22 (shq (Nat.lt_of_lt_of_le (m := 49) (by decide) hn9) sh_23) rfl ?_
  refine gg_iconst dX2_goHome_37 ?_
  refine gg_iconst dX2_goHome_38 ?_
  refine gg_zast dX2_goHome_39 (shq (Nat.lt_of_lt_of_le (m := 49) (by decide) hn9) sh_26) (by decide) ⟨by decide, by decide⟩ (.inl rfl) ?_
  refine gg_gh (fun g eg => ?_)
  have w : WOK g := by rw [eg]; exact hw
  have e0 : g 1 0 = h 1 0 := by rw [eg]; rfl
  have e1 : g 1 1 = h 1 1 := by rw [eg]; rfl
  have ex : g 24 0 = (h 1 0).tdiv 2 := by rw [eg]; rfl
  have ey : g 25 0 = (h 1 1) := by rw [eg]; rfl
  refine gg_aload_n dX2_goHome_40 rfl rfl ?_
  refine gg_iconst dX2_goHome_41 ?_
  refine gg_callVU gq_rm gq_ck (av := [_]) (M' := mX2_measureOne) dX2_goHome_42 vX2_measureOne ml_X2_47 (shq (Nat.lt_of_lt_of_le (m := 49) (by decide) hn9) sh_23) (by decide) rfl rfl rfl rfl (by simp [wtA]) (sp_X2_measureOne_23_q hn9 (by omega) (by omega) (by omega) (show 0 ≤ g 24 0 ∧ g 24 0 ≤ g 1 0 by omega) (show 0 ≤ g 25 0 ∧ g 25 0 ≤ g 1 1 by omega) ?_)
  refine gg_vret dX2_goHome_45 rfl ?_
  subst eg
  exact ⟨rfl, k⟩
set_option maxRecDepth 20000 in
set_option maxHeartbeats 400000 in
theorem sp_X12_home_q {nS : Nat} (hn9 : 81 ≤ nS) {d : Nat} (hd : 1 ≤ d) {p : Int} {h : Hp}  (hw : MOK h) (hp : 0 ≤ p ∧ p ≤ 301) {P : Hp → Prop} (k : P (upH (upH (upH h 60 p.toNat ((h 49 3).tdiv 2)) 61 p.toNat (h 49 4)) 62 p.toNat 0)) : Clq nS d mX12_home [.inr (.inr 49), .inl p] h (pV P) := by
  refine Clq.of (L := [some (.inr (.inr 49)), some (.inl p)]) (by decide +kernel) (Nat.le_of_ble_eq_true rfl) rfl ?_
  refine gg_aload_n dX12_home_0 rfl rfl ?_
  refine gg_getR dX12_home_1 fl_X12_59 (shq (Nat.lt_of_lt_of_le (m := 81) (by decide) hn9) sh_49) rfl ?_
  refine gg_iload_n dX12_home_4 rfl rfl ?_
  refine gg_aload_n dX12_home_5 rfl rfl ?_
  refine gg_getI dX12_home_6 fl_X12_13 (shq (Nat.lt_of_lt_of_le (m := 81) (by decide) hn9) sh_49) rfl ?_
  refine gg_iconst dX12_home_9 ?_
  refine gg_idiv dX12_home_10 (by omega) ⟨by decide, by decide⟩ (by decide) ?_
  refine gg_iast dX12_home_11 (shq (Nat.lt_of_lt_of_le (m := 81) (by decide) hn9) sh_60) (by decide) (by omega) ?_
  refine gg_aload_n dX12_home_12 rfl rfl ?_
  refine gg_getR dX12_home_13 fl_X12_62 (shq (Nat.lt_of_lt_of_le (m := 81) (by decide) hn9) sh_49) rfl ?_
  refine gg_iload_n dX12_home_16 rfl rfl ?_
  refine gg_aload_n dX12_home_17 rfl rfl ?_
  refine gg_getI dX12_home_18 fl_X12_17 (shq (Nat.lt_of_lt_of_le (m := 81) (by decide) hn9) sh_49) rfl ?_
  refine gg_eqI (up_nc (by decide)) ?_
  refine gg_iast dX12_home_21 (shq (Nat.lt_of_lt_of_le (m := 81) (by decide) hn9) sh_61) (by decide) (by omega) ?_
  refine gg_aload_n dX12_home_22 rfl rfl ?_
  refine gg_getR dX12_home_23 fl_X12_65 (shq (Nat.lt_of_lt_of_le (m := 81) (by decide) hn9) sh_49) rfl ?_
  refine gg_iload_n dX12_home_26 rfl rfl ?_
  refine gg_iconst dX12_home_27 ?_
  refine gg_zast dX12_home_28 (shq (Nat.lt_of_lt_of_le (m := 81) (by decide) hn9) sh_62) (by decide) (by omega) (.inl rfl) ?_
  refine gg_vret dX12_home_29 rfl ?_
  exact ⟨rfl, k⟩
set_option maxRecDepth 20000 in
set_option maxHeartbeats 400000 in
theorem lp_forgets_q {nS : Nat} (hn9 : 81 ≤ nS) {d : Nat} {P : Hp → Prop} {h : Hp} (k : ∀ g : Hp, (∀ a k, a ≠ 69 → ¬ (a = 49 ∧ (k = 48 ∨ k = 62)) → g a k = h a k) → (∀ p : Nat, p < 300 → g 69 p = 0) → g 49 48 = 0 → g 49 62 = 0 → P g) : ∀ (nn : Nat) (i : Nat) (g : Hp), (i ≤ 300) → (∀ a k, a ≠ 69 → g a k = h a k) → (∀ p : Nat, p < i → g 69 p = 0) → 300 - i < nn → WWq nS mX12_forgets d (pV P) 2 [some (.inr (.inr 49)), some (.inl (i : Int))] [] g := by
  intro nn
  induction nn with
  | zero => intro i g hi hg hv; intros; omega
  | succ nn ih =>
    intro i g hi hg hv hmu
    refine gg_iload_n dX12_forgets_2 rfl rfl ?_
    refine gg_sipush dX12_forgets_3 (by decide +kernel) ?_
    refine gg_icmp_ge (tgt := 22) dX12_forgets_6 rfl (by omega) ⟨by decide, by decide⟩ (fun c_6 => ?_) (fun c_6 => ?_)
    · refine gg_aload_n dX12_forgets_22 rfl rfl ?_
      refine gg_iconst dX12_forgets_23 ?_
      refine gg_putI dX12_forgets_24 fl_X12_177 (shq (Nat.lt_of_lt_of_le (m := 81) (by decide) hn9) sh_49) rfl ?_
      refine gg_aload_n dX12_forgets_27 rfl rfl ?_
      refine gg_iconst dX12_forgets_28 ?_
      refine gg_putZ dX12_forgets_29 fl_X12_180 (shq (Nat.lt_of_lt_of_le (m := 81) (by decide) hn9) sh_49) rfl (.inl rfl) ?_
      refine gg_vret dX12_forgets_32 rfl ?_
      refine ⟨rfl, k _ (fun a q h1 h2 => ?_) (fun p hp => hv p (by omega)) rfl rfl⟩
      rw [← hg a q h1]
      unfold upH
      rw [if_neg (by omega), if_neg (by omega)]
    · refine gg_aload_n dX12_forgets_9 rfl rfl ?_
      refine gg_getR dX12_forgets_10 fl_X12_88 (shq (Nat.lt_of_lt_of_le (m := 81) (by decide) hn9) sh_49) rfl ?_
      refine gg_iload_n dX12_forgets_13 rfl rfl ?_
      refine gg_iconst dX12_forgets_14 ?_
      refine gg_iast dX12_forgets_15 (shq (Nat.lt_of_lt_of_le (m := 81) (by decide) hn9) sh_69) (by decide) (by omega) ?_
      refine gg_iinc (L' := [_, _]) dX12_forgets_16 rfl rfl (by decide) rfl ?_
      refine gg_goto (tgt := 2) dX12_forgets_19 rfl ?_
      refine ih (i + 1) _ (by omega) ?_ ?_ (by omega)
      · intro a k h1
        rw [up_nc h1]
        exact hg a k h1
      · intro p hp
        rw [Int.toNat_natCast]
        by_cases q : p = i
        · subst q
          rw [up_s]
        · rw [up_nk q]
          exact hv p (by omega)
set_option maxRecDepth 20000 in
set_option maxHeartbeats 400000 in
theorem sp_X12_forgets_q {nS : Nat} (hn9 : 81 ≤ nS) {d : Nat} (hd : 1 ≤ d) {h : Hp}   {P : Hp → Prop} (k : ∀ h' : Hp, (∀ a k, a ≠ 69 → ¬ (a = 49 ∧ (k = 48 ∨ k = 62)) → h' a k = h a k) → (∀ p : Nat, p < 300 → h' 69 p = 0) → (h' 49 48 = 0) → (h' 49 62 = 0) → P h') : Clq nS d mX12_forgets [.inr (.inr 49)] h (pV P) := by
  refine Clq.of (L := [some (.inr (.inr 49)), none]) (by decide +kernel) (Nat.le_of_ble_eq_true rfl) rfl ?_
  refine gg_iconst dX12_forgets_0 ?_
  refine gg_istore_n (L' := [_, _]) dX12_forgets_1 rfl rfl (by decide) rfl ?_
  exact lp_forgets_q hn9 k 301 0 h (by omega) (fun _ _ _ => rfl) (fun p hp => absurd hp (by omega)) (by omega)
set_option maxRecDepth 20000 in
set_option maxHeartbeats 400000 in
theorem sp_X12_begins_q {nS : Nat} (hn9 : 81 ≤ nS) {d : Nat} (hd : 2 ≤ d) {h : Hp}  (hw : MOK h) {P : Hp → Prop} (k : ∀ h' : Hp, (∀ a k, a ≠ 69 → a ≠ 60 → a ≠ 61 → a ≠ 62 → ¬ (a = 49 ∧ (k = 48 ∨ k = 62 ∨ k = 29 ∨ k = 30)) → h' a k = h a k) → (h' 49 29 = 0 ∧ h' 49 30 = 0 ∧ h' 60 0 = (h 49 3).tdiv 2 ∧ h' 61 0 = (h 49 4) ∧ h' 62 0 = 0 ∧ h' 60 151 = (h 49 3).tdiv 2 ∧ h' 61 151 = (h 49 4) ∧ h' 62 151 = 0) → (∀ p : Nat, p < 300 → h' 69 p = 0) → (h' 49 48 = 0) → (h' 49 62 = 0) → P h') : Clq nS d mX12_begins [.inr (.inr 49)] h (pV P) := by
  refine Clq.of (L := [some (.inr (.inr 49))]) (by decide +kernel) (Nat.le_of_ble_eq_true rfl) rfl ?_
  obtain ⟨d, rfl⟩ : ∃ q, d = q + 1 := ⟨d - 1, by omega⟩
  refine gg_aload_n dX12_begins_0 rfl rfl ?_
  refine gg_iconst dX12_begins_1 ?_
  refine gg_putI dX12_begins_2 fl_X12_164 (shq (Nat.lt_of_lt_of_le (m := 81) (by decide) hn9) sh_49) rfl ?_
  refine gg_gh (fun g eg => ?_)
  have wg : MOK g := by rw [eg]; exact hw
  refine gg_aload_n dX12_begins_5 rfl rfl ?_
  refine gg_iconst dX12_begins_6 ?_
  refine gg_callVU gq_rm gq_ck (av := [_]) (M' := mX12_home) dX12_begins_7 vX12_home ml_X12_167 (shq (Nat.lt_of_lt_of_le (m := 81) (by decide) hn9) sh_49) (by decide) rfl rfl rfl rfl (by simp [wtA]) (sp_X12_home_q hn9 (by omega) wg (by omega) ?_)
  refine gg_aload_n dX12_begins_10 rfl rfl ?_
  refine gg_iconst dX12_begins_11 ?_
  refine gg_putI dX12_begins_12 fl_X12_171 (shq (Nat.lt_of_lt_of_le (m := 81) (by decide) hn9) sh_49) rfl ?_
  refine gg_gh (fun g2 eg2 => ?_)
  have wg2 : MOK g2 := by rw [eg2, eg]; exact hw
  refine gg_aload_n dX12_begins_15 rfl rfl ?_
  refine gg_sipush dX12_begins_16 (by decide +kernel) ?_
  refine gg_callVU gq_rm gq_ck (av := [_]) (M' := mX12_home) dX12_begins_19 vX12_home ml_X12_167 (shq (Nat.lt_of_lt_of_le (m := 81) (by decide) hn9) sh_49) (by decide) rfl rfl rfl rfl (by simp [wtA]) (sp_X12_home_q hn9 (by omega) wg2 (by omega) ?_)
  refine gg_aload_n dX12_begins_22 rfl rfl ?_
  refine gg_callVU gq_rm gq_ck (av := []) (M' := mX12_forgets) dX12_begins_23 vX12_forgets ml_X12_174 (shq (Nat.lt_of_lt_of_le (m := 81) (by decide) hn9) sh_49) (by decide) rfl rfl rfl rfl (by simp [wtA]) (sp_X12_forgets_q hn9 (by omega) (fun h_23 f0_23 f1_23 f2_23 f3_23 => ?_))
  refine gg_vret dX12_begins_26 rfl ?_
  refine ⟨rfl, k _ (fun a q h1 h2 h3 h4 h5 => ?_) ?_ f1_23 f2_23 f3_23⟩
  · rw [f0_23 a q h1 (by omega), eg2, eg]
    unfold upH
    rw [if_neg (by omega), if_neg (by omega), if_neg (by omega), if_neg (by omega), if_neg (by omega), if_neg (by omega), if_neg (by omega), if_neg (by omega)]
  · rw [f0_23 49 29 (by decide) (by decide), f0_23 49 30 (by decide) (by decide), f0_23 60 0 (by decide) (by decide), f0_23 61 0 (by decide) (by decide), f0_23 62 0 (by decide) (by decide), f0_23 60 151 (by decide) (by decide), f0_23 61 151 (by decide) (by decide), f0_23 62 151 (by decide) (by decide), eg2, eg]
    exact ⟨rfl, rfl, rfl, rfl, rfl, rfl, rfl, rfl⟩
