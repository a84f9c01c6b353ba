/-! FEED -/
def argF (a b c e z : Int) (j : Nat) : Int := if j < 4 then a else if j < 8 then b else if j < 12 then c else if j < 16 then e else z
def bytF (x : Int) (j : Nat) : Int := x / 2 ^ (24 - 8 * (j % 4))
theorem bmod_mod (z : Int) : z.bmod 256 % 256 = z % 256 := by
  have h1 := @Int.bmod_emod z 256
  exact h1
theorem bmod_r (z : Int) : -128 ≤ z.bmod 256 ∧ z.bmod 256 ≤ 127 := by
  have h1 : z.bmod 256 < 128 := by have := @Int.bmod_lt z 256 (by decide); omega
  have h2 : -128 ≤ z.bmod 256 := by have := @Int.le_bmod z 256 (by decide); omega
  omega
def APPC (h g : Hp) (x : Int) : Prop := (∀ a k, ¬ (a = 2 ∧ k = 0) → ¬ (a = 3 ∧ (h 2 0).toNat ≤ k ∧ k < (h 2 0).toNat + 4) → g a k = h a k) ∧ g 2 0 = h 2 0 + 4 ∧ ∀ j : Nat, j < 4 → g 3 ((h 2 0).toNat + j) = (x / 2 ^ (24 - 8 * j)).bmod 256
set_option maxRecDepth 20000 in
set_option maxHeartbeats 400000 in
theorem sp_X8_append {d : Nat} (hd : 1 ≤ d) {x : Int} {h : Hp}  (hx : R32 x) (hs : 0 ≤ (h 2 0) ∧ (h 2 0) ≤ 496) {P : Hp → Prop} (k : ∀ h' : Hp, (APPC h h' x) → P h') : Cl d mX8_append [.inr (.inr 2), .inl x] h (pV P) := by
  refine Cl.of (L := [some (.inr (.inr 2)), some (.inl x), none]) (by decide +kernel) (Nat.le_of_ble_eq_true rfl) rfl ?_
  refine r_bipush dX8_append_0 (by decide +kernel) ?_
  refine r_istore_n (L' := [_, _, _]) dX8_append_2 rfl rfl (by decide) rfl ?_
  refine r_iload_n dX8_append_3 rfl rfl ?_
  refine r_if_lt (tgt := 46) dX8_append_4 rfl ⟨by decide, by decide⟩ (fun c_4 => absurd c_4 (by decide)) (fun c_4 => ?_)
  refine r_aload_n dX8_append_7 rfl rfl ?_
  refine r_getI dX8_append_8 fl_X8_7 sh_2 rfl ?_
  refine r_sipush dX8_append_11 (by decide +kernel) ?_
  refine r_icmp_ge (tgt := 46) dX8_append_14 rfl (by omega) ⟨by decide, by decide⟩ (fun c_14 => absurd c_14 (by omega)) (fun c_14 => ?_)
  refine r_aload_n dX8_append_17 rfl rfl ?_
  refine r_getR dX8_append_18 fl_X8_28 sh_2 rfl ?_
  refine r_aload_n dX8_append_21 rfl rfl ?_
  refine r_getI dX8_append_22 fl_X8_7 sh_2 rfl ?_
  refine r_iload_n dX8_append_25 rfl rfl ?_
  refine r_iload_n dX8_append_26 rfl rfl ?_
  refine r_ishr (n := 24) dX8_append_27 (by omega) (by decide) (by decide) ?_
  refine r_i2b dX8_append_28 ?_
  refine r_bast dX8_append_29 sh_3 (by decide) (by omega) (bmod_r _) ?_
  refine r_aload_n dX8_append_30 rfl rfl ?_
  refine r_dup dX8_append_31 (fun _ h => by cases h) ?_
  refine r_getI dX8_append_32 fl_X8_7 sh_2 rfl ?_
  refine r_eqI (up_nc (by decide)) ?_
  refine r_iconst dX8_append_35 ?_
  refine r_iadd dX8_append_36 ?_
  refine r_putI dX8_append_37 fl_X8_7 sh_2 rfl ?_
  refine r_iinc (L' := [_, _, _]) dX8_append_40 rfl rfl (by decide) rfl ?_
  refine r_goto (tgt := 3) dX8_append_43 rfl ?_
  refine r_iload_n dX8_append_3 rfl rfl ?_
  refine r_if_lt (tgt := 46) dX8_append_4 rfl ⟨by decide, by decide⟩ (fun c_4 => absurd c_4 (by decide)) (fun c_4 => ?_)
  refine r_aload_n dX8_append_7 rfl rfl ?_
  refine r_getI dX8_append_8 fl_X8_7 sh_2 rfl ?_
  refine r_eqI (up_s _ _ _ _) ?_
  refine r_sipush dX8_append_11 (by decide +kernel) ?_
  refine r_icmp_ge (tgt := 46) dX8_append_14 rfl (by omega) ⟨by decide, by decide⟩ (fun c_14 => absurd c_14 (by omega)) (fun c_14 => ?_)
  refine r_aload_n dX8_append_17 rfl rfl ?_
  refine r_getR dX8_append_18 fl_X8_28 sh_2 rfl ?_
  refine r_aload_n dX8_append_21 rfl rfl ?_
  refine r_getI dX8_append_22 fl_X8_7 sh_2 rfl ?_
  refine r_eqI (up_s _ _ _ _) ?_
  refine r_iload_n dX8_append_25 rfl rfl ?_
  refine r_iload_n dX8_append_26 rfl rfl ?_
  refine r_ishr (n := 16) dX8_append_27 (by omega) (by decide) (by decide) ?_
  refine r_i2b dX8_append_28 ?_
  refine r_bast dX8_append_29 sh_3 (by decide) (by omega) (bmod_r _) ?_
  refine r_aload_n dX8_append_30 rfl rfl ?_
  refine r_dup dX8_append_31 (fun _ h => by cases h) ?_
  refine r_getI dX8_append_32 fl_X8_7 sh_2 rfl ?_
  refine r_eqI (((up_nc (by decide)).trans (up_s _ _ _ _))) ?_
  refine r_iconst dX8_append_35 ?_
  refine r_iadd dX8_append_36 ?_
  refine r_putI dX8_append_37 fl_X8_7 sh_2 rfl ?_
  refine r_iinc (L' := [_, _, _]) dX8_append_40 rfl rfl (by decide) rfl ?_
  refine r_goto (tgt := 3) dX8_append_43 rfl ?_
  refine r_iload_n dX8_append_3 rfl rfl ?_
  refine r_if_lt (tgt := 46) dX8_append_4 rfl ⟨by decide, by decide⟩ (fun c_4 => absurd c_4 (by decide)) (fun c_4 => ?_)
  refine r_aload_n dX8_append_7 rfl rfl ?_
  refine r_getI dX8_append_8 fl_X8_7 sh_2 rfl ?_
  refine r_eqI (up_s _ _ _ _) ?_
  refine r_sipush dX8_append_11 (by decide +kernel) ?_
  refine r_icmp_ge (tgt := 46) dX8_append_14 rfl (by omega) ⟨by decide, by decide⟩ (fun c_14 => absurd c_14 (by omega)) (fun c_14 => ?_)
  refine r_aload_n dX8_append_17 rfl rfl ?_
  refine r_getR dX8_append_18 fl_X8_28 sh_2 rfl ?_
  refine r_aload_n dX8_append_21 rfl rfl ?_
  refine r_getI dX8_append_22 fl_X8_7 sh_2 rfl ?_
  refine r_eqI (up_s _ _ _ _) ?_
  refine r_iload_n dX8_append_25 rfl rfl ?_
  refine r_iload_n dX8_append_26 rfl rfl ?_
  refine r_ishr (n := 8) dX8_append_27 (by omega) (by decide) (by decide) ?_
  refine r_i2b dX8_append_28 ?_
  refine r_bast dX8_append_29 sh_3 (by decide) (by omega) (bmod_r _) ?_
  refine r_aload_n dX8_append_30 rfl rfl ?_
  refine r_dup dX8_append_31 (fun _ h => by cases h) ?_
  refine r_getI dX8_append_32 fl_X8_7 sh_2 rfl ?_
  refine r_eqI (((up_nc (by decide)).trans (up_s _ _ _ _))) ?_
  refine r_iconst dX8_append_35 ?_
  refine r_iadd dX8_append_36 ?_
  refine r_putI dX8_append_37 fl_X8_7 sh_2 rfl ?_
  refine r_iinc (L' := [_, _, _]) dX8_append_40 rfl rfl (by decide) rfl ?_
  refine r_goto (tgt := 3) dX8_append_43 rfl ?_
  refine r_iload_n dX8_append_3 rfl rfl ?_
  refine r_if_lt (tgt := 46) dX8_append_4 rfl ⟨by decide, by decide⟩ (fun c_4 => absurd c_4 (by decide)) (fun c_4 => ?_)
  refine r_aload_n dX8_append_7 rfl rfl ?_
  refine r_getI dX8_append_8 fl_X8_7 sh_2 rfl ?_
  refine r_eqI (up_s _ _ _ _) ?_
  refine r_sipush dX8_append_11 (by decide +kernel) ?_
  refine r_icmp_ge (tgt := 46) dX8_append_14 rfl (by omega) ⟨by decide, by decide⟩ (fun c_14 => absurd c_14 (by omega)) (fun c_14 => ?_)
  refine r_aload_n dX8_append_17 rfl rfl ?_
  refine r_getR dX8_append_18 fl_X8_28 sh_2 rfl ?_
  refine r_aload_n dX8_append_21 rfl rfl ?_
  refine r_getI dX8_append_22 fl_X8_7 sh_2 rfl ?_
  refine r_eqI (up_s _ _ _ _) ?_
  refine r_iload_n dX8_append_25 rfl rfl ?_
  refine r_iload_n dX8_append_26 rfl rfl ?_
  refine r_ishr (n := 0) dX8_append_27 (by omega) (by decide) (by decide) ?_
  refine r_i2b dX8_append_28 ?_
  refine r_bast dX8_append_29 sh_3 (by decide) (by omega) (bmod_r _) ?_
  refine r_aload_n dX8_append_30 rfl rfl ?_
  refine r_dup dX8_append_31 (fun _ h => by cases h) ?_
  refine r_getI dX8_append_32 fl_X8_7 sh_2 rfl ?_
  refine r_eqI (((up_nc (by decide)).trans (up_s _ _ _ _))) ?_
  refine r_iconst dX8_append_35 ?_
  refine r_iadd dX8_append_36 ?_
  refine r_putI dX8_append_37 fl_X8_7 sh_2 rfl ?_
  refine r_iinc (L' := [_, _, _]) dX8_append_40 rfl rfl (by decide) rfl ?_
  refine r_goto (tgt := 3) dX8_append_43 rfl ?_
  refine r_iload_n dX8_append_3 rfl rfl ?_
  refine r_if_lt (tgt := 46) dX8_append_4 rfl ⟨by decide, by decide⟩ (fun c_4 => ?_) (fun c_4 => absurd c_4 (by decide))
  refine r_vret dX8_append_46 rfl ?_
  have t1 : ((h 2 0) + 1).toNat = (h 2 0).toNat + 1 := by omega
  have t2 : ((h 2 0) + 1 + 1).toNat = (h 2 0).toNat + 2 := by omega
  have t3 : ((h 2 0) + 1 + 1 + 1).toNat = (h 2 0).toNat + 3 := by omega
  refine ⟨rfl, k _ ⟨fun a q h1 h2 => ?_, ?_, fun j hj => ?_⟩⟩
  · rw [t1, t2, t3]
    unfold upH
    rw [if_neg h1, if_neg (by omega), if_neg h1, if_neg (by omega), if_neg h1, if_neg (by omega), if_neg h1, if_neg (by omega)]
  · rw [up_s]
    omega
  · rw [t1, t2, t3]
    rcases j with _ | _ | _ | _ | j
    · simp [upH]
    · simp [upH]
    · simp [upH]
    · simp [upH]
    · omega
def FEEDC (h g : Hp) (a b c e z : Int) : Prop := (∀ p k, ¬ (p = 2 ∧ k = 0) → ¬ (p = 3 ∧ (h 2 0).toNat ≤ k ∧ k < (h 2 0).toNat + 20) → g p k = h p k) ∧ g 2 0 = h 2 0 + 20 ∧ ∀ j : Nat, j < 20 → g 3 ((h 2 0).toNat + j) = (bytF (argF a b c e z j) j).bmod 256
theorem APPC.five {h g1 g2 g3 g4 g5 : Hp} {a b c e z : Int} (hs : 0 ≤ h 2 0) (c1 : APPC h g1 a) (c2 : APPC g1 g2 b) (c3 : APPC g2 g3 c) (c4 : APPC g3 g4 e) (c5 : APPC g4 g5 z) : FEEDC h g5 a b c e z := by
  obtain ⟨a1, a2, a3⟩ := c1
  obtain ⟨b1, b2, b3⟩ := c2
  obtain ⟨d1, d2, d3⟩ := c3
  obtain ⟨e1, e2, e3⟩ := c4
  obtain ⟨f1, f2, f3⟩ := c5
  have s1 : (g1 2 0).toNat = (h 2 0).toNat + 4 := by omega
  have s2 : (g2 2 0).toNat = (h 2 0).toNat + 8 := by omega
  have s3 : (g3 2 0).toNat = (h 2 0).toNat + 12 := by omega
  have s4 : (g4 2 0).toNat = (h 2 0).toNat + 16 := by omega
  rw [s1] at b1 b3
  rw [s2] at d1 d3
  rw [s3] at e1 e3
  rw [s4] at f1 f3
  refine ⟨fun p k h1 h2 => ?_, by omega, fun j hj => ?_⟩
  · rw [f1 p k h1 (by omega), e1 p k h1 (by omega), d1 p k h1 (by omega), b1 p k h1 (by omega), a1 p k h1 (by omega)]
  · unfold argF bytF
    by_cases q1 : j < 4
    · rw [if_pos q1, f1 _ _ (by omega) (by omega), e1 _ _ (by omega) (by omega), d1 _ _ (by omega) (by omega), b1 _ _ (by omega) (by omega), a3 j q1, Nat.mod_eq_of_lt q1]
    · rw [if_neg q1]
      by_cases q2 : j < 8
      · rw [if_pos q2, f1 _ _ (by omega) (by omega), e1 _ _ (by omega) (by omega), d1 _ _ (by omega) (by omega)]
        have := b3 (j - 4) (by omega)
        rw [show (h 2 0).toNat + 4 + (j - 4) = (h 2 0).toNat + j by omega, show j - 4 = j % 4 by omega] at this
        exact this
      · rw [if_neg q2]
        by_cases q3 : j < 12
        · rw [if_pos q3, f1 _ _ (by omega) (by omega), e1 _ _ (by omega) (by omega)]
          have := d3 (j - 8) (by omega)
          rw [show (h 2 0).toNat + 8 + (j - 8) = (h 2 0).toNat + j by omega, show j - 8 = j % 4 by omega] at this
          exact this
        · rw [if_neg q3]
          by_cases q4 : j < 16
          · rw [if_pos q4, f1 _ _ (by omega) (by omega)]
            have := e3 (j - 12) (by omega)
            rw [show (h 2 0).toNat + 12 + (j - 12) = (h 2 0).toNat + j by omega, show j - 12 = j % 4 by omega] at this
            exact this
          · rw [if_neg q4]
            have := f3 (j - 16) (by omega)
            rw [show (h 2 0).toNat + 16 + (j - 16) = (h 2 0).toNat + j by omega, show j - 16 = j % 4 by omega] at this
            exact this
set_option maxRecDepth 20000 in
set_option maxHeartbeats 400000 in
theorem sp_X11_feed {d : Nat} (hd : 2 ≤ d) {a b c e z : Int} {h : Hp}  (ha : R32 a) (hb : R32 b) (hc : R32 c) (he : R32 e) (hz : R32 z) (hs : 0 ≤ (h 2 0) ∧ (h 2 0) ≤ 500) {P : Int → Hp → Prop} (kt : (h 2 0) + 20 ≤ 500 → ∀ g : Hp, FEEDC h g a b c e z → P ((h 2 0) + 20) g) (kf : ¬ ((h 2 0) + 20 ≤ 500) → P (-1) h) : Cl d mX11_feed [.inr (.inr 0), .inl a, .inl b, .inl c, .inl e, .inl z] h (pI P) := by
  refine Cl.of (L := [some (.inr (.inr 0)), some (.inl a), some (.inl b), some (.inl c), some (.inl e), some (.inl z)]) (by decide +kernel) (Nat.le_of_ble_eq_true rfl) rfl ?_
  obtain ⟨d, rfl⟩ : ∃ q, d = q + 1 := ⟨d - 1, by omega⟩
  refine r_aload_n dX11_feed_0 rfl rfl ?_
  refine r_getR dX11_feed_1 fl_X11_19 sh_0 rfl ?_
  refine r_getI dX11_feed_4 fl_X11_108 sh_2 rfl ?_
  refine r_bipush dX11_feed_7 (by decide +kernel) ?_
  refine r_iadd dX11_feed_9 ?_
  refine r_sipush dX11_feed_10 (by decide +kernel) ?_
  refine r_icmp_le (tgt := 18) dX11_feed_13 rfl (by omega) ⟨by decide, by decide⟩ (fun c_13 => ?_) (fun c_13 => ?_)
  · refine r_aload_n dX11_feed_18 rfl rfl ?_
    refine r_getR dX11_feed_19 fl_X11_19 sh_0 rfl ?_
    refine r_iload_n dX11_feed_22 rfl rfl ?_
    refine r_callVU (av := [_]) (M' := mX8_append) dX11_feed_23 vX8_append ml_X11_112 sh_2 (by decide) rfl rfl rfl rfl (by simp [wtA]) (sp_X8_append (by omega) (by omega) (by omega) (fun h_23 f0_23 => ?_))
    have y1 := f0_23.2.1
    refine r_aload_n dX11_feed_26 rfl rfl ?_
    refine r_getR dX11_feed_27 fl_X11_19 sh_0 rfl ?_
    refine r_iload_n dX11_feed_30 rfl rfl ?_
    refine r_callVU (av := [_]) (M' := mX8_append) dX11_feed_31 vX8_append ml_X11_112 sh_2 (by decide) rfl rfl rfl rfl (by simp [wtA]) (sp_X8_append (by omega) (by omega) (by omega) (fun h_31 f0_31 => ?_))
    have y2 := f0_31.2.1
    refine r_aload_n dX11_feed_34 rfl rfl ?_
    refine r_getR dX11_feed_35 fl_X11_19 sh_0 rfl ?_
    refine r_iload_n dX11_feed_38 rfl rfl ?_
    refine r_callVU (av := [_]) (M' := mX8_append) dX11_feed_39 vX8_append ml_X11_112 sh_2 (by decide) rfl rfl rfl rfl (by simp [wtA]) (sp_X8_append (by omega) (by omega) (by omega) (fun h_39 f0_39 => ?_))
    have y3 := f0_39.2.1
    refine r_aload_n dX11_feed_42 rfl rfl ?_
    refine r_getR dX11_feed_43 fl_X11_19 sh_0 rfl ?_
    refine r_iload dX11_feed_46 rfl ?_
    refine r_callVU (av := [_]) (M' := mX8_append) dX11_feed_48 vX8_append ml_X11_112 sh_2 (by decide) rfl rfl rfl rfl (by simp [wtA]) (sp_X8_append (by omega) (by omega) (by omega) (fun h_48 f0_48 => ?_))
    have y4 := f0_48.2.1
    refine r_aload_n dX11_feed_51 rfl rfl ?_
    refine r_getR dX11_feed_52 fl_X11_19 sh_0 rfl ?_
    refine r_iload dX11_feed_55 rfl ?_
    refine r_callVU (av := [_]) (M' := mX8_append) dX11_feed_57 vX8_append ml_X11_112 sh_2 (by decide) rfl rfl rfl rfl (by simp [wtA]) (sp_X8_append (by omega) (by omega) (by omega) (fun h_57 f0_57 => ?_))
    have y5 := f0_57.2.1
    refine r_aload_n dX11_feed_60 rfl rfl ?_
    refine r_getR dX11_feed_61 fl_X11_19 sh_0 rfl ?_
    refine r_getI dX11_feed_64 fl_X11_108 sh_2 rfl ?_
    refine r_iret dX11_feed_67 rfl ?_
    exact ⟨_, rfl, eqP (kt (by omega) _ (APPC.five hs.1 f0_23 f0_31 f0_39 f0_48 f0_57)) (by omega)⟩
  · refine r_iconst dX11_feed_16 ?_
    refine r_iret dX11_feed_17 rfl ?_
    exact ⟨_, rfl, kf (by omega)⟩
def FEEDM (h g : Hp) (a b c e z : Int) : Prop := (∀ p k, ¬ (p = 49 ∧ k = 1) → ¬ (p = 50 ∧ (h 49 1).toNat ≤ k ∧ k < (h 49 1).toNat + 20) → g p k = h p k) ∧ g 49 1 = h 49 1 + 20 ∧ ∀ j : Nat, j < 20 → g 50 ((h 49 1).toNat + j) = bytF (argF a b c e z j) j % 256
set_option maxRecDepth 20000 in
set_option maxHeartbeats 400000 in
theorem lp_feed {d : Nat} {P : Int → Hp → Prop} {h : Hp} {a b c e z : Int} (ha : R32 a) (hb : R32 b) (hc : R32 c) (he : R32 e) (hz : R32 z) (hs : 0 ≤ (h 49 1) ∧ (h 49 1) ≤ 480) (k : ∀ g : Hp, FEEDM h g a b c e z → P ((h 49 1) + 20) g) : ∀ (nn : Nat) (i : Nat) (g : Hp) (o : Option AV), (i ≤ 20) → (∀ p k, ¬ (p = 50 ∧ (h 49 1).toNat ≤ k ∧ k < (h 49 1).toNat + 20) → g p k = h p k) → (∀ j : Nat, j < i → g 50 ((h 49 1).toNat + j) = bytF (argF a b c e z j) j % 256) → 20 - i < nn → WW mX12_feed d (pI P) 23 [some (.inr (.inr 49)), some (.inl a), some (.inl b), some (.inl c), some (.inl e), some (.inl z), some (.inl (i : Int)), o] [] g := by
  intro nn
  induction nn with
  | zero => intro i g o hi hg hv; intros; omega
  | succ nn ih =>
    intro i g o hi hg hv hmu
    have ws := hg 49 1 (by omega)
    have e0 : ((g 49 1) + (i : Int)).toNat = (h 49 1).toNat + i := by omega
    have t4 : (i : Int).tmod 4 = ((i % 4 : Nat) : Int) := by rw [Int.tmod_eq_emod_of_nonneg (by omega)]; omega
    refine r_iload dX12_feed_23 rfl ?_
    refine r_bipush dX12_feed_25 (by decide +kernel) ?_
    refine r_icmp_ge (tgt := 113) dX12_feed_27 rfl (by omega) ⟨by decide, by decide⟩ (fun c_27 => ?_) (fun c_27 => ?_)
    · refine r_aload_n dX12_feed_113 rfl rfl ?_
      refine r_dup dX12_feed_114 (fun _ h => by cases h) ?_
      refine r_getI dX12_feed_115 fl_X12_130 sh_49 rfl ?_
      refine r_bipush dX12_feed_118 (by decide +kernel) ?_
      refine r_iadd dX12_feed_120 ?_
      refine r_putI dX12_feed_121 fl_X12_130 sh_49 rfl ?_
      refine r_aload_n dX12_feed_124 rfl rfl ?_
      refine r_getI dX12_feed_125 fl_X12_130 sh_49 rfl ?_
      refine r_eqI (up_s _ _ _ _) ?_
      refine r_iret dX12_feed_128 rfl ?_
      refine ⟨_, rfl, eqP (k _ ⟨fun p q h1 h2 => ?_, ?_, fun j hj => ?_⟩) (by omega)⟩
      · unfold upH
        rw [if_neg h1]
        exact hg p q h2
      · rw [up_s]; omega
      · rw [up_nc (by decide)]
        exact hv j (by omega)
    · refine r_iload dX12_feed_30 rfl ?_
      refine r_iconst dX12_feed_32 ?_
      refine r_icmp_ge (tgt := 40) dX12_feed_33 rfl (by omega) ⟨by decide, by decide⟩ (fun c_33 => ?_) (fun c_33 => ?_)
      · refine r_iload dX12_feed_40 rfl ?_
        refine r_bipush dX12_feed_42 (by decide +kernel) ?_
        refine r_icmp_ge (tgt := 51) dX12_feed_44 rfl (by omega) ⟨by decide, by decide⟩ (fun c_44 => ?_) (fun c_44 => ?_)
        · refine r_iload dX12_feed_51 rfl ?_
          refine r_bipush dX12_feed_53 (by decide +kernel) ?_
          refine r_icmp_ge (tgt := 62) dX12_feed_55 rfl (by omega) ⟨by decide, by decide⟩ (fun c_55 => ?_) (fun c_55 => ?_)
          · refine r_iload dX12_feed_62 rfl ?_
            refine r_bipush dX12_feed_64 (by decide +kernel) ?_
            refine r_icmp_ge (tgt := 74) dX12_feed_66 rfl (by omega) ⟨by decide, by decide⟩ (fun c_66 => ?_) (fun c_66 => ?_)
            · refine r_iload dX12_feed_74 rfl ?_
              refine r_nmI (fun x7 e_x7 => ?_)
              refine r_istore (L' := [_, _, _, _, _, _, _, _]) dX12_feed_76 rfl (by decide) rfl ?_
              have ex : x7 = argF a b c e z i := by
                unfold argF
                (repeat' split) <;> omega
              refine r_aload_n dX12_feed_78 rfl rfl ?_
              refine r_getR dX12_feed_79 fl_X12_7 sh_49 rfl ?_
              refine r_aload_n dX12_feed_82 rfl rfl ?_
              refine r_getI dX12_feed_83 fl_X12_130 sh_49 rfl ?_
              refine r_iload dX12_feed_86 rfl ?_
              refine r_iadd dX12_feed_88 ?_
              refine r_iload dX12_feed_89 rfl ?_
              refine r_bipush dX12_feed_91 (by decide +kernel) ?_
              refine r_bipush dX12_feed_93 (by decide +kernel) ?_
              refine r_iload dX12_feed_95 rfl ?_
              refine r_iconst dX12_feed_97 ?_
              refine r_irem dX12_feed_98 (by omega) ⟨by decide, by decide⟩ (by decide) ?_
              refine r_imul dX12_feed_99 ?_
              refine r_isub dX12_feed_100 ?_
              refine r_ishr dX12_feed_101 (by omega) (n := 24 - 8 * (i % 4)) (by rw [t4]; omega) (by omega) ?_
              refine r_sipush dX12_feed_102 (by decide +kernel) ?_
              refine r_iand 8 dX12_feed_105 (by decide +kernel) (q := 256) rfl (by decide) ?_
              refine r_iast dX12_feed_106 sh_50 (by decide) (by omega) ?_
              refine r_iinc (L' := [_, _, _, _, _, _, _, _]) dX12_feed_107 rfl rfl (by decide) rfl ?_
              refine r_goto (tgt := 23) dX12_feed_110 rfl ?_
              refine ih (i + 1) _ _ (by omega) ?_ ?_ (by omega)
              · intro p q h2
                rw [e0, ← hg p q h2]
                unfold upH
                rw [if_neg (by omega)]
              · intro j hj
                rw [e0, ex]
                by_cases q : j = i
                · subst q
                  rw [up_s]
                  rfl
                · rw [up_nk (by omega)]
                  exact hv j (by omega)
            · refine r_iload dX12_feed_69 rfl ?_
              refine r_goto (tgt := 76) dX12_feed_71 rfl ?_
              refine r_nmI (fun x7 e_x7 => ?_)
              refine r_istore (L' := [_, _, _, _, _, _, _, _]) dX12_feed_76 rfl (by decide) rfl ?_
              have ex : x7 = argF a b c e z i := by
                unfold argF
                (repeat' split) <;> omega
              refine r_aload_n dX12_feed_78 rfl rfl ?_
              refine r_getR dX12_feed_79 fl_X12_7 sh_49 rfl ?_
              refine r_aload_n dX12_feed_82 rfl rfl ?_
              refine r_getI dX12_feed_83 fl_X12_130 sh_49 rfl ?_
              refine r_iload dX12_feed_86 rfl ?_
              refine r_iadd dX12_feed_88 ?_
              refine r_iload dX12_feed_89 rfl ?_
              refine r_bipush dX12_feed_91 (by decide +kernel) ?_
              refine r_bipush dX12_feed_93 (by decide +kernel) ?_
              refine r_iload dX12_feed_95 rfl ?_
              refine r_iconst dX12_feed_97 ?_
              refine r_irem dX12_feed_98 (by omega) ⟨by decide, by decide⟩ (by decide) ?_
              refine r_imul dX12_feed_99 ?_
              refine r_isub dX12_feed_100 ?_
              refine r_ishr dX12_feed_101 (by omega) (n := 24 - 8 * (i % 4)) (by rw [t4]; omega) (by omega) ?_
              refine r_sipush dX12_feed_102 (by decide +kernel) ?_
              refine r_iand 8 dX12_feed_105 (by decide +kernel) (q := 256) rfl (by decide) ?_
              refine r_iast dX12_feed_106 sh_50 (by decide) (by omega) ?_
              refine r_iinc (L' := [_, _, _, _, _, _, _, _]) dX12_feed_107 rfl rfl (by decide) rfl ?_
              refine r_goto (tgt := 23) dX12_feed_110 rfl ?_
              refine ih (i + 1) _ _ (by omega) ?_ ?_ (by omega)
              · intro p q h2
                rw [e0, ← hg p q h2]
                unfold upH
                rw [if_neg (by omega)]
              · intro j hj
                rw [e0, ex]
                by_cases q : j = i
                · subst q
                  rw [up_s]
                  rfl
                · rw [up_nk (by omega)]
                  exact hv j (by omega)
          · refine r_iload_n dX12_feed_58 rfl rfl ?_
            refine r_goto (tgt := 76) dX12_feed_59 rfl ?_
            refine r_nmI (fun x7 e_x7 => ?_)
            refine r_istore (L' := [_, _, _, _, _, _, _, _]) dX12_feed_76 rfl (by decide) rfl ?_
            have ex : x7 = argF a b c e z i := by
              unfold argF
              (repeat' split) <;> omega
            refine r_aload_n dX12_feed_78 rfl rfl ?_
            refine r_getR dX12_feed_79 fl_X12_7 sh_49 rfl ?_
            refine r_aload_n dX12_feed_82 rfl rfl ?_
            refine r_getI dX12_feed_83 fl_X12_130 sh_49 rfl ?_
            refine r_iload dX12_feed_86 rfl ?_
            refine r_iadd dX12_feed_88 ?_
            refine r_iload dX12_feed_89 rfl ?_
            refine r_bipush dX12_feed_91 (by decide +kernel) ?_
            refine r_bipush dX12_feed_93 (by decide +kernel) ?_
            refine r_iload dX12_feed_95 rfl ?_
            refine r_iconst dX12_feed_97 ?_
            refine r_irem dX12_feed_98 (by omega) ⟨by decide, by decide⟩ (by decide) ?_
            refine r_imul dX12_feed_99 ?_
            refine r_isub dX12_feed_100 ?_
            refine r_ishr dX12_feed_101 (by omega) (n := 24 - 8 * (i % 4)) (by rw [t4]; omega) (by omega) ?_
            refine r_sipush dX12_feed_102 (by decide +kernel) ?_
            refine r_iand 8 dX12_feed_105 (by decide +kernel) (q := 256) rfl (by decide) ?_
            refine r_iast dX12_feed_106 sh_50 (by decide) (by omega) ?_
            refine r_iinc (L' := [_, _, _, _, _, _, _, _]) dX12_feed_107 rfl rfl (by decide) rfl ?_
            refine r_goto (tgt := 23) dX12_feed_110 rfl ?_
            refine ih (i + 1) _ _ (by omega) ?_ ?_ (by omega)
            · intro p q h2
              rw [e0, ← hg p q h2]
              unfold upH
              rw [if_neg (by omega)]
            · intro j hj
              rw [e0, ex]
              by_cases q : j = i
              · subst q
                rw [up_s]
                rfl
              · rw [up_nk (by omega)]
                exact hv j (by omega)
        · refine r_iload_n dX12_feed_47 rfl rfl ?_
          refine r_goto (tgt := 76) dX12_feed_48 rfl ?_
          refine r_nmI (fun x7 e_x7 => ?_)
          refine r_istore (L' := [_, _, _, _, _, _, _, _]) dX12_feed_76 rfl (by decide) rfl ?_
          have ex : x7 = argF a b c e z i := by
            unfold argF
            (repeat' split) <;> omega
          refine r_aload_n dX12_feed_78 rfl rfl ?_
          refine r_getR dX12_feed_79 fl_X12_7 sh_49 rfl ?_
          refine r_aload_n dX12_feed_82 rfl rfl ?_
          refine r_getI dX12_feed_83 fl_X12_130 sh_49 rfl ?_
          refine r_iload dX12_feed_86 rfl ?_
          refine r_iadd dX12_feed_88 ?_
          refine r_iload dX12_feed_89 rfl ?_
          refine r_bipush dX12_feed_91 (by decide +kernel) ?_
          refine r_bipush dX12_feed_93 (by decide +kernel) ?_
          refine r_iload dX12_feed_95 rfl ?_
          refine r_iconst dX12_feed_97 ?_
          refine r_irem dX12_feed_98 (by omega) ⟨by decide, by decide⟩ (by decide) ?_
          refine r_imul dX12_feed_99 ?_
          refine r_isub dX12_feed_100 ?_
          refine r_ishr dX12_feed_101 (by omega) (n := 24 - 8 * (i % 4)) (by rw [t4]; omega) (by omega) ?_
          refine r_sipush dX12_feed_102 (by decide +kernel) ?_
          refine r_iand 8 dX12_feed_105 (by decide +kernel) (q := 256) rfl (by decide) ?_
          refine r_iast dX12_feed_106 sh_50 (by decide) (by omega) ?_
          refine r_iinc (L' := [_, _, _, _, _, _, _, _]) dX12_feed_107 rfl rfl (by decide) rfl ?_
          refine r_goto (tgt := 23) dX12_feed_110 rfl ?_
          refine ih (i + 1) _ _ (by omega) ?_ ?_ (by omega)
          · intro p q h2
            rw [e0, ← hg p q h2]
            unfold upH
            rw [if_neg (by omega)]
          · intro j hj
            rw [e0, ex]
            by_cases q : j = i
            · subst q
              rw [up_s]
              rfl
            · rw [up_nk (by omega)]
              exact hv j (by omega)
      · refine r_iload_n dX12_feed_36 rfl rfl ?_
        refine r_goto (tgt := 76) dX12_feed_37 rfl ?_
        refine r_nmI (fun x7 e_x7 => ?_)
        refine r_istore (L' := [_, _, _, _, _, _, _, _]) dX12_feed_76 rfl (by decide) rfl ?_
        have ex : x7 = argF a b c e z i := by
          unfold argF
          (repeat' split) <;> omega
        refine r_aload_n dX12_feed_78 rfl rfl ?_
        refine r_getR dX12_feed_79 fl_X12_7 sh_49 rfl ?_
        refine r_aload_n dX12_feed_82 rfl rfl ?_
        refine r_getI dX12_feed_83 fl_X12_130 sh_49 rfl ?_
        refine r_iload dX12_feed_86 rfl ?_
        refine r_iadd dX12_feed_88 ?_
        refine r_iload dX12_feed_89 rfl ?_
        refine r_bipush dX12_feed_91 (by decide +kernel) ?_
        refine r_bipush dX12_feed_93 (by decide +kernel) ?_
        refine r_iload dX12_feed_95 rfl ?_
        refine r_iconst dX12_feed_97 ?_
        refine r_irem dX12_feed_98 (by omega) ⟨by decide, by decide⟩ (by decide) ?_
        refine r_imul dX12_feed_99 ?_
        refine r_isub dX12_feed_100 ?_
        refine r_ishr dX12_feed_101 (by omega) (n := 24 - 8 * (i % 4)) (by rw [t4]; omega) (by omega) ?_
        refine r_sipush dX12_feed_102 (by decide +kernel) ?_
        refine r_iand 8 dX12_feed_105 (by decide +kernel) (q := 256) rfl (by decide) ?_
        refine r_iast dX12_feed_106 sh_50 (by decide) (by omega) ?_
        refine r_iinc (L' := [_, _, _, _, _, _, _, _]) dX12_feed_107 rfl rfl (by decide) rfl ?_
        refine r_goto (tgt := 23) dX12_feed_110 rfl ?_
        refine ih (i + 1) _ _ (by omega) ?_ ?_ (by omega)
        · intro p q h2
          rw [e0, ← hg p q h2]
          unfold upH
          rw [if_neg (by omega)]
        · intro j hj
          rw [e0, ex]
          by_cases q : j = i
          · subst q
            rw [up_s]
            rfl
          · rw [up_nk (by omega)]
            exact hv j (by omega)
set_option maxRecDepth 20000 in
set_option maxHeartbeats 400000 in
theorem sp_X12_feed {d : Nat} (hd : 1 ≤ d) {a b c e z : Int} {h : Hp}  (hw : MOK h) (ha : R32 a) (hb : R32 b) (hc : R32 c) (he : R32 e) (hz : R32 z) (hs : 0 ≤ (h 49 1) ∧ (h 49 1) ≤ 500) {P : Int → Hp → Prop} (kt : (h 49 1) + 20 ≤ 500 → ∀ g : Hp, (∃ g0, FrM h g0 ∧ FEEDM g0 g a b c e z) → P ((h 49 1) + 20) g) (kf : ¬ ((h 49 1) + 20 ≤ 500) → ∀ g : Hp, FrM h g → P (-1) g) : Cl d mX12_feed [.inr (.inr 49), .inl a, .inl b, .inl c, .inl e, .inl z] h (pI P) := by
  refine Cl.of (L := [some (.inr (.inr 49)), some (.inl a), some (.inl b), some (.inl c), some (.inl e), some (.inl z), none, none]) (by decide +kernel) (Nat.le_of_ble_eq_true rfl) rfl ?_
  refine r_aload_n dX12_feed_0 rfl rfl ?_
  refine r_iconst dX12_feed_1 ?_
  refine r_putI dX12_feed_2 fl_X12_127 sh_49 rfl ?_
  refine r_gh (fun g eg => ?_)
  have f : FrM h g := by rw [eg]; exact FrM.rf.up rfl
  have e3 : g 49 3 = h 49 3 := f 49 3 rfl
  have e4 : g 49 4 = h 49 4 := f 49 4 rfl
  have e5 : g 49 5 = h 49 5 := f 49 5 rfl
  have e6 : g 49 6 = h 49 6 := f 49 6 rfl
  have e7 : g 49 7 = h 49 7 := f 49 7 rfl
  have e8 : g 49 8 = h 49 8 := f 49 8 rfl
  have e1 : g 49 1 = h 49 1 := f 49 1 rfl
  have w : MOK g := by omega
  refine r_aload_n dX12_feed_5 rfl rfl ?_
  refine r_getI dX12_feed_6 fl_X12_130 sh_49 rfl ?_
  refine r_bipush dX12_feed_9 (by decide +kernel) ?_
  refine r_iadd dX12_feed_11 ?_
  refine r_sipush dX12_feed_12 (by decide +kernel) ?_
  refine r_icmp_le (tgt := 20) dX12_feed_15 rfl (by omega) ⟨by decide, by decide⟩ (fun c_15 => ?_) (fun c_15 => ?_)
  · refine r_iconst dX12_feed_20 ?_
    refine r_istore (L' := [_, _, _, _, _, _, _, _]) dX12_feed_21 rfl (by decide) rfl ?_
    exact lp_feed (h := g) ha hb hc he hz (by omega) (fun g2 q => eqP (kt (by omega) g2 ⟨g, f, q⟩) (by omega)) 21 0 _ _ (by omega) (fun _ _ _ => rfl) (fun j hj => absurd hj (by omega)) (by omega)
  · refine r_iconst dX12_feed_18 ?_
    refine r_iret dX12_feed_19 rfl ?_
    exact ⟨_, rfl, kf (by omega) _ f⟩
theorem REL.feed {h g g0 g2 : Hp} (r : REL h) {a b c e z : Int} (hs : h 2 0 + 20 ≤ 500) (C : FEEDC h g a b c e z) (f : FrM g g0) (D : FEEDM g0 g2 a b c e z) : REL g2 := by
  obtain ⟨c1, c2, c3⟩ := C
  obtain ⟨d1, d2, d3⟩ := D
  have r0 := r
  obtain ⟨r1, r2, r3, r4, r5, r6, r7, r8, r9, r10⟩ := r
  have T : g0 49 1 = h 2 0 := by rw [f 49 1 rfl, c1 49 1 (by decide) (by omega)]; exact r2.2.2.1
  rw [T] at d1 d2 d3
  have K : ∀ p k, scrM p k = false → ¬ (p = 2 ∧ k = 0) → ¬ (p = 49 ∧ k = 1) → p ≠ 3 → p ≠ 50 → g2 p k = h p k := fun p k h0 h1 h2 h3 h4 => by rw [d1 p k h2 (by omega), f p k h0, c1 p k h1 (by omega)]
  have S2 : g2 2 0 = h 2 0 + 20 := by rw [d1 2 0 (by decide) (by omega), f 2 0 rfl, c2]
  have fr : FrM (fun p k => if p = 2 ∧ k = 0 then g2 2 0 else if p = 49 ∧ k = 1 then g2 49 1 else if p = 3 then g2 3 k else if p = 50 then g2 50 k else h p k) g2 := by
    intro p k q
    show g2 p k = if p = 2 ∧ k = 0 then g2 2 0 else if p = 49 ∧ k = 1 then g2 49 1 else if p = 3 then g2 3 k else if p = 50 then g2 50 k else h p k
    by_cases q1 : p = 2 ∧ k = 0
    · rw [if_pos q1, q1.1, q1.2]
    · rw [if_neg q1]
      by_cases q2 : p = 49 ∧ k = 1
      · rw [if_pos q2, q2.1, q2.2]
      · rw [if_neg q2]
        by_cases q3 : p = 3
        · rw [if_pos q3, q3]
        · rw [if_neg q3]
          by_cases q4 : p = 50
          · rw [if_pos q4, q4]
          · rw [if_neg q4]
            exact K p k q q1 q2 q3 q4
  refine fr.rel ⟨r1, ?_, r3, r4, r5, r6, r7, r8, r9, r10⟩
  refine ⟨show 0 ≤ g2 2 0 by omega, show g2 2 0 ≤ 500 by omega, show g2 49 1 = g2 2 0 by omega, ?_⟩
  intro j hj
  show -128 ≤ g2 3 j ∧ g2 3 j ≤ 127 ∧ g2 50 j = g2 3 j % 256
  rw [d1 3 j (by omega) (by omega), f 3 j rfl]
  by_cases q : (h 2 0).toNat ≤ j ∧ j < (h 2 0).toNat + 20
  · have u1 := c3 (j - (h 2 0).toNat) (by omega)
    have u2 := d3 (j - (h 2 0).toNat) (by omega)
    rw [show (h 2 0).toNat + (j - (h 2 0).toNat) = j by omega] at u1 u2
    rw [u1, u2, bmod_mod]
    have := bmod_r (bytF (argF a b c e z (j - (h 2 0).toNat)) (j - (h 2 0).toNat))
    exact ⟨this.1, this.2, rfl⟩
  · rw [c1 3 j (by omega) (by omega), d1 50 j (by omega) (by omega), f 50 j rfl, c1 50 j (by omega) (by omega)]
    exact r2.2.2.2 j hj
theorem pr_feed {d : Nat} (hd : 20 ≤ d) {a b c e z : Int} (ha : R32 a) (hb : R32 b) (hc : R32 c) (he : R32 e) (hz : R32 z) : PR d mX11_feed mX12_feed [.inl a, .inl b, .inl c, .inl e, .inl z] := by
  intro h r
  have r2 := r.2.1
  refine sp_X11_feed (by omega) ha hb hc he hz ⟨r2.1, r2.2.1⟩ (fun C g F => ?_) (fun C => ?_)
  · have q : ∀ k, g 49 k = h 49 k := fun k => F.1 49 k (by omega) (by omega)
    have m : MOK g := by
      have := q 3
      have := q 4
      have := q 5
      have := q 6
      have := q 7
      have := q 8
      have := r.1
      omega
    have q1 := q 1
    have t := r2.2.2.1
    refine sp_X12_feed (by omega) m ha hb hc he hz (by omega) (fun _ g2 ⟨g0, f, D⟩ => ⟨by omega, r.feed C F f D⟩) (fun D => absurd (show g 49 1 + 20 ≤ 500 by omega) D)
  · have t := r2.2.2.1
    exact sp_X12_feed (by omega) r.1.2.1 ha hb hc he hz (by omega) (fun D => absurd (show h 2 0 + 20 ≤ 500 by omega) C) (fun _ g f => ⟨rfl, f.rel r⟩)
