/-! THE PARSER OF THE REFERENCE -/
abbrev MX (h : Hp) (n : Nat) : Prop := h 49 13 = n ∧ n ≤ 500 ∧ MT h ∧ MWd h
abbrev MS (h : Hp) (n : Nat) (s : Sg) : Prop := MTs h n s.1 ∧ h 49 10 = s.2.1 ∧ h 49 11 = s.2.2 ∧ SgR n s
abbrev FrQ (h g : Hp) : Prop := ∀ a k, ¬ (a = 49 ∧ (k = 10 ∨ k = 11 ∨ k = 14 ∨ k = 15 ∨ k = 16 ∨ k = 17)) → g a k = h a k
theorem FrQ.rf {h : Hp} : FrQ h h := fun _ _ _ => rfl
theorem FrQ.tr {h g k : Hp} (f : FrQ h g) (f2 : FrQ g k) : FrQ h k := fun a q z => (f2 a q z).trans (f a q z)
theorem FrQ.b {h g : Hp} (f : FrQ h g) : g 3 = h 3 := funext fun j => f 3 j (by omega)
theorem FrQ.mx {h g : Hp} {n : Nat} (f : FrQ h g) (t : MX h n) : MX g n := ⟨(f 49 13 (by decide)).trans t.1, t.2.1, fun j hj => by rw [f.b, f 50 j (by omega)]; exact t.2.2.1 j hj, fun j hj => by rw [f 51 j (by omega)]; exact t.2.2.2 j hj⟩
theorem mK_i {b : Nat → Int} {n p : Nat} (h : p ≤ n) : (mK b n p = 3 ↔ tK b n p = 2) ∧ (mK b n p = 0 ↔ tK b n p = 0) ∧ (mK b n p = 4 ↔ (tK b n p = 40 ∨ tK b n p = 41 ∨ tK b n p = 45 ∨ tK b n p = 59)) ∧ (mK b n p = 1 ↔ (tK b n p = 1 ∧ 0 ≤ kwI b (tS b n p) (tE b n p))) ∧ (mK b n p = 2 ↔ nmP b n p) ∧ 0 ≤ mK b n p ∧ mK b n p ≤ 5 := by
  have t := tK_r (b := b) h
  unfold mK nmP
  repeat' split
  all_goals omega
theorem mW_2 {b : Nat → Int} {n p : Nat} (h : p ≤ n) (k : tK b n p = 2) : 0 ≤ mW b n p ∧ mW b n p ≤ 9999 ∧ tV b n p = min (mW b n p) 1000 := by
  have e1 : mW b n p = mvN b (tS b n p) (tE b n p - tS b n p) := by
    unfold mW
    rw [if_neg (by omega), if_pos k]
  have e2 : tV b n p = vlN b (tS b n p) (tE b n p - tS b n p) := if_pos k
  obtain ⟨a1, a2, a3, a4⟩ := tRun h (Or.inr k)
  have := mvN_r (b := b) (s := tS b n p) (j := tE b n p - tS b n p) (fun i hi => kd_2 ((a3 _ (by omega) (by omega)).trans k))
  rw [e1, e2]
  exact this
theorem mW_4 {b : Nat → Int} {n p : Nat} (h : p ≤ n) (k : tK b n p = 40 ∨ tK b n p = 41 ∨ tK b n p = 45 ∨ tK b n p = 59) : mW b n p = tK b n p := by
  have t := tK_r (b := b) h
  have ki := kd_i (b (tS b n p))
  unfold mW
  rw [if_neg (by omega), if_neg (by omega)]
  omega
theorem mW_1 {b : Nat → Int} {n p : Nat} (k : tK b n p = 1 ∧ 0 ≤ kwI b (tS b n p) (tE b n p)) : mW b n p = kwI b (tS b n p) (tE b n p) := by
  unfold mW
  rw [if_pos k.1, if_neg (by omega)]
theorem mW_n {b : Nat → Int} {n p : Nat} (k : nmP b n p) : mW b n p = pkF b (tS b n p) (tE b n p) := by
  unfold mW
  rw [if_pos k.1, if_pos ⟨k.2.2, k.2.1⟩]
theorem MS.step {h g : Hp} {n : Nat} {s : Sg} (p : MS h n s) (f : FrT h g) (t : MTs g n (tE (h 3) n s.1)) : MS g n (tE3 (h 3) n s) ∧ FrQ h g := by
  have er := tE_r (b := h 3) p.2.2.2.1
  refine ⟨⟨t, ?_, ?_, ?_⟩, fun a q z => f a q (by omega)⟩
  · rw [f 49 10 (by decide)]; exact p.2.1
  · rw [f 49 11 (by decide)]; exact p.2.2.1
  · have := p.2.2.2
    exact ⟨er.2.1, this.2⟩
theorem MS.up {h : Hp} {n : Nat} {s : Sg} {a k : Nat} {z : Int} (p : MS h n s) (h3 : a ≠ 3) (h49 : ¬ (a = 49 ∧ (k = 10 ∨ k = 11 ∨ k = 14 ∨ k = 15 ∨ k = 16 ∨ k = 17))) : MS (upH h a k z) n s := by
  have e3 : upH h a k z 3 = h 3 := funext fun j => up_nc (Ne.symm h3)
  have e : ∀ q, q = 10 ∨ q = 11 ∨ q = 14 ∨ q = 15 ∨ q = 16 ∨ q = 17 → upH h a k z 49 q = h 49 q := fun q hq => by
    unfold upH
    rw [if_neg (by omega)]
  refine ⟨⟨?_, ?_, ?_, ?_⟩, ?_, ?_, p.2.2.2⟩
  · rw [e 17 (by omega), e3]; exact p.1.1
  · rw [e 14 (by omega), e3]; exact p.1.2.1
  · rw [e 15 (by omega), e3]; exact p.1.2.2.1
  · rw [e 16 (by omega), e3]; exact p.1.2.2.2
  · rw [e 10 (by omega)]; exact p.2.1
  · rw [e 11 (by omega)]; exact p.2.2.1
theorem MX.up {h : Hp} {n : Nat} {a k : Nat} {z : Int} (t : MX h n) (h3 : a ≠ 3) (h50 : a ≠ 50) (h51 : a ≠ 51) (h49 : ¬ (a = 49 ∧ k = 13)) : MX (upH h a k z) n := by
  have e3 : upH h a k z 3 = h 3 := funext fun j => up_nc (Ne.symm h3)
  have e50 : upH h a k z 50 = h 50 := funext fun j => up_nc (Ne.symm h50)
  have e51 : upH h a k z 51 = h 51 := funext fun j => up_nc (Ne.symm h51)
  refine ⟨?_, t.2.1, fun j hj => by rw [e3, e50]; exact t.2.2.1 j hj, fun j hj => by rw [e51]; exact t.2.2.2 j hj⟩
  unfold upH
  rw [if_neg (by omega)]
  exact t.1
set_option maxRecDepth 20000 in
set_option maxHeartbeats 400000 in
theorem sp_X12_wrong {d : Nat} (hd : 1 ≤ d) {k0 : Int} {h : Hp} {n : Nat} {s : Sg} (hx : MX h n) (hp : MS h n s) (h0 : s.2.1 = 0) (hk : 1 ≤ k0 ∧ k0 ≤ 5) {P : Int → Hp → Prop} (k : ∀ h' : Hp, (FrQ h h') → (MS h' n (flS (h 3) n k0 s)) → P (0) h') : Cl d mX12_wrong [.inr (.inr 49), .inl k0] h (pI P) := by
  refine Cl.of (L := [some (.inr (.inr 49)), some (.inl k0)]) (by decide +kernel) (Nat.le_of_ble_eq_true rfl) rfl ?_
  have sr := hp.2.2.2
  have ts := tS_r (b := h 3) sr.1
  have nn := hx.2.1
  refine r_aload_n dX12_wrong_0 rfl rfl ?_
  refine r_iload_n dX12_wrong_1 rfl rfl ?_
  refine r_putI dX12_wrong_2 fl_X12_213 sh_49 rfl ?_
  refine r_aload_n dX12_wrong_5 rfl rfl ?_
  refine r_aload_n dX12_wrong_6 rfl rfl ?_
  refine r_getI dX12_wrong_7 fl_X12_216 sh_49 rfl ?_
  refine r_eqI (up_nk (by decide)) ?_
  refine r_putI dX12_wrong_10 fl_X12_32 sh_49 rfl ?_
  refine r_iconst dX12_wrong_13 ?_
  refine r_zret dX12_wrong_14 rfl (.inl rfl) ?_
  refine ⟨_, rfl, k _ (fun a q z => ?_) ?_⟩
  · unfold upH
    rw [if_neg (by omega), if_neg (by omega)]
  · have e : flS (h 3) n k0 s = (s.1, k0, (tS (h 3) n s.1 : Int)) := if_pos h0
    rw [e]
    refine ⟨⟨hp.1.1, hp.1.2.1, hp.1.2.2.1, hp.1.2.2.2⟩, rfl, hp.1.1, ?_⟩
    show s.1 ≤ n ∧ 0 ≤ k0 ∧ k0 ≤ 5 ∧ -1 ≤ (tS (h 3) n s.1 : Int) ∧ (tS (h 3) n s.1 : Int) ≤ 500
    omega
set_option maxRecDepth 20000 in
set_option maxHeartbeats 400000 in
theorem sp_X12_isSign {d : Nat} (hd : 1 ≤ d) {c : Int} {h : Hp} {n : Nat} {s : Sg} (hp : MS h n s) (hc : c = 40 ∨ c = 41 ∨ c = 45 ∨ c = 59) {P : Int → Hp → Prop} (kt : (tK (h 3) n s.1 = c) → P 1 h) (kf : ¬ (tK (h 3) n s.1 = c) → P 0 h) : Cl d mX12_isSign [.inr (.inr 49), .inl c] h (pI P) := by
  refine Cl.of (L := [some (.inr (.inr 49)), some (.inl c)]) (by decide +kernel) (Nat.le_of_ble_eq_true rfl) rfl ?_
  have q1 := hp.2.1
  have sr := hp.2.2.2
  have mk := hp.1.2.2.1
  have mi := mK_i (b := h 3) (n := n) sr.1
  have tr := tK_r (b := h 3) sr.1
  
  refine r_aload_n dX12_isSign_0 rfl rfl ?_
  refine r_getI dX12_isSign_1 fl_X12_225 sh_49 rfl ?_
  refine r_iconst dX12_isSign_4 ?_
  refine r_icmp_ne (tgt := 20) dX12_isSign_5 rfl (by omega) ⟨by decide, by decide⟩ (fun c_5 => ?_) (fun c_5 => ?_)
  · refine r_iconst dX12_isSign_20 ?_
    refine r_zret dX12_isSign_21 rfl (.inl rfl) ?_
    exact ⟨_, rfl, kf (by omega)⟩
  · have w4 := mW_4 (b := h 3) (n := n) sr.1 (by omega)
    have wh := hp.1.2.2.2 (by omega)
    refine r_aload_n dX12_isSign_8 rfl rfl ?_
    refine r_getI dX12_isSign_9 fl_X12_235 sh_49 rfl ?_
    refine r_iload_n dX12_isSign_12 rfl rfl ?_
    refine r_icmp_ne (tgt := 20) dX12_isSign_13 rfl (by omega) (by omega) (fun c_13 => ?_) (fun c_13 => ?_)
    · refine r_iconst dX12_isSign_20 ?_
      refine r_zret dX12_isSign_21 rfl (.inl rfl) ?_
      exact ⟨_, rfl, kf (by omega)⟩
    · refine r_iconst dX12_isSign_16 ?_
      refine r_goto (tgt := 21) dX12_isSign_17 rfl ?_
      refine r_zret dX12_isSign_21 rfl (.inr rfl) ?_
      exact ⟨_, rfl, kt (by omega)⟩
set_option maxRecDepth 20000 in
set_option maxHeartbeats 400000 in
theorem sp_X12_numberRead {d : Nat} (hd : 2 ≤ d) {lo hi : Int} {h : Hp} {n : Nat} {s : Sg} (hx : MX h n) (hp : MS h n s) (h0 : s.2.1 = 0) (hl : 0 ≤ lo ∧ lo ≤ 999) (hh : 0 ≤ hi ∧ hi ≤ 999) {P : Int → Hp → Prop} (k0 : (tK (h 3) n s.1 = 2 ∧ lo ≤ tV (h 3) n s.1 ∧ tV (h 3) n s.1 ≤ hi) → (h 49 16 = tV (h 3) n s.1) → P (1) h) (k1 : ∀ h' : Hp, (FrQ h h') → (MS h' n (nuS (h 3) n lo hi s)) → (¬ (nuS (h 3) n lo hi s).2.1 = 0) → P (0) h') : Cl d mX12_numberRead [.inr (.inr 49), .inl lo, .inl hi] h (pI P) := by
  refine Cl.of (L := [some (.inr (.inr 49)), some (.inl lo), some (.inl hi)]) (by decide +kernel) (Nat.le_of_ble_eq_true rfl) rfl ?_
  obtain ⟨d, rfl⟩ : ∃ q, d = q + 1 := ⟨d - 1, by omega⟩
  have q1 := hp.2.1
  have sr := hp.2.2.2
  have mk := hp.1.2.2.1
  have mi := mK_i (b := h 3) (n := n) sr.1
  have tr := tK_r (b := h 3) sr.1
  have ts := tS_r (b := h 3) sr.1
  refine r_aload_n dX12_numberRead_0 rfl rfl ?_
  refine r_getI dX12_numberRead_1 fl_X12_225 sh_49 rfl ?_
  refine r_iconst dX12_numberRead_4 ?_
  refine r_icmp_eq (tgt := 14) dX12_numberRead_5 rfl (by omega) ⟨by decide, by decide⟩ (fun c_5 => ?_) (fun c_5 => ?_)
  · have k2 : tK (h 3) n s.1 = 2 := by omega
    have w2 := mW_2 (b := h 3) (n := n) sr.1 k2
    have wh := hp.1.2.2.2 (by omega)
    refine r_aload_n dX12_numberRead_14 rfl rfl ?_
    refine r_getI dX12_numberRead_15 fl_X12_235 sh_49 rfl ?_
    refine r_iload_n dX12_numberRead_18 rfl rfl ?_
    refine r_icmp_lt (tgt := 30) dX12_numberRead_19 rfl (by omega) (by omega) (fun c_19 => ?_) (fun c_19 => ?_)
    · refine r_aload_n dX12_numberRead_30 rfl rfl ?_
      refine r_iconst dX12_numberRead_31 ?_
      refine r_callVI (av := [_]) (M' := mX12_wrong) dX12_numberRead_32 vX12_wrong ml_X12_247 sh_49 (by decide) rfl rfl rfl rfl (by simp [wtA]) (sp_X12_wrong (by omega) hx hp (by omega) (by omega) (fun h_32 f0_32 f1_32 => ?_))
      refine r_if_eq (tgt := 42) dX12_numberRead_35 rfl (by omega) (fun c_35 => ?_) (fun c_35 => absurd rfl c_35)
      refine r_iconst dX12_numberRead_42 ?_
      refine r_zret dX12_numberRead_43 rfl (.inl rfl) ?_
      have e : nuS (h 3) n lo hi s = flS (h 3) n 2 s := by
        unfold nuS flS
        rw [if_pos k2, if_neg (show ¬ (lo ≤ tV (h 3) n s.1 ∧ tV (h 3) n s.1 ≤ hi) by omega)]
      exact ⟨_, rfl, k1 _ f0_32 (by rw [e]; exact f1_32) (by rw [e]; exact flS_n (by decide))⟩
    · refine r_aload_n dX12_numberRead_22 rfl rfl ?_
      refine r_getI dX12_numberRead_23 fl_X12_235 sh_49 rfl ?_
      refine r_iload_n dX12_numberRead_26 rfl rfl ?_
      refine r_icmp_le (tgt := 38) dX12_numberRead_27 rfl (by omega) (by omega) (fun c_27 => ?_) (fun c_27 => ?_)
      · refine r_iconst dX12_numberRead_38 ?_
        refine r_goto (tgt := 43) dX12_numberRead_39 rfl ?_
        refine r_zret dX12_numberRead_43 rfl (.inr rfl) ?_
        exact ⟨_, rfl, k0 (by omega) (by omega)⟩
      · refine r_aload_n dX12_numberRead_30 rfl rfl ?_
        refine r_iconst dX12_numberRead_31 ?_
        refine r_callVI (av := [_]) (M' := mX12_wrong) dX12_numberRead_32 vX12_wrong ml_X12_247 sh_49 (by decide) rfl rfl rfl rfl (by simp [wtA]) (sp_X12_wrong (by omega) hx hp (by omega) (by omega) (fun h_32 f0_32 f1_32 => ?_))
        refine r_if_eq (tgt := 42) dX12_numberRead_35 rfl (by omega) (fun c_35 => ?_) (fun c_35 => absurd rfl c_35)
        refine r_iconst dX12_numberRead_42 ?_
        refine r_zret dX12_numberRead_43 rfl (.inl rfl) ?_
        have e : nuS (h 3) n lo hi s = flS (h 3) n 2 s := by
          unfold nuS flS
          rw [if_pos k2, if_neg (show ¬ (lo ≤ tV (h 3) n s.1 ∧ tV (h 3) n s.1 ≤ hi) by omega)]
        exact ⟨_, rfl, k1 _ f0_32 (by rw [e]; exact f1_32) (by rw [e]; exact flS_n (by decide))⟩
  · refine r_aload_n dX12_numberRead_8 rfl rfl ?_
    refine r_iconst dX12_numberRead_9 ?_
    refine r_callVI (av := [_]) (M' := mX12_wrong) dX12_numberRead_10 vX12_wrong ml_X12_247 sh_49 (by decide) rfl rfl rfl rfl (by simp [wtA]) (sp_X12_wrong (by omega) hx hp (by omega) (by omega) (fun h_10 f0_10 f1_10 => ?_))
    refine r_zret dX12_numberRead_13 rfl (.inl rfl) ?_
    have e : nuS (h 3) n lo hi s = flS (h 3) n 1 s := by
      unfold nuS flS
      rw [if_neg (show ¬ tK (h 3) n s.1 = 2 by omega)]
    exact ⟨_, rfl, k1 _ f0_10 (by rw [e]; exact f1_10) (by rw [e]; exact flS_n (by decide))⟩
set_option maxRecDepth 20000 in
set_option maxHeartbeats 400000 in
theorem sp_X12_told {d : Nat} (hd : 5 ≤ d) {lo hi : Int} {h : Hp} {n a q : Nat} {s : Sg} (hx : MX h n) (hp : MS h n s) (h0 : s.2.1 = 0) (ha : a < 60) (hq : q < 5) (hl : 0 ≤ lo ∧ lo ≤ 999) (hh : 0 ≤ hi ∧ hi ≤ 999) {P : Int → Hp → Prop} (k0 : ∀ h' : Hp, (∀ x k, ¬ (x = 49 ∧ (k = 10 ∨ k = 11 ∨ k = 14 ∨ k = 15 ∨ k = 16 ∨ k = 17)) → ¬ (x = 53 ∧ k = 5 * a + q) → h' x k = h x k) → (MS h' n (nuS (h 3) n lo hi s)) → (h' 53 (5 * a + q) = nuV (h 3) n lo hi s) → ((nuS (h 3) n lo hi s).2.1 = 0) → P (1) h') (k1 : ∀ h' : Hp, (FrQ h h') → (MS h' n (nuS (h 3) n lo hi s)) → (¬ (nuS (h 3) n lo hi s).2.1 = 0) → P (0) h') : Cl d mX12_told [.inr (.inr 49), .inl (a : Int), .inl (q : Int), .inl lo, .inl hi] h (pI P) := by
  refine Cl.of (L := [some (.inr (.inr 49)), some (.inl (a : Int)), some (.inl (q : Int)), some (.inl lo), some (.inl hi)]) (by decide +kernel) (Nat.le_of_ble_eq_true rfl) rfl ?_
  obtain ⟨d, rfl⟩ : ∃ q, d = q + 1 := ⟨d - 1, by omega⟩
  refine r_aload_n dX12_told_0 rfl rfl ?_
  refine r_iload_n dX12_told_1 rfl rfl ?_
  refine r_iload dX12_told_2 rfl ?_
  refine r_callVI (av := [_, _]) (M' := mX12_numberRead) dX12_told_4 vX12_numberRead ml_X12_250 sh_49 (by decide) rfl rfl rfl rfl (by simp [wtA]) (sp_X12_numberRead (by omega) hx hp (by omega) (by omega) (by omega) (fun f0_4 f1_4 => ?_) (fun h_4 f0_4 f1_4 f2_4 => ?_))
  · refine r_if_ne (tgt := 12) dX12_told_7 rfl ⟨by decide, by decide⟩ (fun c_7 => ?_) (fun c_7 => absurd c_7 (by decide))
    refine r_aload_n dX12_told_12 rfl rfl ?_
    refine r_getR dX12_told_13 fl_X12_38 sh_49 rfl ?_
    refine r_iconst dX12_told_16 ?_
    refine r_iload_n dX12_told_17 rfl rfl ?_
    refine r_imul dX12_told_18 ?_
    refine r_iload_n dX12_told_19 rfl rfl ?_
    refine r_iadd dX12_told_20 ?_
    refine r_aload_n dX12_told_21 rfl rfl ?_
    refine r_getI dX12_told_22 fl_X12_235 sh_49 rfl ?_
    refine r_iast dX12_told_25 sh_53 (by decide) (by omega) ?_
    rw [show (5 * (a : Int) + (q : Int)).toNat = 5 * a + q by omega, f1_4]
    refine r_gh (fun g eg => ?_)
    have gp : MS g n s := by rw [eg]; exact hp.up (by decide) (by omega)
    have gx : MX g n := by rw [eg]; exact hx.up (by decide) (by decide) (by decide) (by omega)
    have g3 : g 3 = h 3 := by rw [eg]; rfl
    refine r_aload_n dX12_told_26 rfl rfl ?_
    refine r_callVU (av := []) (M' := mX12_take) dX12_told_27 vX12_take ml_X12_253 sh_49 (by decide) rfl rfl rfl rfl (by simp [wtA]) (sp_X12_take (n := n) (p := tE (g 3) n s.1) (by omega) ⟨gx.1, gx.2.1⟩ ⟨gp.1.2.1, (tE_r gp.2.2.2.1).2.1⟩ gx.2.2.1 gx.2.2.2 (fun h_27 f0_27 f1_27 => ?_))
    refine r_iconst dX12_told_30 ?_
    refine r_zret dX12_told_31 rfl (.inr rfl) ?_
    have st := gp.step f0_27 f1_27
    rw [g3] at st
    have e : nuS (h 3) n lo hi s = tE3 (h 3) n s := by
      unfold nuS
      rw [if_pos h0, if_pos f0_4.1, if_pos f0_4.2]
      unfold tE3
      rw [h0]
    refine ⟨_, rfl, k0 _ (fun x z z1 z2 => ?_) (by rw [e]; exact st.1) ?_ (by rw [e]; exact h0)⟩
    · rw [st.2 x z z1, eg]
      unfold upH
      rw [if_neg z2]
    · rw [st.2 53 _ (by omega), eg, up_s]
      unfold nuV
      rw [if_pos ⟨h0, f0_4.1, f0_4.2⟩]
  · refine r_if_ne (tgt := 12) dX12_told_7 rfl ⟨by decide, by decide⟩ (fun c_7 => absurd c_7 (by decide)) (fun c_7 => ?_)
    refine r_iconst dX12_told_10 ?_
    refine r_zret dX12_told_11 rfl (.inl rfl) ?_
    exact ⟨_, rfl, k1 _ f0_4 f1_4 f2_4⟩
set_option maxRecDepth 20000 in
set_option maxHeartbeats 400000 in
theorem sp_X12_ended {d : Nat} (hd : 5 ≤ d) {h : Hp} {n : Nat} {s : Sg} (hx : MX h n) (hp : MS h n s) (h0 : s.2.1 = 0) {P : Int → Hp → Prop} (k0 : ∀ h' : Hp, (FrQ h h') → (MS h' n (siS (h 3) n 59 s)) → ((siS (h 3) n 59 s).2.1 = 0) → P (1) h') (k1 : ∀ h' : Hp, (FrQ h h') → (MS h' n (siS (h 3) n 59 s)) → (¬ (siS (h 3) n 59 s).2.1 = 0) → P (0) h') : Cl d mX12_ended [.inr (.inr 49)] h (pI P) := by
  refine Cl.of (L := [some (.inr (.inr 49))]) (by decide +kernel) (Nat.le_of_ble_eq_true rfl) rfl ?_
  obtain ⟨d, rfl⟩ : ∃ q, d = q + 1 := ⟨d - 1, by omega⟩
  refine r_aload_n dX12_ended_0 rfl rfl ?_
  refine r_bipush dX12_ended_1 (by decide +kernel) ?_
  refine r_callVI (av := [_]) (M' := mX12_isSign) dX12_ended_3 vX12_isSign ml_X12_256 sh_49 (by decide) rfl rfl rfl rfl (by simp [wtA]) (sp_X12_isSign (by omega) hp (by omega) (fun b_3 => ?_) (fun b_3 => ?_))
  · refine r_if_ne (tgt := 15) dX12_ended_6 rfl ⟨by decide, by decide⟩ (fun c_6 => ?_) (fun c_6 => absurd c_6 (by decide))
    refine r_aload_n dX12_ended_15 rfl rfl ?_
    refine r_callVU (av := []) (M' := mX12_take) dX12_ended_16 vX12_take ml_X12_253 sh_49 (by decide) rfl rfl rfl rfl (by simp [wtA]) (sp_X12_take (n := n) (p := tE (h 3) n s.1) (by omega) ⟨hx.1, hx.2.1⟩ ⟨hp.1.2.1, (tE_r hp.2.2.2.1).2.1⟩ hx.2.2.1 hx.2.2.2 (fun h_16 f0_16 f1_16 => ?_))
    refine r_iconst dX12_ended_19 ?_
    refine r_zret dX12_ended_20 rfl (.inr rfl) ?_
    have st := hp.step f0_16 f1_16
    have e : siS (h 3) n 59 s = tE3 (h 3) n s := by
      unfold siS
      rw [if_pos h0, if_pos b_3]
      unfold tE3
      rw [h0]
    exact ⟨_, rfl, k0 _ st.2 (by rw [e]; exact st.1) (by rw [e]; exact h0)⟩
  · refine r_if_ne (tgt := 15) dX12_ended_6 rfl ⟨by decide, by decide⟩ (fun c_6 => absurd c_6 (by decide)) (fun c_6 => ?_)
    refine r_aload_n dX12_ended_9 rfl rfl ?_
    refine r_iconst dX12_ended_10 ?_
    refine r_callVI (av := [_]) (M' := mX12_wrong) dX12_ended_11 vX12_wrong ml_X12_247 sh_49 (by decide) rfl rfl rfl rfl (by simp [wtA]) (sp_X12_wrong (by omega) hx hp (by omega) (by omega) (fun h_11 f0_11 f1_11 => ?_))
    refine r_zret dX12_ended_14 rfl (.inl rfl) ?_
    have e : siS (h 3) n 59 s = flS (h 3) n 1 s := by
      unfold siS flS
      rw [if_neg b_3]
    exact ⟨_, rfl, k1 _ f0_11 (by rw [e]; exact f1_11) (by rw [e]; exact flS_n (by decide))⟩
set_option maxRecDepth 20000 in
set_option maxHeartbeats 400000 in
theorem sp_X12_signed {d : Nat} (hd : 6 ≤ d) {h : Hp} {n a q : Nat} {s : Sg} (hx : MX h n) (hp : MS h n s) (h0 : s.2.1 = 0) (ha : a < 60) (hq : q < 5) {P : Int → Hp → Prop} (k0 : ∀ h' : Hp, (∀ x k, ¬ (x = 49 ∧ (k = 10 ∨ k = 11 ∨ k = 14 ∨ k = 15 ∨ k = 16 ∨ k = 17)) → ¬ (x = 53 ∧ k = 5 * a + q) → h' x k = h x k) → (MS h' n (sdS (h 3) n s)) → (h' 53 (5 * a + q) = sdV (h 3) n s) → ((sdS (h 3) n s).2.1 = 0) → P (1) h') (k1 : ∀ h' : Hp, (FrQ h h') → (MS h' n (sdS (h 3) n s)) → (¬ (sdS (h 3) n s).2.1 = 0) → P (0) h') : Cl d mX12_signed [.inr (.inr 49), .inl (a : Int), .inl (q : Int)] h (pI P) := by
  refine Cl.of (L := [some (.inr (.inr 49)), some (.inl (a : Int)), some (.inl (q : Int)), none]) (by decide +kernel) (Nat.le_of_ble_eq_true rfl) rfl ?_
  obtain ⟨d, rfl⟩ : ∃ q, d = q + 1 := ⟨d - 1, by omega⟩
  refine r_aload_n dX12_signed_0 rfl rfl ?_
  refine r_bipush dX12_signed_1 (by decide +kernel) ?_
  refine r_callVI (av := [_]) (M' := mX12_isSign) dX12_signed_3 vX12_isSign ml_X12_256 sh_49 (by decide) rfl rfl rfl rfl (by simp [wtA]) (sp_X12_isSign (by omega) hp (by omega) (fun b_3 => ?_) (fun b_3 => ?_))
  · refine r_istore_n (L' := [_, _, _, _]) dX12_signed_6 rfl rfl (by decide) rfl ?_
    refine r_iload_n dX12_signed_7 rfl rfl ?_
    refine r_if_eq (tgt := 15) dX12_signed_8 rfl ⟨by decide, by decide⟩ (fun c_8 => absurd c_8 (by decide)) (fun c_8 => ?_)
    refine r_aload_n dX12_signed_11 rfl rfl ?_
    refine r_callVU (av := []) (M' := mX12_take) dX12_signed_12 vX12_take ml_X12_253 sh_49 (by decide) rfl rfl rfl rfl (by simp [wtA]) (sp_X12_take (n := n) (p := tE (h 3) n s.1) (by omega) ⟨hx.1, hx.2.1⟩ ⟨hp.1.2.1, (tE_r hp.2.2.2.1).2.1⟩ hx.2.2.1 hx.2.2.2 (fun h_12 f0_12 f1_12 => ?_))
    have st := hp.step f0_12 f1_12
    have em : mnS (h 3) n s = tE3 (h 3) n s := by
      unfold mnS
      rw [if_pos ⟨h0, b_3⟩]
      unfold tE3
      rw [h0]
    have x12 := st.2.mx hx
    have p12 := st.1
    have z12 : (tE3 (h 3) n s).2.1 = 0 := h0
    have d3 := st.2.b
    have d12 := st.2
    refine r_aload_n dX12_signed_15 rfl rfl ?_
    refine r_iload_n dX12_signed_16 rfl rfl ?_
    refine r_iload_n dX12_signed_17 rfl rfl ?_
    refine r_iconst dX12_signed_18 ?_
    refine r_sipush dX12_signed_19 (by decide +kernel) ?_
    refine r_callVI (av := [_, _, _, _]) (M' := mX12_told) dX12_signed_22 vX12_told ml_X12_259 sh_49 (by decide) rfl rfl rfl rfl (by simp [wtA]) (sp_X12_told (n := n) (a := a) (q := q) (s := tE3 (h 3) n s) (by omega) x12 p12 z12 (by omega) (by omega) (by decide) (by decide) (fun h_22 f0_22 f1_22 f2_22 f3_22 => ?_) (fun h_22 f0_22 f1_22 f2_22 => ?_))
    · refine r_if_ne (tgt := 30) dX12_signed_25 rfl ⟨by decide, by decide⟩ (fun c_25 => ?_) (fun c_25 => absurd c_25 (by decide))
      refine r_iload_n dX12_signed_30 rfl rfl ?_
      refine r_if_eq (tgt := 55) dX12_signed_31 rfl ⟨by decide, by decide⟩ (fun c_31 => absurd c_31 (by decide)) (fun c_31 => ?_)
      refine r_aload_n dX12_signed_34 rfl rfl ?_
      refine r_getR dX12_signed_35 fl_X12_38 sh_49 rfl ?_
      refine r_iconst dX12_signed_38 ?_
      refine r_iload_n dX12_signed_39 rfl rfl ?_
      refine r_imul dX12_signed_40 ?_
      refine r_iload_n dX12_signed_41 rfl rfl ?_
      refine r_iadd dX12_signed_42 ?_
      refine r_aload_n dX12_signed_43 rfl rfl ?_
      refine r_getR dX12_signed_44 fl_X12_38 sh_49 rfl ?_
      refine r_iconst dX12_signed_47 ?_
      refine r_iload_n dX12_signed_48 rfl rfl ?_
      refine r_imul dX12_signed_49 ?_
      refine r_iload_n dX12_signed_50 rfl rfl ?_
      refine r_iadd dX12_signed_51 ?_
      refine r_iald dX12_signed_52 sh_53 (by decide) (by omega) ?_
      refine r_ineg dX12_signed_53 ?_
      refine r_iast dX12_signed_54 sh_53 (by decide) (by omega) ?_
      refine r_iconst dX12_signed_55 ?_
      refine r_zret dX12_signed_56 rfl (.inr rfl) ?_
      rw [d3, ← em] at f1_22 f2_22 f3_22
      refine ⟨_, rfl, k0 _ (fun x z z1 z2 => ?_) (f1_22.up (by decide) (by omega)) ?_ f3_22⟩
      · rw [show (5 * (a : Int) + (q : Int)).toNat = 5 * a + q by omega]
        unfold upH
        rw [if_neg z2, f0_22 x z z1 z2]
        exact d12 x z z1
      · rw [show (5 * (a : Int) + (q : Int)).toNat = 5 * a + q by omega, up_s, f2_22]
        unfold sdV
        rw [if_pos ⟨h0, b_3⟩]
    · refine r_if_ne (tgt := 30) dX12_signed_25 rfl ⟨by decide, by decide⟩ (fun c_25 => absurd c_25 (by decide)) (fun c_25 => ?_)
      refine r_iconst dX12_signed_28 ?_
      refine r_zret dX12_signed_29 rfl (.inl rfl) ?_
      rw [d3, ← em] at f1_22 f2_22
      exact ⟨_, rfl, k1 _ (d12.tr f0_22) f1_22 f2_22⟩
  · refine r_istore_n (L' := [_, _, _, _]) dX12_signed_6 rfl rfl (by decide) rfl ?_
    refine r_iload_n dX12_signed_7 rfl rfl ?_
    refine r_if_eq (tgt := 15) dX12_signed_8 rfl ⟨by decide, by decide⟩ (fun c_8 => ?_) (fun c_8 => absurd c_8 (by decide))
    have em : mnS (h 3) n s = s := by
      unfold mnS
      rw [if_neg (fun z => b_3 z.2)]
    refine r_aload_n dX12_signed_15 rfl rfl ?_
    refine r_iload_n dX12_signed_16 rfl rfl ?_
    refine r_iload_n dX12_signed_17 rfl rfl ?_
    refine r_iconst dX12_signed_18 ?_
    refine r_sipush dX12_signed_19 (by decide +kernel) ?_
    refine r_callVI (av := [_, _, _, _]) (M' := mX12_told) dX12_signed_22 vX12_told ml_X12_259 sh_49 (by decide) rfl rfl rfl rfl (by simp [wtA]) (sp_X12_told (n := n) (a := a) (q := q) (s := s) (by omega) hx hp h0 (by omega) (by omega) (by decide) (by decide) (fun h_22 f0_22 f1_22 f2_22 f3_22 => ?_) (fun h_22 f0_22 f1_22 f2_22 => ?_))
    · refine r_if_ne (tgt := 30) dX12_signed_25 rfl ⟨by decide, by decide⟩ (fun c_25 => ?_) (fun c_25 => absurd c_25 (by decide))
      refine r_iload_n dX12_signed_30 rfl rfl ?_
      refine r_if_eq (tgt := 55) dX12_signed_31 rfl ⟨by decide, by decide⟩ (fun c_31 => ?_) (fun c_31 => absurd c_31 (by decide))
      refine r_iconst dX12_signed_55 ?_
      refine r_zret dX12_signed_56 rfl (.inr rfl) ?_
      rw [← em] at f1_22 f2_22 f3_22
      refine ⟨_, rfl, k0 _ f0_22 f1_22 ?_ f3_22⟩
      rw [f2_22]
      unfold sdV
      rw [if_neg (fun z => b_3 z.2)]
    · refine r_if_ne (tgt := 30) dX12_signed_25 rfl ⟨by decide, by decide⟩ (fun c_25 => absurd c_25 (by decide)) (fun c_25 => ?_)
      refine r_iconst dX12_signed_28 ?_
      refine r_zret dX12_signed_29 rfl (.inl rfl) ?_
      rw [← em] at f1_22 f2_22
      exact ⟨_, rfl, k1 _ f0_22 f1_22 f2_22⟩
set_option maxRecDepth 20000 in
set_option maxHeartbeats 400000 in
theorem lp_formOf {d : Nat} {P : Int → Hp → Prop} {h : Hp} {F : Nat} {z : Int} (hF : h 49 24 = F ∧ F ≤ 8) (hz : R32 z) (hn : ∀ k : Nat, k < F → R32 (h 56 k)) : ∀ (nn : Nat) (m j : Nat), (j + m = F) → (P (fiN (h 56) z j m) h) → m < nn → WW mX12_formOf (d + 1) (pI P) 2 [some (.inr (.inr 49)), some (.inl z), some (.inl (j : Int))] [] h := by
  intro nn
  induction nn with
  | zero => intro m j hj k; intros; omega
  | succ nn ih =>
    intro m j hj k hmu
    have ej : ((j : Int)).toNat = j := Int.toNat_natCast j
    refine r_iload_n dX12_formOf_2 rfl rfl ?_
    refine r_aload_n dX12_formOf_3 rfl rfl ?_
    refine r_getI dX12_formOf_4 fl_X12_244 sh_49 rfl ?_
    refine r_icmp_ge (tgt := 28) dX12_formOf_7 rfl (by omega) (by omega) (fun c_7 => ?_) (fun c_7 => ?_)
    · refine r_iconst dX12_formOf_28 ?_
      refine r_iret dX12_formOf_29 rfl ?_
      have m0 : m = 0 := by omega
      subst m0
      exact ⟨_, rfl, k⟩
    · have nj := hn j (by omega)
      rw [← ej] at nj
      refine r_aload_n dX12_formOf_10 rfl rfl ?_
      refine r_getR dX12_formOf_11 fl_X12_47 sh_49 rfl ?_
      refine r_iload_n dX12_formOf_14 rfl rfl ?_
      refine r_iald dX12_formOf_15 sh_56 (by decide) (by omega) ?_
      refine r_iload_n dX12_formOf_16 rfl rfl ?_
      refine r_icmp_ne (tgt := 22) dX12_formOf_17 rfl (by omega) (by omega) (fun c_17 => ?_) (fun c_17 => ?_)
      · refine r_iinc (L' := [_, _, _]) dX12_formOf_22 rfl rfl (by decide) rfl ?_
        refine r_goto (tgt := 2) dX12_formOf_25 rfl ?_
        obtain ⟨m, rfl⟩ : ∃ q, m = q + 1 := ⟨m - 1, by omega⟩
        rw [ej] at c_17
        rw [fiN, if_neg (by omega)] at k
        exact ih m (j + 1) (by omega) k (by omega)
      · refine r_iload_n dX12_formOf_20 rfl rfl ?_
        refine r_iret dX12_formOf_21 rfl ?_
        obtain ⟨m, rfl⟩ : ∃ q, m = q + 1 := ⟨m - 1, by omega⟩
        rw [ej] at c_17
        rw [fiN, if_pos (by omega)] at k
        exact ⟨_, rfl, k⟩
set_option maxRecDepth 20000 in
set_option maxHeartbeats 400000 in
theorem sp_X12_formOf {d : Nat} (hd : 2 ≤ d) {z : Int} {h : Hp} {F : Nat} (hF : h 49 24 = F ∧ F ≤ 8) (hz : R32 z) (hn : ∀ k : Nat, k < F → R32 (h 56 k)) {P : Int → Hp → Prop} (k : P (fiN (h 56) z 0 F) (h)) : Cl d mX12_formOf [.inr (.inr 49), .inl z] h (pI P) := by
  refine Cl.of (L := [some (.inr (.inr 49)), some (.inl z), none]) (by decide +kernel) (Nat.le_of_ble_eq_true rfl) rfl ?_
  obtain ⟨d, rfl⟩ : ∃ q, d = q + 1 := ⟨d - 1, by omega⟩
  refine r_iconst dX12_formOf_0 ?_
  refine r_istore_n (L' := [_, _, _]) dX12_formOf_1 rfl rfl (by decide) rfl ?_
  exact lp_formOf hF hz hn 9 F 0 (by omega) k (by omega)
