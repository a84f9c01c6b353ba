/-! THE PARSER: its state (place ahead of the token at hand, fault, the fault's place), and what it does to it -/
abbrev Sg : Type := Nat × Int × Int
def flS (b : Nat → Int) (n : Nat) (k : Int) (s : Sg) : Sg := if s.2.1 = 0 then (s.1, k, (tS b n s.1 : Int)) else s
def nuS (b : Nat → Int) (n : Nat) (lo hi : Int) (s : Sg) : Sg := if s.2.1 = 0 then (if tK b n s.1 = 2 then (if lo ≤ tV b n s.1 ∧ tV b n s.1 ≤ hi then (tE b n s.1, 0, s.2.2) else (s.1, 2, (tS b n s.1 : Int))) else (s.1, 1, (tS b n s.1 : Int))) else s
def nuV (b : Nat → Int) (n : Nat) (lo hi : Int) (s : Sg) : Int := if s.2.1 = 0 ∧ tK b n s.1 = 2 ∧ lo ≤ tV b n s.1 ∧ tV b n s.1 ≤ hi then tV b n s.1 else 0
def siS (b : Nat → Int) (n : Nat) (c : Int) (s : Sg) : Sg := if s.2.1 = 0 then (if tK b n s.1 = c then (tE b n s.1, 0, s.2.2) else (s.1, 1, (tS b n s.1 : Int))) else s
def abS (b : Nat → Int) (n : Nat) (fl : Int) (s : Sg) : Sg := if s.2.1 = 0 ∧ tK b n s.1 = 2 ∧ tV b n s.1 ≤ fl then (s.1, 5, (tS b n s.1 : Int)) else s
def mnS (b : Nat → Int) (n : Nat) (s : Sg) : Sg := if s.2.1 = 0 ∧ tK b n s.1 = 45 then (tE b n s.1, 0, s.2.2) else s
def sdS (b : Nat → Int) (n : Nat) (s : Sg) : Sg := nuS b n 0 999 (mnS b n s)
def sdV (b : Nat → Int) (n : Nat) (s : Sg) : Int := if s.2.1 = 0 ∧ tK b n s.1 = 45 then -nuV b n 0 999 (mnS b n s) else nuV b n 0 999 (mnS b n s)
abbrev TX (h : Hp) (n : Nat) : Prop := h 2 5 = n ∧ n ≤ 500 ∧ BY (h 3)
abbrev SgR (n : Nat) (s : Sg) : Prop := s.1 ≤ n ∧ 0 ≤ s.2.1 ∧ s.2.1 ≤ 5 ∧ -1 ≤ s.2.2 ∧ s.2.2 ≤ 500
abbrev PS (h : Hp) (n : Nat) (s : Sg) : Prop := TKs h n s.1 ∧ h 14 2 = s.2.1 ∧ h 14 3 = s.2.2 ∧ SgR n s
abbrev FrP (h g : Hp) : Prop := ∀ a k, ¬ (a = 2 ∧ (k = 1 ∨ k = 2 ∨ k = 3 ∨ k = 4)) → ¬ (a = 14 ∧ (k = 2 ∨ k = 3)) → g a k = h a k
theorem FrP.rf {h : Hp} : FrP h h := fun _ _ _ _ => rfl
theorem FrP.tr {h g k : Hp} (f : FrP h g) (f2 : FrP g k) : FrP h k := fun a q z y => (f2 a q z y).trans (f a q z y)
theorem FrP.b {h g : Hp} (f : FrP h g) : g 3 = h 3 := funext fun j => f 3 j (by omega) (by omega)
theorem FrP.tx {h g : Hp} {n : Nat} (f : FrP h g) (t : TX h n) : TX g n := ⟨(f 2 5 (by decide) (by decide)).trans t.1, t.2.1, by rw [f.b]; exact t.2.2⟩
theorem nuV_r {b : Nat → Int} {n : Nat} {lo hi : Int} {s : Sg} (h1 : 0 ≤ lo) (h2 : 0 ≤ hi) : 0 ≤ nuV b n lo hi s ∧ nuV b n lo hi s ≤ hi := by
  unfold nuV
  split <;> omega
theorem nuV_lo {b : Nat → Int} {n : Nat} {lo hi : Int} {s : Sg} (h : (nuS b n lo hi s).2.1 = 0) : lo ≤ nuV b n lo hi s := by
  unfold nuS at h
  unfold nuV
  by_cases a : s.2.1 = 0
  · rw [if_pos a] at h
    by_cases c : tK b n s.1 = 2
    · rw [if_pos c] at h
      by_cases e : lo ≤ tV b n s.1 ∧ tV b n s.1 ≤ hi
      · rw [if_pos ⟨a, c, e⟩]
        exact e.1
      · rw [if_neg e] at h
        exact absurd (show (2 : Int) = 0 from h) (by decide)
    · rw [if_neg c] at h
      exact absurd (show (1 : Int) = 0 from h) (by decide)
  · rw [if_neg a] at h
    exact absurd h a
theorem flS_n {b : Nat → Int} {n : Nat} {k : Int} {s : Sg} (hk : 1 ≤ k) : ¬ (flS b n k s).2.1 = 0 := by
  unfold flS
  by_cases a : s.2.1 = 0
  · rw [if_pos a]
    show ¬ k = 0
    omega
  · rw [if_neg a]
    exact a
theorem sdV_r {b : Nat → Int} {n : Nat} {s : Sg} : -999 ≤ sdV b n s ∧ sdV b n s ≤ 999 := by
  have := nuV_r (b := b) (n := n) (lo := 0) (hi := 999) (s := mnS b n s) (by decide) (by decide)
  unfold sdV
  split <;> omega
/-- behind a fault nothing more is taken -/
theorem nuS_f {b : Nat → Int} {n : Nat} {lo hi : Int} {s : Sg} (h : ¬ s.2.1 = 0) : nuS b n lo hi s = s := if_neg h
theorem siS_f {b : Nat → Int} {n : Nat} {c : Int} {s : Sg} (h : ¬ s.2.1 = 0) : siS b n c s = s := if_neg h
theorem flS_f {b : Nat → Int} {n : Nat} {c : Int} {s : Sg} (h : ¬ s.2.1 = 0) : flS b n c s = s := if_neg h
theorem abS_f {b : Nat → Int} {n : Nat} {c : Int} {s : Sg} (h : ¬ s.2.1 = 0) : abS b n c s = s := if_neg (fun z => h z.1)
theorem mnS_f {b : Nat → Int} {n : Nat} {s : Sg} (h : ¬ s.2.1 = 0) : mnS b n s = s := if_neg (fun z => h z.1)
theorem sdS_f {b : Nat → Int} {n : Nat} {s : Sg} (h : ¬ s.2.1 = 0) : sdS b n s = s := by unfold sdS; rw [mnS_f h, nuS_f h]
theorem PS.up {h : Hp} {n : Nat} {s : Sg} {a k : Nat} {z : Int} (p : PS h n s) (h2 : a ≠ 2) (h3 : a ≠ 3) (h14 : ¬ (a = 14 ∧ (k = 2 ∨ k = 3))) : PS (upH h a k z) n s := by
  have e3 : upH h a k z 3 = h 3 := funext fun j => up_nc (Ne.symm h3)
  have e14 : ∀ q, q = 2 ∨ q = 3 → upH h a k z 14 q = h 14 q := fun q hq => by
    unfold upH
    rw [if_neg (by omega)]
  refine ⟨⟨?_, ?_, ?_, ?_⟩, ?_, ?_, p.2.2.2⟩
  · rw [up_nc (Ne.symm h2), e3]; exact p.1.1
  · rw [up_nc (Ne.symm h2), e3]; exact p.1.2.1
  · rw [up_nc (Ne.symm h2), e3]; exact p.1.2.2.1
  · rw [up_nc (Ne.symm h2), e3]; exact p.1.2.2.2
  · rw [e14 2 (by omega)]; exact p.2.1
  · rw [e14 3 (by omega)]; exact p.2.2.1
theorem TX.up {h : Hp} {n : Nat} {a k : Nat} {z : Int} (p : TX h n) (h2 : a ≠ 2) (h3 : a ≠ 3) : TX (upH h a k z) n := ⟨by rw [up_nc (Ne.symm h2)]; exact p.1, p.2.1, by rw [show upH h a k z 3 = h 3 from funext fun j => up_nc (Ne.symm h3)]; exact p.2.2⟩
theorem PS.r {h : Hp} {n : Nat} {s : Sg} (p : PS h n s) : (0 ≤ h 2 1 ∧ h 2 1 ≤ 59) ∧ (0 ≤ h 2 2 ∧ h 2 2 ≤ h 2 3 ∧ h 2 3 ≤ n) ∧ (0 ≤ h 2 4 ∧ h 2 4 ≤ 1000) ∧ (0 ≤ h 14 2 ∧ h 14 2 ≤ 5) := by
  obtain ⟨⟨p1, p2, p3, p4⟩, p5, p6, p7⟩ := p
  have a := tK_r (b := h 3) p7.1
  have c := tE_r (b := h 3) p7.1
  have e := tV_r (b := h 3) p7.1
  omega
set_option maxRecDepth 20000 in
set_option maxHeartbeats 400000 in
theorem sp_X3_fail {d : Nat} (hd : 1 ≤ d) {k0 : Int} {h : Hp} {n : Nat} {s : Sg} (hx : TX h n) (hp : PS h n s) (hk : 1 ≤ k0 ∧ k0 ≤ 5) {P : Hp → Prop} (k : ∀ h' : Hp, (FrP h h') → (PS h' n (flS (h 3) n k0 s)) → P h') : Cl d mX3_fail [.inr (.inr 14), .inl k0] h (pV P) := by
  refine Cl.of (L := [some (.inr (.inr 14)), some (.inl k0)]) (by decide +kernel) (Nat.le_of_ble_eq_true rfl) rfl ?_
  have pr := hp.r
  have q1 := hp.2.1
  have sr := hp.2.2.2
  have ts := tS_r (b := h 3) sr.1
  refine r_aload_n dX3_fail_0 rfl rfl ?_
  refine r_getI dX3_fail_1 fl_X3_9 sh_14 rfl ?_
  refine r_if_ne (tgt := 23) dX3_fail_4 rfl (by omega) (fun c_4 => ?_) (fun c_4 => ?_)
  · refine r_vret dX3_fail_23 rfl ?_
    first
      | (refine ⟨rfl, k h FrP.rf ?_⟩
         rw [flS_f (by omega)]
         exact hp)
      | (refine ⟨rfl, k _ (fun a q z y => ?_) ?_⟩
         · unfold upH
           rw [if_neg (by omega), if_neg (by omega)]
         · have e : flS (h 3) n k0 s = (s.1, k0, (tS (h 3) n s.1 : Int)) := if_pos (by omega)
           rw [e]
           refine ⟨⟨hp.1.1, hp.1.2.1, hp.1.2.2.1, hp.1.2.2.2⟩, rfl, hp.1.2.1, ?_⟩
           show s.1 ≤ n ∧ 0 ≤ k0 ∧ k0 ≤ 5 ∧ -1 ≤ (tS (h 3) n s.1 : Int) ∧ (tS (h 3) n s.1 : Int) ≤ 500
           omega)
  · refine r_aload_n dX3_fail_7 rfl rfl ?_
    refine r_iload_n dX3_fail_8 rfl rfl ?_
    refine r_putI dX3_fail_9 fl_X3_9 sh_14 rfl ?_
    refine r_aload_n dX3_fail_12 rfl rfl ?_
    refine r_aload_n dX3_fail_13 rfl rfl ?_
    refine r_getR dX3_fail_14 fl_X3_25 sh_14 rfl ?_
    refine r_getI dX3_fail_17 fl_X3_122 sh_2 rfl ?_
    refine r_eqI (up_nc (by decide)) ?_
    refine r_putI dX3_fail_20 fl_X3_15 sh_14 rfl ?_
    refine r_vret dX3_fail_23 rfl ?_
    first
      | (refine ⟨rfl, k h FrP.rf ?_⟩
         rw [flS_f (by omega)]
         exact hp)
      | (refine ⟨rfl, k _ (fun a q z y => ?_) ?_⟩
         · unfold upH
           rw [if_neg (by omega), if_neg (by omega)]
         · have e : flS (h 3) n k0 s = (s.1, k0, (tS (h 3) n s.1 : Int)) := if_pos (by omega)
           rw [e]
           refine ⟨⟨hp.1.1, hp.1.2.1, hp.1.2.2.1, hp.1.2.2.2⟩, rfl, hp.1.2.1, ?_⟩
           show s.1 ≤ n ∧ 0 ≤ k0 ∧ k0 ≤ 5 ∧ -1 ≤ (tS (h 3) n s.1 : Int) ∧ (tS (h 3) n s.1 : Int) ≤ 500
           omega)
theorem PS.step {h g : Hp} {n : Nat} {s : Sg} (p : PS h n s) (f : Fr2 h g) (t : TKs g n (tE (h 3) n s.1)) : PS g n (tE (h 3) n s.1, s.2.1, s.2.2) ∧ FrP h g := by
  have er := tE_r (b := h 3) p.2.2.2.1
  refine ⟨⟨t, ?_, ?_, ?_⟩, fun a q z _ => f a q z⟩
  · rw [f 14 2 (by decide)]; exact p.2.1
  · rw [f 14 3 (by decide)]; exact p.2.2.1
  · have := p.2.2.2
    exact ⟨er.2.1, this.2⟩
set_option maxRecDepth 20000 in
set_option maxHeartbeats 400000 in
theorem sp_X3_takeNumber {d : Nat} (hd : 3 ≤ d) {lo hi : Int} {h : Hp} {n : Nat} {s : Sg} (hx : TX h n) (hp : PS h n s) (hl : 0 ≤ lo ∧ lo ≤ 999) (hh : 0 ≤ hi ∧ hi ≤ 999) {P : Int → Hp → Prop} (k : ∀ h' : Hp, (FrP h h') → (PS h' n (nuS (h 3) n lo hi s)) → P (nuV (h 3) n lo hi s) h') : Cl d mX3_takeNumber [.inr (.inr 14), .inl lo, .inl hi] h (pI P) := by
  refine Cl.of (L := [some (.inr (.inr 14)), some (.inl lo), some (.inl hi), none]) (by decide +kernel) (Nat.le_of_ble_eq_true rfl) rfl ?_
  obtain ⟨d, rfl⟩ : ∃ q, d = q + 1 := ⟨d - 1, by omega⟩
  have pr := hp.r
  have q1 := hp.2.1
  have sr := hp.2.2.2
  have tk := hp.1.1
  have tv := hp.1.2.2.2
  refine r_aload_n dX3_takeNumber_0 rfl rfl ?_
  refine r_getR dX3_takeNumber_1 fl_X3_25 sh_14 rfl ?_
  refine r_getI dX3_takeNumber_4 fl_X3_149 sh_2 rfl ?_
  refine r_istore_n (L' := [_, _, _, _]) dX3_takeNumber_7 rfl rfl (by decide) rfl ?_
  refine r_aload_n dX3_takeNumber_8 rfl rfl ?_
  refine r_getR dX3_takeNumber_9 fl_X3_25 sh_14 rfl ?_
  refine r_getI dX3_takeNumber_12 fl_X3_46 sh_2 rfl ?_
  refine r_iconst dX3_takeNumber_15 ?_
  refine r_icmp_eq (tgt := 27) dX3_takeNumber_16 rfl (by omega) ⟨by decide, by decide⟩ (fun c_16 => ?_) (fun c_16 => ?_)
  · refine r_iload_n dX3_takeNumber_27 rfl rfl ?_
    refine r_iload_n dX3_takeNumber_28 rfl rfl ?_
    refine r_iload_n dX3_takeNumber_29 rfl rfl ?_
    refine r_callNI (av := [_, _, _]) (M' := mX11_isWithin) dX3_takeNumber_30 sX11_isWithin mn_X3_152 rfl rfl (by simp [wtA]) (sp_X11_isWithin (by omega) (by omega) (by omega) (by omega) (fun b_30 => ?_) (fun b_30 => ?_))
    · refine r_if_ne (tgt := 41) dX3_takeNumber_33 rfl ⟨by decide, by decide⟩ (fun c_33 => ?_) (fun c_33 => absurd c_33 (by decide))
      refine r_aload_n dX3_takeNumber_41 rfl rfl ?_
      refine r_getI dX3_takeNumber_42 fl_X3_9 sh_14 rfl ?_
      refine r_if_eq (tgt := 50) dX3_takeNumber_45 rfl (by omega) (fun c_45 => ?_) (fun c_45 => ?_)
      · refine r_aload_n dX3_takeNumber_50 rfl rfl ?_
        refine r_getR dX3_takeNumber_51 fl_X3_25 sh_14 rfl ?_
        refine r_callVU (av := []) (M' := mX8_step) dX3_takeNumber_54 vX8_step ml_X3_52 sh_2 (by decide) rfl rfl rfl rfl (by simp [wtA]) (sp_X8_step (n := n) (p := tE (h 3) n s.1) (by omega) ⟨hx.1, hx.2.1⟩ ⟨hp.1.2.2.1, (tE_r hp.2.2.2.1).2.1⟩ hx.2.2 (fun h_54 f0_54 f1_54 => ?_))
        refine r_iload_n dX3_takeNumber_57 rfl rfl ?_
        refine r_iret dX3_takeNumber_58 rfl ?_
        have st := hp.step f0_54 f1_54
        have e : nuS (h 3) n lo hi s = (tE (h 3) n s.1, s.2.1, s.2.2) := by
          unfold nuS
          rw [if_pos (by omega), if_pos (by omega), if_pos (by omega), show s.2.1 = 0 by omega]
        refine ⟨_, rfl, eqP (k _ st.2 (by rw [e]; exact st.1)) ?_⟩
        unfold nuV
        rw [if_pos (by omega)]
        exact tv.symm
      · refine r_iconst dX3_takeNumber_48 ?_
        refine r_iret dX3_takeNumber_49 rfl ?_
        refine ⟨_, rfl, eqP (k h FrP.rf (by rw [nuS_f (by omega)]; exact hp)) ?_⟩
        unfold nuV
        rw [if_neg (by omega)]
    · refine r_if_ne (tgt := 41) dX3_takeNumber_33 rfl ⟨by decide, by decide⟩ (fun c_33 => absurd c_33 (by decide)) (fun c_33 => ?_)
      refine r_aload_n dX3_takeNumber_36 rfl rfl ?_
      refine r_iconst dX3_takeNumber_37 ?_
      refine r_callVU (av := [_]) (M' := mX3_fail) dX3_takeNumber_38 vX3_fail ml_X3_58 sh_14 (by decide) rfl rfl rfl rfl (by simp [wtA]) (sp_X3_fail (by omega) hx hp (by omega) (fun h_38 f0_38 f1_38 => ?_))
      refine r_aload_n dX3_takeNumber_41 rfl rfl ?_
      refine r_getI dX3_takeNumber_42 fl_X3_9 sh_14 rfl ?_
      refine r_if_eq (tgt := 50) dX3_takeNumber_45 rfl (by have := f1_38.r; omega) (fun c_45 => absurd (by have := f1_38.2.1; omega) (flS_n (b := h 3) (n := n) (k := 2) (s := s) (by decide))) (fun c_45 => ?_)
      refine r_iconst dX3_takeNumber_48 ?_
      refine r_iret dX3_takeNumber_49 rfl ?_
      have e : nuS (h 3) n lo hi s = flS (h 3) n 2 s := by
        unfold nuS flS
        rw [if_pos (show tK (h 3) n s.1 = 2 by omega), if_neg (show ¬ (lo ≤ tV (h 3) n s.1 ∧ tV (h 3) n s.1 ≤ hi) by omega)]
      refine ⟨_, rfl, eqP (k _ f0_38 (by rw [e]; exact f1_38)) ?_⟩
      unfold nuV
      rw [if_neg (by omega)]
  · refine r_aload_n dX3_takeNumber_19 rfl rfl ?_
    refine r_iconst dX3_takeNumber_20 ?_
    refine r_callVU (av := [_]) (M' := mX3_fail) dX3_takeNumber_21 vX3_fail ml_X3_58 sh_14 (by decide) rfl rfl rfl rfl (by simp [wtA]) (sp_X3_fail (by omega) hx hp (by omega) (fun h_21 f0_21 f1_21 => ?_))
    refine r_goto (tgt := 41) dX3_takeNumber_24 rfl ?_
    refine r_aload_n dX3_takeNumber_41 rfl rfl ?_
    refine r_getI dX3_takeNumber_42 fl_X3_9 sh_14 rfl ?_
    refine r_if_eq (tgt := 50) dX3_takeNumber_45 rfl (by have := f1_21.r; omega) (fun c_45 => absurd (by have := f1_21.2.1; omega) (flS_n (b := h 3) (n := n) (k := 1) (s := s) (by decide))) (fun c_45 => ?_)
    refine r_iconst dX3_takeNumber_48 ?_
    refine r_iret dX3_takeNumber_49 rfl ?_
    have e : nuS (h 3) n lo hi s = flS (h 3) n 1 s := by
      unfold nuS flS
      rw [if_neg (show ¬ tK (h 3) n s.1 = 2 by omega)]
    refine ⟨_, rfl, eqP (k _ f0_21 (by rw [e]; exact f1_21)) ?_⟩
    unfold nuV
    rw [if_neg (by omega)]
set_option maxRecDepth 20000 in
set_option maxHeartbeats 400000 in
theorem sp_X3_takeSigned {d : Nat} (hd : 4 ≤ d) {h : Hp} {n : Nat} {s : Sg} (hx : TX h n) (hp : PS h n s) {P : Int → Hp → Prop} (k : ∀ h' : Hp, (FrP h h') → (PS h' n (sdS (h 3) n s)) → P (sdV (h 3) n s) h') : Cl d mX3_takeSigned [.inr (.inr 14)] h (pI P) := by
  refine Cl.of (L := [some (.inr (.inr 14))]) (by decide +kernel) (Nat.le_of_ble_eq_true rfl) rfl ?_
  obtain ⟨d, rfl⟩ : ∃ q, d = q + 1 := ⟨d - 1, by omega⟩
  have pr := hp.r
  have q1 := hp.2.1
  have sr := hp.2.2.2
  have tk := hp.1.1
  refine r_aload_n dX3_takeSigned_0 rfl rfl ?_
  refine r_getI dX3_takeSigned_1 fl_X3_9 sh_14 rfl ?_
  refine r_if_ne (tgt := 36) dX3_takeSigned_4 rfl (by omega) (fun c_4 => ?_) (fun c_4 => ?_)
  · refine r_aload_n dX3_takeSigned_36 rfl rfl ?_
    refine r_iconst dX3_takeSigned_37 ?_
    refine r_sipush dX3_takeSigned_38 (by decide +kernel) ?_
    refine r_callVI (av := [_, _]) (M' := mX3_takeNumber) dX3_takeSigned_41 vX3_takeNumber ml_X3_103 sh_14 (by decide) rfl rfl rfl rfl (by simp [wtA]) (sp_X3_takeNumber (by omega) hx hp (by omega) (by omega) (fun h_41 f0_41 f1_41 => ?_))
    refine r_iret dX3_takeSigned_44 rfl ?_
    have e : mnS (h 3) n s = s := by
      unfold mnS
      rw [if_neg (by omega)]
    refine ⟨_, rfl, eqP (k _ f0_41 (by unfold sdS; rw [e]; exact f1_41)) ?_⟩
    unfold sdV
    rw [if_neg (by omega), e]
  · refine r_aload_n dX3_takeSigned_7 rfl rfl ?_
    refine r_getR dX3_takeSigned_8 fl_X3_25 sh_14 rfl ?_
    refine r_getI dX3_takeSigned_11 fl_X3_46 sh_2 rfl ?_
    refine r_bipush dX3_takeSigned_14 (by decide +kernel) ?_
    refine r_icmp_ne (tgt := 36) dX3_takeSigned_16 rfl (by omega) ⟨by decide, by decide⟩ (fun c_16 => ?_) (fun c_16 => ?_)
    · refine r_aload_n dX3_takeSigned_36 rfl rfl ?_
      refine r_iconst dX3_takeSigned_37 ?_
      refine r_sipush dX3_takeSigned_38 (by decide +kernel) ?_
      refine r_callVI (av := [_, _]) (M' := mX3_takeNumber) dX3_takeSigned_41 vX3_takeNumber ml_X3_103 sh_14 (by decide) rfl rfl rfl rfl (by simp [wtA]) (sp_X3_takeNumber (by omega) hx hp (by omega) (by omega) (fun h_41 f0_41 f1_41 => ?_))
      refine r_iret dX3_takeSigned_44 rfl ?_
      have e : mnS (h 3) n s = s := by
        unfold mnS
        rw [if_neg (by omega)]
      refine ⟨_, rfl, eqP (k _ f0_41 (by unfold sdS; rw [e]; exact f1_41)) ?_⟩
      unfold sdV
      rw [if_neg (by omega), e]
    · refine r_aload_n dX3_takeSigned_19 rfl rfl ?_
      refine r_getR dX3_takeSigned_20 fl_X3_25 sh_14 rfl ?_
      refine r_callVU (av := []) (M' := mX8_step) dX3_takeSigned_23 vX8_step ml_X3_52 sh_2 (by decide) rfl rfl rfl rfl (by simp [wtA]) (sp_X8_step (n := n) (p := tE (h 3) n s.1) (by omega) ⟨hx.1, hx.2.1⟩ ⟨hp.1.2.2.1, (tE_r hp.2.2.2.1).2.1⟩ hx.2.2 (fun h_23 f0_23 f1_23 => ?_))
      have st := hp.step f0_23 f1_23
      have e : mnS (h 3) n s = (tE (h 3) n s.1, s.2.1, s.2.2) := by
        unfold mnS
        rw [if_pos (by omega), show s.2.1 = 0 by omega]
      refine r_aload_n dX3_takeSigned_26 rfl rfl ?_
      refine r_iconst dX3_takeSigned_27 ?_
      refine r_sipush dX3_takeSigned_28 (by decide +kernel) ?_
      refine r_callVI (av := [_, _]) (M' := mX3_takeNumber) dX3_takeSigned_31 vX3_takeNumber ml_X3_103 sh_14 (by decide) rfl rfl rfl rfl (by simp [wtA]) (sp_X3_takeNumber (by omega) (st.2.tx hx) st.1 (by omega) (by omega) (fun h_31 f0_31 f1_31 => ?_))
      refine r_ineg dX3_takeSigned_34 ?_
      refine r_iret dX3_takeSigned_35 rfl ?_
      rw [st.2.b] at f1_31 ⊢
      rw [← e] at f1_31 ⊢
      refine ⟨_, rfl, eqP (k _ (st.2.tr f0_31) f1_31) ?_⟩
      unfold sdV
      rw [if_pos (by omega)]
set_option maxRecDepth 20000 in
set_option maxHeartbeats 400000 in
theorem sp_X3_takeSign {d : Nat} (hd : 3 ≤ d) {c : Int} {h : Hp} {n : Nat} {s : Sg} (hx : TX h n) (hp : PS h n s) (hc : 0 ≤ c ∧ c ≤ 100) {P : Hp → Prop} (k : ∀ h' : Hp, (FrP h h') → (PS h' n (siS (h 3) n c s)) → P h') : Cl d mX3_takeSign [.inr (.inr 14), .inl c] h (pV P) := by
  refine Cl.of (L := [some (.inr (.inr 14)), some (.inl c)]) (by decide +kernel) (Nat.le_of_ble_eq_true rfl) rfl ?_
  obtain ⟨d, rfl⟩ : ∃ q, d = q + 1 := ⟨d - 1, by omega⟩
  have pr := hp.r
  have q1 := hp.2.1
  have sr := hp.2.2.2
  have tk := hp.1.1
  refine r_aload_n dX3_takeSign_0 rfl rfl ?_
  refine r_getR dX3_takeSign_1 fl_X3_25 sh_14 rfl ?_
  refine r_getI dX3_takeSign_4 fl_X3_46 sh_2 rfl ?_
  refine r_iload_n dX3_takeSign_7 rfl rfl ?_
  refine r_icmp_eq (tgt := 16) dX3_takeSign_8 rfl (by omega) (by omega) (fun c_8 => ?_) (fun c_8 => ?_)
  · refine r_aload_n dX3_takeSign_16 rfl rfl ?_
    refine r_getI dX3_takeSign_17 fl_X3_9 sh_14 rfl ?_
    refine r_if_ne (tgt := 30) dX3_takeSign_20 rfl (by omega) (fun c_20 => ?_) (fun c_20 => ?_)
    · refine r_vret dX3_takeSign_30 rfl ?_
      first
        | (have st := hp.step f0_27 f1_27
           have e : siS (h 3) n c s = (tE (h 3) n s.1, s.2.1, s.2.2) := by
             unfold siS
             rw [if_pos (by omega), if_pos (by omega), show s.2.1 = 0 by omega]
           exact ⟨rfl, k _ st.2 (by rw [e]; exact st.1)⟩)
        | exact ⟨rfl, k h FrP.rf (by rw [siS_f (by omega)]; exact hp)⟩
    · refine r_aload_n dX3_takeSign_23 rfl rfl ?_
      refine r_getR dX3_takeSign_24 fl_X3_25 sh_14 rfl ?_
      refine r_callVU (av := []) (M' := mX8_step) dX3_takeSign_27 vX8_step ml_X3_52 sh_2 (by decide) rfl rfl rfl rfl (by simp [wtA]) (sp_X8_step (n := n) (p := tE (h 3) n s.1) (by omega) ⟨hx.1, hx.2.1⟩ ⟨hp.1.2.2.1, (tE_r hp.2.2.2.1).2.1⟩ hx.2.2 (fun h_27 f0_27 f1_27 => ?_))
      refine r_vret dX3_takeSign_30 rfl ?_
      first
        | (have st := hp.step f0_27 f1_27
           have e : siS (h 3) n c s = (tE (h 3) n s.1, s.2.1, s.2.2) := by
             unfold siS
             rw [if_pos (by omega), if_pos (by omega), show s.2.1 = 0 by omega]
           exact ⟨rfl, k _ st.2 (by rw [e]; exact st.1)⟩)
        | exact ⟨rfl, k h FrP.rf (by rw [siS_f (by omega)]; exact hp)⟩
  · refine r_aload_n dX3_takeSign_11 rfl rfl ?_
    refine r_iconst dX3_takeSign_12 ?_
    refine r_callVU (av := [_]) (M' := mX3_fail) dX3_takeSign_13 vX3_fail ml_X3_58 sh_14 (by decide) rfl rfl rfl rfl (by simp [wtA]) (sp_X3_fail (by omega) hx hp (by omega) (fun h_13 f0_13 f1_13 => ?_))
    refine r_aload_n dX3_takeSign_16 rfl rfl ?_
    refine r_getI dX3_takeSign_17 fl_X3_9 sh_14 rfl ?_
    refine r_if_ne (tgt := 30) dX3_takeSign_20 rfl (by have := f1_13.r; omega) (fun c_20 => ?_) (fun c_20 => absurd (by have := f1_13.2.1; omega) (flS_n (b := h 3) (n := n) (k := 1) (s := s) (by decide)))
    refine r_vret dX3_takeSign_30 rfl ?_
    have e : siS (h 3) n c s = flS (h 3) n 1 s := by
      unfold siS flS
      rw [if_neg (show ¬ tK (h 3) n s.1 = c by omega)]
    exact ⟨rfl, k _ f0_13 (by rw [e]; exact f1_13)⟩
set_option maxRecDepth 20000 in
set_option maxHeartbeats 400000 in
theorem sp_X3_checkAbove {d : Nat} (hd : 2 ≤ d) {fl : Int} {h : Hp} {n : Nat} {s : Sg} (hx : TX h n) (hp : PS h n s) (hf : 0 ≤ fl ∧ fl ≤ 999) {P : Hp → Prop} (k : ∀ h' : Hp, (FrP h h') → (PS h' n (abS (h 3) n fl s)) → P h') : Cl d mX3_checkAbove [.inr (.inr 14), .inl fl] h (pV P) := by
  refine Cl.of (L := [some (.inr (.inr 14)), some (.inl fl)]) (by decide +kernel) (Nat.le_of_ble_eq_true rfl) rfl ?_
  obtain ⟨d, rfl⟩ : ∃ q, d = q + 1 := ⟨d - 1, by omega⟩
  have pr := hp.r
  have q1 := hp.2.1
  have sr := hp.2.2.2
  have tk := hp.1.1
  have tv := hp.1.2.2.2
  refine r_aload_n dX3_checkAbove_0 rfl rfl ?_
  refine r_getR dX3_checkAbove_1 fl_X3_25 sh_14 rfl ?_
  refine r_getI dX3_checkAbove_4 fl_X3_46 sh_2 rfl ?_
  refine r_iconst dX3_checkAbove_7 ?_
  refine r_icmp_ne (tgt := 27) dX3_checkAbove_8 rfl (by omega) ⟨by decide, by decide⟩ (fun c_8 => ?_) (fun c_8 => ?_)
  · refine r_vret dX3_checkAbove_27 rfl ?_
    exact ⟨rfl, k h FrP.rf (by unfold abS; rw [if_neg (by omega)]; exact hp)⟩
  · refine r_aload_n dX3_checkAbove_11 rfl rfl ?_
    refine r_getR dX3_checkAbove_12 fl_X3_25 sh_14 rfl ?_
    refine r_getI dX3_checkAbove_15 fl_X3_149 sh_2 rfl ?_
    refine r_iload_n dX3_checkAbove_18 rfl rfl ?_
    refine r_icmp_gt (tgt := 27) dX3_checkAbove_19 rfl (by omega) (by omega) (fun c_19 => ?_) (fun c_19 => ?_)
    · refine r_vret dX3_checkAbove_27 rfl ?_
      exact ⟨rfl, k h FrP.rf (by unfold abS; rw [if_neg (by omega)]; exact hp)⟩
    · refine r_aload_n dX3_checkAbove_22 rfl rfl ?_
      refine r_iconst dX3_checkAbove_23 ?_
      refine r_callVU (av := [_]) (M' := mX3_fail) dX3_checkAbove_24 vX3_fail ml_X3_58 sh_14 (by decide) rfl rfl rfl rfl (by simp [wtA]) (sp_X3_fail (by omega) hx hp (by omega) (fun h_24 f0_24 f1_24 => ?_))
      refine r_vret dX3_checkAbove_27 rfl ?_
      have e : abS (h 3) n fl s = flS (h 3) n 5 s := by
        unfold abS flS
        by_cases z : s.2.1 = 0
        · rw [if_pos (by omega), if_pos z]
        · rw [if_neg (fun y => z y.1), if_neg z]
      exact ⟨rfl, k _ f0_24 (by rw [e]; exact f1_24)⟩
set_option maxRecDepth 20000 in
set_option maxHeartbeats 400000 in
theorem sp_X7_add {d : Nat} (hd : 1 ≤ d) {v : Int} {h : Hp}  (hs : 0 ≤ (h 4 0) ∧ (h 4 0) < 60) {P : Int → Hp → Prop} (k : P ((h 4 0)) (upH (upH (upH (upH h 5 (h 4 0).toNat v) 6 (h 4 0).toNat (h 4 0)) 7 (h 4 0).toNat 0) 4 0 ((h 4 0) + 1))) : Cl d mX7_add [.inr (.inr 4), .inl v] h (pI P) := by
  refine Cl.of (L := [some (.inr (.inr 4)), some (.inl v), none]) (by decide +kernel) (Nat.le_of_ble_eq_true rfl) rfl ?_
  refine r_aload_n dX7_add_0 rfl rfl ?_
  refine r_getI dX7_add_1 fl_X7_7 sh_4 rfl ?_
  refine r_istore_n (L' := [_, _, _]) dX7_add_4 rfl rfl (by decide) rfl ?_
  refine r_aload_n dX7_add_5 rfl rfl ?_
  refine r_getR dX7_add_6 fl_X7_16 sh_4 rfl ?_
  refine r_iload_n dX7_add_9 rfl rfl ?_
  refine r_iload_n dX7_add_10 rfl rfl ?_
  refine r_iast dX7_add_11 sh_5 (by decide) (by omega) ?_
  refine r_aload_n dX7_add_12 rfl rfl ?_
  refine r_getR dX7_add_13 fl_X7_20 sh_4 rfl ?_
  refine r_iload_n dX7_add_16 rfl rfl ?_
  refine r_iload_n dX7_add_17 rfl rfl ?_
  refine r_iast dX7_add_18 sh_6 (by decide) (by omega) ?_
  refine r_aload_n dX7_add_19 rfl rfl ?_
  refine r_getR dX7_add_20 fl_X7_23 sh_4 rfl ?_
  refine r_iload_n dX7_add_23 rfl rfl ?_
  refine r_iconst dX7_add_24 ?_
  refine r_iast dX7_add_25 sh_7 (by decide) (by omega) ?_
  refine r_aload_n dX7_add_26 rfl rfl ?_
  refine r_dup dX7_add_27 (fun _ h => by cases h) ?_
  refine r_getI dX7_add_28 fl_X7_7 sh_4 rfl ?_
  refine r_eqI (((up_nc (by decide)).trans (((up_nc (by decide)).trans (up_nc (by decide)))))) ?_
  refine r_iconst dX7_add_31 ?_
  refine r_iadd dX7_add_32 ?_
  refine r_putI dX7_add_33 fl_X7_7 sh_4 rfl ?_
  refine r_iload_n dX7_add_36 rfl rfl ?_
  refine r_iret dX7_add_37 rfl ?_
  exact ⟨_, rfl, k⟩
set_option maxRecDepth 20000 in
set_option maxHeartbeats 400000 in
theorem sp_X7_put {d : Nat} (hd : 1 ≤ d) {s p v : Int} {h : Hp}  (hs : 0 ≤ s ∧ s < 60) (hp : 0 ≤ p ∧ p < 5) {P : Hp → Prop} (k : P (upH h 8 (5 * s + p).toNat v)) : Cl d mX7_put [.inr (.inr 4), .inl s, .inl p, .inl v] h (pV P) := by
  refine Cl.of (L := [some (.inr (.inr 4)), some (.inl s), some (.inl p), some (.inl v)]) (by decide +kernel) (Nat.le_of_ble_eq_true rfl) rfl ?_
  refine r_aload_n dX7_put_0 rfl rfl ?_
  refine r_getR dX7_put_1 fl_X7_26 sh_4 rfl ?_
  refine r_iconst dX7_put_4 ?_
  refine r_iload_n dX7_put_5 rfl rfl ?_
  refine r_imul dX7_put_6 ?_
  refine r_iload_n dX7_put_7 rfl rfl ?_
  refine r_iadd dX7_put_8 ?_
  refine r_iload_n dX7_put_9 rfl rfl ?_
  refine r_iast dX7_put_10 sh_8 (by decide) (by omega) ?_
  refine r_vret dX7_put_11 rfl ?_
  exact ⟨rfl, k⟩
set_option maxRecDepth 20000 in
set_option maxHeartbeats 400000 in
theorem sp_X7_get {d : Nat} (hd : 1 ≤ d) {s p : Int} {h : Hp}  (hs : 0 ≤ s ∧ s < 60) (hp : 0 ≤ p ∧ p < 5) {P : Int → Hp → Prop} (k : P (h 8 (5 * s + p).toNat) (h)) : Cl d mX7_get [.inr (.inr 4), .inl s, .inl p] h (pI P) := by
  refine Cl.of (L := [some (.inr (.inr 4)), some (.inl s), some (.inl p)]) (by decide +kernel) (Nat.le_of_ble_eq_true rfl) rfl ?_
  refine r_aload_n dX7_get_0 rfl rfl ?_
  refine r_getR dX7_get_1 fl_X7_26 sh_4 rfl ?_
  refine r_iconst dX7_get_4 ?_
  refine r_iload_n dX7_get_5 rfl rfl ?_
  refine r_imul dX7_get_6 ?_
  refine r_iload_n dX7_get_7 rfl rfl ?_
  refine r_iadd dX7_get_8 ?_
  refine r_iald dX7_get_9 sh_8 (by decide) (by omega) ?_
  refine r_iret dX7_get_10 rfl ?_
  exact ⟨_, rfl, k⟩
set_option maxRecDepth 20000 in
set_option maxHeartbeats 400000 in
theorem sp_X7_addForm {d : Nat} (hd : 1 ≤ d) {a b : Int} {h : Hp}  (hs : 0 ≤ (h 4 1) ∧ (h 4 1) < 8) {P : Int → Hp → Prop} (k : P ((h 4 1)) (upH (upH (upH (upH h 9 (h 4 1).toNat a) 10 (h 4 1).toNat b) 11 (h 4 1).toNat 0) 4 1 ((h 4 1) + 1))) : Cl d mX7_addForm [.inr (.inr 4), .inl a, .inl b] h (pI P) := by
  refine Cl.of (L := [some (.inr (.inr 4)), some (.inl a), some (.inl b), none]) (by decide +kernel) (Nat.le_of_ble_eq_true rfl) rfl ?_
  refine r_aload_n dX7_addForm_0 rfl rfl ?_
  refine r_getI dX7_addForm_1 fl_X7_13 sh_4 rfl ?_
  refine r_istore_n (L' := [_, _, _, _]) dX7_addForm_4 rfl rfl (by decide) rfl ?_
  refine r_aload_n dX7_addForm_5 rfl rfl ?_
  refine r_getR dX7_addForm_6 fl_X7_29 sh_4 rfl ?_
  refine r_iload_n dX7_addForm_9 rfl rfl ?_
  refine r_iload_n dX7_addForm_10 rfl rfl ?_
  refine r_iast dX7_addForm_11 sh_9 (by decide) (by omega) ?_
  refine r_aload_n dX7_addForm_12 rfl rfl ?_
  refine r_getR dX7_addForm_13 fl_X7_32 sh_4 rfl ?_
  refine r_iload_n dX7_addForm_16 rfl rfl ?_
  refine r_iload_n dX7_addForm_17 rfl rfl ?_
  refine r_iast dX7_addForm_18 sh_10 (by decide) (by omega) ?_
  refine r_aload_n dX7_addForm_19 rfl rfl ?_
  refine r_getR dX7_addForm_20 fl_X7_35 sh_4 rfl ?_
  refine r_iload_n dX7_addForm_23 rfl rfl ?_
  refine r_iconst dX7_addForm_24 ?_
  refine r_iast dX7_addForm_25 sh_11 (by decide) (by omega) ?_
  refine r_aload_n dX7_addForm_26 rfl rfl ?_
  refine r_dup dX7_addForm_27 (fun _ h => by cases h) ?_
  refine r_getI dX7_addForm_28 fl_X7_13 sh_4 rfl ?_
  refine r_eqI (((up_nc (by decide)).trans (((up_nc (by decide)).trans (up_nc (by decide)))))) ?_
  refine r_iconst dX7_addForm_31 ?_
  refine r_iadd dX7_addForm_32 ?_
  refine r_putI dX7_addForm_33 fl_X7_13 sh_4 rfl ?_
  refine r_iload_n dX7_addForm_36 rfl rfl ?_
  refine r_iret dX7_addForm_37 rfl ?_
  exact ⟨_, rfl, k⟩
set_option maxRecDepth 20000 in
set_option maxHeartbeats 400000 in
theorem sp_X7_addPoint {d : Nat} (hd : 1 ≤ d) {f x y : Int} {h : Hp}  (hf : 0 ≤ f ∧ f < 8) (hp : 0 ≤ h 11 f.toNat ∧ h 11 f.toNat < 12) {P : Hp → Prop} (k : P (upH (upH (upH h 12 (12 * f + h 11 f.toNat).toNat x) 13 (12 * f + h 11 f.toNat).toNat y) 11 f.toNat (h 11 f.toNat + 1))) : Cl d mX7_addPoint [.inr (.inr 4), .inl f, .inl x, .inl y] h (pV P) := by
  refine Cl.of (L := [some (.inr (.inr 4)), some (.inl f), some (.inl x), some (.inl y), none]) (by decide +kernel) (Nat.le_of_ble_eq_true rfl) rfl ?_
  refine r_aload_n dX7_addPoint_0 rfl rfl ?_
  refine r_getR dX7_addPoint_1 fl_X7_35 sh_4 rfl ?_
  refine r_iload_n dX7_addPoint_4 rfl rfl ?_
  refine r_iald dX7_addPoint_5 sh_11 (by decide) (by omega) ?_
  refine r_bipush dX7_addPoint_6 (by decide +kernel) ?_
  refine r_icmp_ge (tgt := 50) dX7_addPoint_8 rfl (by omega) ⟨by decide, by decide⟩ (fun c_8 => absurd c_8 (by omega)) (fun c_8 => ?_)
  refine r_bipush dX7_addPoint_11 (by decide +kernel) ?_
  refine r_iload_n dX7_addPoint_13 rfl rfl ?_
  refine r_imul dX7_addPoint_14 ?_
  refine r_aload_n dX7_addPoint_15 rfl rfl ?_
  refine r_getR dX7_addPoint_16 fl_X7_35 sh_4 rfl ?_
  refine r_iload_n dX7_addPoint_19 rfl rfl ?_
  refine r_iald dX7_addPoint_20 sh_11 (by decide) (by omega) ?_
  refine r_iadd dX7_addPoint_21 ?_
  refine r_istore (L' := [_, _, _, _, _]) dX7_addPoint_22 rfl (by decide) rfl ?_
  refine r_aload_n dX7_addPoint_24 rfl rfl ?_
  refine r_getR dX7_addPoint_25 fl_X7_38 sh_4 rfl ?_
  refine r_iload dX7_addPoint_28 rfl ?_
  refine r_iload_n dX7_addPoint_30 rfl rfl ?_
  refine r_iast dX7_addPoint_31 sh_12 (by decide) (by omega) ?_
  refine r_aload_n dX7_addPoint_32 rfl rfl ?_
  refine r_getR dX7_addPoint_33 fl_X7_41 sh_4 rfl ?_
  refine r_iload dX7_addPoint_36 rfl ?_
  refine r_iload_n dX7_addPoint_38 rfl rfl ?_
  refine r_iast dX7_addPoint_39 sh_13 (by decide) (by omega) ?_
  refine r_aload_n dX7_addPoint_40 rfl rfl ?_
  refine r_getR dX7_addPoint_41 fl_X7_35 sh_4 rfl ?_
  refine r_iload_n dX7_addPoint_44 rfl rfl ?_
  refine r_dup2 dX7_addPoint_45 ?_
  refine r_iald dX7_addPoint_46 sh_11 (by decide) (by omega) ?_
  refine r_eqI (((up_nc (by decide)).trans (up_nc (by decide)))) ?_
  refine r_iconst dX7_addPoint_47 ?_
  refine r_iadd dX7_addPoint_48 ?_
  refine r_iast dX7_addPoint_49 sh_11 (by decide) (by omega) ?_
  refine r_vret dX7_addPoint_50 rfl ?_
  exact ⟨rfl, k⟩
