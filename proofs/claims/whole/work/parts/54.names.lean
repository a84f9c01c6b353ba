/-! NAMES and FORMS, THE CLASS -/
abbrev nmP (b : Nat → Int) (n p : Nat) : Prop := tK b n p = 1 ∧ tE b n p - tS b n p ≤ 6 ∧ kwI b (tS b n p) (tE b n p) < 0
noncomputable def cnS (b : Nat → Int) (n : Nat) (s : Sg) : Sg := if nmP b n s.1 then s else flS b n 1 s
def dgN (b : Nat → Int) (s e q : Nat) : Int := if s + q < e then b (s + q) - 96 else 0
theorem pkN_inj {b : Nat → Int} {s e s2 e2 : Nat} (h1 : ∀ q : Nat, 0 ≤ dgN b s e q ∧ dgN b s e q < 32) (h2 : ∀ q : Nat, 0 ≤ dgN b s2 e2 q ∧ dgN b s2 e2 q < 32) : ∀ {j : Nat}, pkN b s e j = pkN b s2 e2 j → ∀ q : Nat, q < j → dgN b s e q = dgN b s2 e2 q
  | 0, _, q, hq => absurd hq (Nat.not_lt_zero q)
  | j + 1, h, q, hq => by
    have e1 : pkN b s e (j + 1) = pkN b s e j * 32 + dgN b s e j := rfl
    have e3 : pkN b s2 e2 (j + 1) = pkN b s2 e2 j * 32 + dgN b s2 e2 j := rfl
    have a := h1 j
    have c := h2 j
    have p : pkN b s e j = pkN b s2 e2 j := by omega
    by_cases z : q = j
    · rw [z]; omega
    · exact pkN_inj h1 h2 p q (by omega)
theorem pkN_eq {b : Nat → Int} {s e s2 e2 : Nat} (h : ∀ q : Nat, dgN b s e q = dgN b s2 e2 q) : ∀ {j : Nat}, pkN b s e j = pkN b s2 e2 j
  | 0 => rfl
  | j + 1 => by
    have e1 : pkN b s e (j + 1) = pkN b s e j * 32 + dgN b s e j := rfl
    have e3 : pkN b s2 e2 (j + 1) = pkN b s2 e2 j * 32 + dgN b s2 e2 j := rfl
    rw [e1, e3, pkN_eq h (j := j), h j]
abbrev LT (b : Nat → Int) (s e : Nat) : Prop := s ≤ e ∧ e - s ≤ 6 ∧ ∀ i : Nat, s ≤ i → i < e → 97 ≤ b i ∧ b i ≤ 122
theorem dgN_r {b : Nat → Int} {s e : Nat} (h : LT b s e) (q : Nat) : 0 ≤ dgN b s e q ∧ dgN b s e q < 32 ∧ (s + q < e → 0 < dgN b s e q) := by
  unfold dgN
  split
  · rename_i z
    have := h.2.2 (s + q) (by omega) z
    omega
  · omega
/-- packed names are the same just if the names are -/
theorem pkF_iff {b : Nat → Int} {s e s2 e2 : Nat} (h : LT b s e) (h2 : LT b s2 e2) : pkF b s e = pkF b s2 e2 ↔ (e2 = s2 + (e - s) ∧ ∀ q : Nat, q < e - s → b (s2 + q) = b (s + q)) := by
  constructor
  · intro z
    have d := pkN_inj (fun q => ⟨(dgN_r h q).1, (dgN_r h q).2.1⟩) (fun q => ⟨(dgN_r h2 q).1, (dgN_r h2 q).2.1⟩) (j := 6) z
    have len : e - s = e2 - s2 := by
      rcases Nat.lt_trichotomy (e - s) (e2 - s2) with y | y | y
      · have a := d (e - s) (by omega)
        have c := (dgN_r h2 (e - s)).2.2 (by omega)
        have e0 : dgN b s e (e - s) = 0 := if_neg (by omega)
        omega
      · exact y
      · have a := d (e2 - s2) (by omega)
        have c := (dgN_r h (e2 - s2)).2.2 (by omega)
        have e0 : dgN b s2 e2 (e2 - s2) = 0 := if_neg (by omega)
        omega
    refine ⟨by omega, fun q hq => ?_⟩
    have a := d q (by omega)
    have e0 : dgN b s e q = b (s + q) - 96 := if_pos (by omega)
    have e1 : dgN b s2 e2 q = b (s2 + q) - 96 := if_pos (by omega)
    omega
  · rintro ⟨z, y⟩
    refine pkN_eq (fun q => ?_)
    unfold dgN
    by_cases c : s + q < e
    · rw [if_pos c, if_pos (by omega), y q (by omega)]
    · rw [if_neg c, if_neg (by omega)]
def fiN (g : Nat → Int) (z : Int) : Nat → Nat → Int
  | _, 0 => -1
  | j, n + 1 => if g j = z then j else fiN g z (j + 1) n
theorem fiN_r {g : Nat → Int} {z : Int} : ∀ {n j : Nat}, -1 ≤ fiN g z j n ∧ fiN g z j n < (j + n : Nat)
  | 0, j => by rw [fiN]; omega
  | n + 1, j => by
    have := fiN_r (g := g) (z := z) (n := n) (j := j + 1)
    rw [fiN]
    split <;> omega
theorem fiN_cg {g g2 : Nat → Int} {z : Int} : ∀ {n j : Nat}, (∀ i : Nat, j ≤ i → i < j + n → g i = g2 i) → fiN g z j n = fiN g2 z j n
  | 0, _, _ => rfl
  | n + 1, j, h => by rw [fiN, fiN, h j (by omega) (by omega), fiN_cg (n := n) (j := j + 1) (fun i a c => h i (by omega) (by omega))]
/-- the names that are told -/
abbrev NF (h : Hp) (F : Nat) : Prop := h 4 1 = F ∧ F ≤ 8 ∧ ∀ k : Nat, k < F → 0 ≤ h 9 k ∧ h 9 k ≤ 500 ∧ 0 ≤ h 10 k ∧ h 10 k ≤ 500 ∧ LT (h 3) (h 9 k).toNat (h 10 k).toNat
def nmF (h : Hp) (k : Nat) : Int := pkF (h 3) (h 9 k).toNat (h 10 k).toNat
def fiH (h : Hp) (n p : Nat) (F : Nat) : Int := fiN (nmF h) (pkF (h 3) (tS (h 3) n p) (tE (h 3) n p)) 0 F
theorem FrP.nf {h g : Hp} {F : Nat} (f : FrP h g) (t : NF h F) : NF g F := by
  refine ⟨(f 4 1 (by decide) (by decide)).trans t.1, t.2.1, fun k hk => ?_⟩
  rw [f 9 k (by omega) (by omega), f 10 k (by omega) (by omega), f.b]
  exact t.2.2 k hk
theorem FrP.nm {h g : Hp} (f : FrP h g) : nmF g = nmF h := by
  funext k
  unfold nmF
  rw [f 9 k (by omega) (by omega), f 10 k (by omega) (by omega), f.b]
theorem FrP.fi {h g : Hp} {n p F : Nat} (f : FrP h g) : fiH g n p F = fiH h n p F := by
  unfold fiH
  rw [f.nm, f.b]
set_option maxRecDepth 20000 in
set_option maxHeartbeats 400000 in
theorem sp_X3_checkName {d : Nat} (hd : 6 ≤ d) {h : Hp} {n : Nat} {s : Sg} (hx : TX h n) (hp : PS h n s) {P : Hp → Prop} (k : ∀ h' : Hp, (FrP h h') → (PS h' n (cnS (h 3) n s)) → P h') : Cl d mX3_checkName [.inr (.inr 14)] h (pV P) := by
  refine Cl.of (L := [some (.inr (.inr 14))]) (by decide +kernel) (Nat.le_of_ble_eq_true rfl) rfl ?_
  obtain ⟨d, rfl⟩ : ∃ q, d = q + 1 := ⟨d - 1, by omega⟩
  have pr := hp.r
  have tk := hp.1.1
  have e2 : (h 2 2).toNat = tS (h 3) n s.1 := by have := hp.1.2.1; omega
  have e3 : (h 2 3).toNat = tE (h 3) n s.1 := by have := hp.1.2.2.1; omega
  have i2 := hp.1.2.1
  have i3 := hp.1.2.2.1
  have kr := kwI_r (h 3) (tS (h 3) n s.1) (tE (h 3) n s.1)
  have nn := hx.2.1
  refine r_aload_n dX3_checkName_0 rfl rfl ?_
  refine r_getR dX3_checkName_1 fl_X3_25 sh_14 rfl ?_
  refine r_getI dX3_checkName_4 fl_X3_46 sh_2 rfl ?_
  refine r_iconst dX3_checkName_7 ?_
  refine r_icmp_ne (tgt := 39) dX3_checkName_8 rfl (by omega) ⟨by decide, by decide⟩ (fun c_8 => ?_) (fun c_8 => ?_)
  · refine r_aload_n dX3_checkName_39 rfl rfl ?_
    refine r_iconst dX3_checkName_40 ?_
    refine r_callVU (av := [_]) (M' := mX3_fail) dX3_checkName_41 vX3_fail ml_X3_58 sh_14 (by decide) rfl rfl rfl rfl (by simp [wtA]) (sp_X3_fail (by omega) hx hp (by omega) (fun h_41 f0_41 f1_41 => ?_))
    refine r_vret dX3_checkName_44 rfl ?_
    have e : cnS (h 3) n s = flS (h 3) n 1 s := if_neg (by omega)
    exact ⟨rfl, k _ f0_41 (by rw [e]; exact f1_41)⟩
  · refine r_aload_n dX3_checkName_11 rfl rfl ?_
    refine r_getR dX3_checkName_12 fl_X3_25 sh_14 rfl ?_
    refine r_getI dX3_checkName_15 fl_X3_125 sh_2 rfl ?_
    refine r_aload_n dX3_checkName_18 rfl rfl ?_
    refine r_getR dX3_checkName_19 fl_X3_25 sh_14 rfl ?_
    refine r_getI dX3_checkName_22 fl_X3_122 sh_2 rfl ?_
    refine r_isub dX3_checkName_25 ?_
    refine r_bipush dX3_checkName_26 (by decide +kernel) ?_
    refine r_icmp_gt (tgt := 39) dX3_checkName_28 rfl (by omega) ⟨by decide, by decide⟩ (fun c_28 => ?_) (fun c_28 => ?_)
    · refine r_aload_n dX3_checkName_39 rfl rfl ?_
      refine r_iconst dX3_checkName_40 ?_
      refine r_callVU (av := [_]) (M' := mX3_fail) dX3_checkName_41 vX3_fail ml_X3_58 sh_14 (by decide) rfl rfl rfl rfl (by simp [wtA]) (sp_X3_fail (by omega) hx hp (by omega) (fun h_41 f0_41 f1_41 => ?_))
      refine r_vret dX3_checkName_44 rfl ?_
      have e : cnS (h 3) n s = flS (h 3) n 1 s := if_neg (by omega)
      exact ⟨rfl, k _ f0_41 (by rw [e]; exact f1_41)⟩
    · refine r_aload_n dX3_checkName_31 rfl rfl ?_
      refine r_callVI (av := []) (M' := mX3_verbAtHand) dX3_checkName_32 vX3_verbAtHand ml_X3_61 sh_14 (by decide) rfl rfl rfl rfl (by simp [wtA]) (sp_X3_verbAtHand (by omega) (by omega) (by omega) hx.2.2 ?_)
      refine r_eqI (y := kwI (h 3) (tS (h 3) n s.1) (tE (h 3) n s.1)) (by rw [if_pos (by omega), e2, e3]) ?_
      refine r_iconst dX3_checkName_35 ?_
      refine r_icmp_eq (tgt := 44) dX3_checkName_36 rfl (by omega) ⟨by decide, by decide⟩ (fun c_36 => ?_) (fun c_36 => ?_)
      · refine r_vret dX3_checkName_44 rfl ?_
        have e : cnS (h 3) n s = s := if_pos (by omega)
        exact ⟨rfl, k h FrP.rf (by rw [e]; exact hp)⟩
      · refine r_aload_n dX3_checkName_39 rfl rfl ?_
        refine r_iconst dX3_checkName_40 ?_
        refine r_callVU (av := [_]) (M' := mX3_fail) dX3_checkName_41 vX3_fail ml_X3_58 sh_14 (by decide) rfl rfl rfl rfl (by simp [wtA]) (sp_X3_fail (by omega) hx hp (by omega) (fun h_41 f0_41 f1_41 => ?_))
        refine r_vret dX3_checkName_44 rfl ?_
        have e : cnS (h 3) n s = flS (h 3) n 1 s := if_neg (by omega)
        exact ⟨rfl, k _ f0_41 (by rw [e]; exact f1_41)⟩
set_option maxRecDepth 20000 in
set_option maxHeartbeats 400000 in
theorem lp_formAt {d : Nat} (hd : 2 ≤ d) {P : Int → Hp → Prop} {h : Hp} {n F : Nat} {s : Sg} (hx : TX h n) (hp : PS h n s) (hF : NF h F) : ∀ (nn : Nat) (m j : Nat), (j + m = F) → (P (if tK (h 3) n s.1 = 1 ∧ tE (h 3) n s.1 - tS (h 3) n s.1 ≤ 6 then fiN (nmF h) (pkF (h 3) (tS (h 3) n s.1) (tE (h 3) n s.1)) j m else -1) h) → m < nn → WW mX3_formAtHand (d + 1) (pI P) 2 [some (.inr (.inr 14)), some (.inl (j : Int))] [] h := by
  intro nn
  induction nn with
  | zero => intro m j hj k; intros; omega
  | succ nn ih =>
    intro m j hj k hmu
    have pr := hp.r
    have nn := hx.2.1
    have tk := hp.1.1
    have e2 : (h 2 2).toNat = tS (h 3) n s.1 := by have := hp.1.2.1; omega
    have e3 : (h 2 3).toNat = tE (h 3) n s.1 := by have := hp.1.2.2.1; omega
    have ej : ((j : Int)).toNat = j := Int.toNat_natCast j
    have er := tE_r (b := h 3) hp.2.2.2.1
    refine r_iload_n dX3_formAtHand_2 rfl rfl ?_
    refine r_aload_n dX3_formAtHand_3 rfl rfl ?_
    refine r_getR dX3_formAtHand_4 fl_X3_29 sh_14 rfl ?_
    refine r_getI dX3_formAtHand_7 fl_X3_38 sh_4 rfl ?_
    refine r_icmp_ge (tgt := 49) dX3_formAtHand_10 rfl (by omega) (by omega) (fun c_10 => ?_) (fun c_10 => ?_)
    · refine r_iconst dX3_formAtHand_49 ?_
      refine r_iret dX3_formAtHand_50 rfl ?_
      have m0 : m = 0 := by omega
      subst m0
      refine ⟨_, rfl, eqP k ?_⟩
      split <;> rfl
    · have fj := hF.2.2 j (by omega)
      refine r_aload_n dX3_formAtHand_13 rfl rfl ?_
      refine r_getR dX3_formAtHand_14 fl_X3_25 sh_14 rfl ?_
      refine r_aload_n dX3_formAtHand_17 rfl rfl ?_
      refine r_getR dX3_formAtHand_18 fl_X3_29 sh_14 rfl ?_
      refine r_getR dX3_formAtHand_21 fl_X3_139 sh_4 rfl ?_
      refine r_iload_n dX3_formAtHand_24 rfl rfl ?_
      refine r_iald dX3_formAtHand_25 sh_9 (by decide) (by omega) ?_
      refine r_aload_n dX3_formAtHand_26 rfl rfl ?_
      refine r_getR dX3_formAtHand_27 fl_X3_29 sh_14 rfl ?_
      refine r_getR dX3_formAtHand_30 fl_X3_142 sh_4 rfl ?_
      refine r_iload_n dX3_formAtHand_33 rfl rfl ?_
      refine r_iald dX3_formAtHand_34 sh_10 (by decide) (by omega) ?_
      rw [ej, show h 9 j = ((h 9 j).toNat : Int) by omega, show h 10 j = ((h 10 j).toNat : Int) by omega]
      refine r_callVI (av := [_, _]) (M' := mX8_repeats) dX3_formAtHand_35 vX8_repeats ml_X3_145 sh_2 (by decide) rfl rfl rfl rfl (by simp [wtA]) (sp_X8_repeats (by omega) (by omega) (by omega) hx.2.2 (by omega) (fun z => ?_) (fun z => ?_))
      · refine r_if_eq (tgt := 43) dX3_formAtHand_38 rfl ⟨by decide, by decide⟩ (fun c_38 => absurd c_38 (by decide)) (fun c_38 => ?_)
        refine r_iload_n dX3_formAtHand_41 rfl rfl ?_
        refine r_iret dX3_formAtHand_42 rfl ?_
        obtain ⟨m, rfl⟩ : ∃ q, m = q + 1 := ⟨m - 1, by omega⟩
        rw [e2, e3] at z
        have c1 : tK (h 3) n s.1 = 1 ∧ tE (h 3) n s.1 - tS (h 3) n s.1 ≤ 6 := by omega
        have lt : LT (h 3) (tS (h 3) n s.1) (tE (h 3) n s.1) := ⟨er.1, c1.2, fun i a c => kd_1 (((tRun hp.2.2.2.1 (Or.inl c1.1)).2.2.1 i a c).trans c1.1)⟩
        rw [if_pos c1, fiN, if_pos (show nmF h j = _ from (pkF_iff fj.2.2.2.2 lt).mpr z.2)] at k
        exact ⟨_, rfl, k⟩
      · refine r_if_eq (tgt := 43) dX3_formAtHand_38 rfl ⟨by decide, by decide⟩ (fun c_38 => ?_) (fun c_38 => absurd c_38 (by decide))
        refine r_iinc (L' := [_, _]) dX3_formAtHand_43 rfl rfl (by decide) rfl ?_
        refine r_goto (tgt := 2) dX3_formAtHand_46 rfl ?_
        obtain ⟨m, rfl⟩ : ∃ q, m = q + 1 := ⟨m - 1, by omega⟩
        refine ih m (j + 1) (by omega) ?_ (by omega)
        by_cases c1 : tK (h 3) n s.1 = 1 ∧ tE (h 3) n s.1 - tS (h 3) n s.1 ≤ 6
        · rw [if_pos c1] at k ⊢
          have lt : LT (h 3) (tS (h 3) n s.1) (tE (h 3) n s.1) := ⟨er.1, c1.2, fun i a c => kd_1 (((tRun hp.2.2.2.1 (Or.inl c1.1)).2.2.1 i a c).trans c1.1)⟩
          rw [fiN, if_neg (fun y => z ⟨by omega, by rw [e2, e3]; exact (pkF_iff fj.2.2.2.2 lt).mp y⟩)] at k
          exact k
        · rw [if_neg c1] at k ⊢
          exact k
set_option maxRecDepth 20000 in
set_option maxHeartbeats 400000 in
theorem sp_X3_formAtHand {d : Nat} (hd : 3 ≤ d) {h : Hp} {n F : Nat} {s : Sg} (hx : TX h n) (hp : PS h n s) (hF : NF h F) {P : Int → Hp → Prop} (k : P (if tK (h 3) n s.1 = 1 ∧ tE (h 3) n s.1 - tS (h 3) n s.1 ≤ 6 then fiH h n s.1 F else -1) (h)) : Cl d mX3_formAtHand [.inr (.inr 14)] h (pI P) := by
  refine Cl.of (L := [some (.inr (.inr 14)), none]) (by decide +kernel) (Nat.le_of_ble_eq_true rfl) rfl ?_
  obtain ⟨d, rfl⟩ : ∃ q, d = q + 1 := ⟨d - 1, by omega⟩
  refine r_iconst dX3_formAtHand_0 ?_
  refine r_istore_n (L' := [_, _]) dX3_formAtHand_1 rfl rfl (by decide) rfl ?_
  exact lp_formAt (by omega) hx hp hF 9 F 0 (by omega) k (by omega)
/-- a name that must be told already (put), that must not be (form) -/
noncomputable def fpS (b : Nat → Int) (n : Nat) (fi : Int) (s : Sg) : Sg := if s.2.1 = 0 then (if nmP b n s.1 then (if 0 ≤ fi then (tE b n s.1, 0, s.2.2) else (s.1, 4, (tS b n s.1 : Int))) else (s.1, 1, (tS b n s.1 : Int))) else s
noncomputable def ffS (b : Nat → Int) (n : Nat) (fi : Int) (s : Sg) : Sg := if s.2.1 = 0 then (if nmP b n s.1 then (if 0 ≤ fi then (s.1, 3, (tS b n s.1 : Int)) else (tE b n s.1, 0, s.2.2)) else (s.1, 1, (tS b n s.1 : Int))) else s
theorem cnS_0 {b : Nat → Int} {n : Nat} {s : Sg} : (cnS b n s).2.1 = 0 ↔ (s.2.1 = 0 ∧ nmP b n s.1) := by
  unfold cnS
  by_cases c : nmP b n s.1
  · rw [if_pos c]
    exact ⟨fun z => ⟨z, c⟩, fun z => z.1⟩
  · rw [if_neg c]
    exact ⟨fun z => absurd z (flS_n (by decide)), fun z => absurd z.2 c⟩
theorem cnS_1 {b : Nat → Int} {n : Nat} {s : Sg} : (cnS b n s).1 = s.1 := by
  unfold cnS flS
  split
  · rfl
  · split <;> rfl
theorem cnS_b {b : Nat → Int} {n : Nat} {s : Sg} (h : s.2.1 = 0) (c : ¬ nmP b n s.1) : cnS b n s = (s.1, 1, (tS b n s.1 : Int)) := by
  unfold cnS flS
  rw [if_neg c, if_pos h]
theorem cnS_g {b : Nat → Int} {n : Nat} {s : Sg} (c : nmP b n s.1) : cnS b n s = s := if_pos c
theorem cnS_f {b : Nat → Int} {n : Nat} {s : Sg} (h : ¬ s.2.1 = 0) : cnS b n s = s := by
  unfold cnS
  rw [flS_f h]
  split <;> rfl
set_option maxRecDepth 20000 in
set_option maxHeartbeats 400000 in
theorem sp_X3_readFormName {d : Nat} (hd : 7 ≤ d) {i : Int} {h : Hp} {n F : Nat} {s : Sg} (hx : TX h n) (hp : PS h n s) (hF : NF h F) (hi : 0 ≤ i ∧ i < 60) {P : Hp → Prop} (k0 : ∀ h' : Hp, (∀ a k, ¬ (a = 2 ∧ (k = 1 ∨ k = 2 ∨ k = 3 ∨ k = 4)) → ¬ (a = 14 ∧ (k = 2 ∨ k = 3)) → ¬ (a = 7 ∧ k = i.toNat) → h' a k = h a k) → (PS h' n (fpS (h 3) n (fiH h n s.1 F) s)) → (h' 7 i.toNat = fiH h n s.1 F) → ((fpS (h 3) n (fiH h n s.1 F) s).2.1 = 0) → P h') (k1 : ∀ h' : Hp, (FrP h h') → (PS h' n (fpS (h 3) n (fiH h n s.1 F) s)) → (¬ (fpS (h 3) n (fiH h n s.1 F) s).2.1 = 0) → P h') : Cl d mX3_readFormName [.inr (.inr 14), .inl i] h (pV P) := by
  refine Cl.of (L := [some (.inr (.inr 14)), some (.inl i), none]) (by decide +kernel) (Nat.le_of_ble_eq_true rfl) rfl ?_
  obtain ⟨d, rfl⟩ : ∃ q, d = q + 1 := ⟨d - 1, by omega⟩
  refine r_aload_n dX3_readFormName_0 rfl rfl ?_
  refine r_callVU (av := []) (M' := mX3_checkName) dX3_readFormName_1 vX3_checkName ml_X3_116 sh_14 (by decide) rfl rfl rfl rfl (by simp [wtA]) (sp_X3_checkName (by omega) hx hp (fun h_1 f0_1 f1_1 => ?_))
  have frb := f0_1.b
  have fv0 : ∀ x : Int, x = (if tK (h_1 3) n (cnS (h 3) n s).1 = 1 ∧ tE (h_1 3) n (cnS (h 3) n s).1 - tS (h_1 3) n (cnS (h 3) n s).1 ≤ 6 then fiH h_1 n (cnS (h 3) n s).1 F else -1) → x = (if tK (h 3) n s.1 = 1 ∧ tE (h 3) n s.1 - tS (h 3) n s.1 ≤ 6 then fiH h n s.1 F else -1) := fun x e => by rw [e, frb, f0_1.fi, cnS_1]
  have fr := fiN_r (g := nmF h) (z := pkF (h 3) (tS (h 3) n s.1) (tE (h 3) n s.1)) (n := F) (j := 0)
  have fvr : -1 ≤ (if tK (h 3) n s.1 = 1 ∧ tE (h 3) n s.1 - tS (h 3) n s.1 ≤ 6 then fiH h n s.1 F else -1) ∧ (if tK (h 3) n s.1 = 1 ∧ tE (h 3) n s.1 - tS (h 3) n s.1 ≤ 6 then fiH h n s.1 F else -1) < F := by
    split
    · exact ⟨fr.1, by have := fr.2; rw [Nat.zero_add] at this; exact this⟩
    · omega
  refine r_aload_n dX3_readFormName_4 rfl rfl ?_
  refine r_callVI (av := []) (M' := mX3_formAtHand) dX3_readFormName_5 vX3_formAtHand ml_X3_119 sh_14 (by decide) rfl rfl rfl rfl (by simp [wtA]) (sp_X3_formAtHand (by omega) (f0_1.tx hx) f1_1 (f0_1.nf hF) ?_)
  refine r_nmI (fun x2 e_x2 => ?_)
  refine r_istore_n (L' := [_, _, _]) dX3_readFormName_8 rfl rfl (by decide) rfl ?_
  have e_x2 := fv0 _ e_x2
  refine r_iload_n dX3_readFormName_9 rfl rfl ?_
  refine r_iconst dX3_readFormName_10 ?_
  refine r_icmp_ne (tgt := 19) dX3_readFormName_11 rfl (by omega) ⟨by decide, by decide⟩ (fun c_11 => ?_) (fun c_11 => ?_)
  · refine r_aload_n dX3_readFormName_19 rfl rfl ?_
    refine r_getI dX3_readFormName_20 fl_X3_9 sh_14 rfl ?_
    refine r_if_ne (tgt := 43) dX3_readFormName_23 rfl (by have := f1_1.r; omega) (fun c_23 => ?_) (fun c_23 => ?_)
    · refine r_vret dX3_readFormName_43 rfl ?_
      have c0 : ¬ s.2.1 = 0 ∨ ¬ nmP (h 3) n s.1 := by
        by_cases z : s.2.1 = 0
        · right
          intro c
          have := cnS_0.mpr ⟨z, c⟩
          have := f1_1.2.1
          omega
        · exact Or.inl z
      have e : fpS (h 3) n (fiH h n s.1 F) s = cnS (h 3) n s := by
        unfold fpS
        by_cases z : s.2.1 = 0
        · rw [if_pos z, if_neg (c0.resolve_left (fun y => y z)), cnS_b z (c0.resolve_left (fun y => y z))]
        · rw [if_neg z, cnS_f z]
      exact ⟨rfl, k1 _ f0_1 (by rw [e]; exact f1_1) (by rw [e]; have := f1_1.2.1; omega)⟩
    · have c0 : (cnS (h 3) n s).2.1 = 0 := by have := f1_1.2.1; omega
      have c1 := cnS_0.mp c0
      have eC : cnS (h 3) n s = s := cnS_g c1.2
      refine r_aload_n dX3_readFormName_26 rfl rfl ?_
      refine r_getR dX3_readFormName_27 fl_X3_29 sh_14 rfl ?_
      refine r_getR dX3_readFormName_30 fl_X3_134 sh_4 rfl ?_
      refine r_iload_n dX3_readFormName_33 rfl rfl ?_
      refine r_iload_n dX3_readFormName_34 rfl rfl ?_
      refine r_iast dX3_readFormName_35 sh_7 (by decide) (by omega) ?_
      refine r_gh (fun g eg => ?_)
      have gp : PS g n s := by
        rw [eg]
        have := f1_1.up (a := 7) (k := i.toNat) (z := x2) (by decide) (by decide) (by omega)
        rw [eC] at this
        exact this
      have gx : TX g n := by rw [eg]; exact (f0_1.tx hx).up (by decide) (by decide)
      have g3 : g 3 = h 3 := by rw [eg]; exact frb
      refine r_aload_n dX3_readFormName_36 rfl rfl ?_
      refine r_getR dX3_readFormName_37 fl_X3_25 sh_14 rfl ?_
      refine r_callVU (av := []) (M' := mX8_step) dX3_readFormName_40 vX8_step ml_X3_52 sh_2 (by decide) rfl rfl rfl rfl (by simp [wtA]) (sp_X8_step (n := n) (p := tE (g 3) n s.1) (by omega) ⟨gx.1, gx.2.1⟩ ⟨gp.1.2.2.1, (tE_r gp.2.2.2.1).2.1⟩ gx.2.2 (fun h_40 f0_40 f1_40 => ?_))
      refine r_vret dX3_readFormName_43 rfl ?_
      have st := gp.step f0_40 f1_40
      have e : fpS (h 3) n (fiH h n s.1 F) s = (tE (g 3) n s.1, s.2.1, s.2.2) := by
        rw [g3]
        unfold fpS
        rw [if_pos c1.1, if_pos c1.2, if_pos (by rw [if_pos ⟨c1.2.1, c1.2.2.1⟩] at e_x2 fvr; omega), c1.1]
      refine ⟨rfl, k0 _ (fun a q z y x => ?_) (by rw [e]; exact st.1) ?_ (by rw [e]; exact c1.1)⟩
      · rw [st.2 a q z y, eg, show ∀ w, upH h_1 7 i.toNat w a q = h_1 a q from fun w => by unfold upH; rw [if_neg x]]
        exact f0_1 a q z y
      · rw [st.2 7 _ (by omega) (by omega), eg, up_s, e_x2, if_pos ⟨c1.2.1, c1.2.2.1⟩]
  · rw [e_x2] at c_11
    refine r_aload_n dX3_readFormName_14 rfl rfl ?_
    refine r_iconst dX3_readFormName_15 ?_
    refine r_callVU (av := [_]) (M' := mX3_fail) dX3_readFormName_16 vX3_fail ml_X3_58 sh_14 (by decide) rfl rfl rfl rfl (by simp [wtA]) (sp_X3_fail (by omega) (f0_1.tx hx) f1_1 (by omega) (fun h_16 f0_16 f1_16 => ?_))
    refine r_aload_n dX3_readFormName_19 rfl rfl ?_
    refine r_getI dX3_readFormName_20 fl_X3_9 sh_14 rfl ?_
    refine r_if_ne (tgt := 43) dX3_readFormName_23 rfl (by have := f1_16.r; omega) (fun c_23 => ?_) (fun c_23 => absurd (by have := f1_16.2.1; omega) (flS_n (b := h_1 3) (n := n) (k := 4) (s := cnS (h 3) n s) (by decide)))
    refine r_vret dX3_readFormName_43 rfl ?_
    have e : fpS (h 3) n (fiH h n s.1 F) s = flS (h_1 3) n 4 (cnS (h 3) n s) := by
      rw [frb]
      unfold fpS
      by_cases z : s.2.1 = 0
      · rw [if_pos z]
        by_cases c : nmP (h 3) n s.1
        · rw [if_pos c, cnS_g c, if_neg (by rw [if_pos ⟨c.1, c.2.1⟩] at c_11; omega)]
          unfold flS
          rw [if_pos z]
        · rw [if_neg c, cnS_b z c, flS_f (by show ¬ (1 : Int) = 0; decide)]
      · rw [if_neg z, cnS_f z, flS_f z]
    exact ⟨rfl, k1 _ (f0_1.tr f0_16) (by rw [e]; exact f1_16) (by rw [e]; exact flS_n (by decide))⟩
