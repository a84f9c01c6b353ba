/-! WORDS and NAMES -/
abbrev lnW (k : Nat) : Nat := lenS.getD k 0
def kwP (b : Nat → Int) (k s e : Nat) : Prop := e = s + lnW k ∧ ∀ j : Nat, j < lnW k → b (s + j) = chS k j
noncomputable def kwI (b : Nat → Int) (s e : Nat) : Int := iteP (kwP b 0 s e) 0 (iteP (kwP b 1 s e) 1 (iteP (kwP b 2 s e) 2 (iteP (kwP b 3 s e) 3 (iteP (kwP b 4 s e) 4 (iteP (kwP b 5 s e) 5 (iteP (kwP b 6 s e) 6 (-1)))))))
theorem kwI_of {b : Nat → Int} {s e k : Nat} (hk : k < 7) (h : kwP b k s e) (hn : ∀ q : Nat, q < k → ¬ kwP b q s e) : kwI b s e = k := by
  unfold kwI
  match k, hk with
  | 0, _ => exact iteP_t h
  | 1, _ => rw [iteP_f (hn 0 (by omega))]; exact iteP_t h
  | 2, _ => rw [iteP_f (hn 0 (by omega)), iteP_f (hn 1 (by omega))]; exact iteP_t h
  | 3, _ => rw [iteP_f (hn 0 (by omega)), iteP_f (hn 1 (by omega)), iteP_f (hn 2 (by omega))]; exact iteP_t h
  | 4, _ => rw [iteP_f (hn 0 (by omega)), iteP_f (hn 1 (by omega)), iteP_f (hn 2 (by omega)), iteP_f (hn 3 (by omega))]; exact iteP_t h
  | 5, _ => rw [iteP_f (hn 0 (by omega)), iteP_f (hn 1 (by omega)), iteP_f (hn 2 (by omega)), iteP_f (hn 3 (by omega)), iteP_f (hn 4 (by omega))]; exact iteP_t h
  | 6, _ => rw [iteP_f (hn 0 (by omega)), iteP_f (hn 1 (by omega)), iteP_f (hn 2 (by omega)), iteP_f (hn 3 (by omega)), iteP_f (hn 4 (by omega)), iteP_f (hn 5 (by omega))]; exact iteP_t h
theorem kwI_no {b : Nat → Int} {s e : Nat} (hn : ∀ q : Nat, q < 7 → ¬ kwP b q s e) : kwI b s e = -1 := by
  unfold kwI
  rw [iteP_f (hn 0 (by omega)), iteP_f (hn 1 (by omega)), iteP_f (hn 2 (by omega)), iteP_f (hn 3 (by omega)), iteP_f (hn 4 (by omega)), iteP_f (hn 5 (by omega)), iteP_f (hn 6 (by omega))]
theorem kwI_r (b : Nat → Int) (s e : Nat) : -1 ≤ kwI b s e ∧ kwI b s e ≤ 6 := by
  by_cases h : ∃ k : Nat, k < 7 ∧ kwP b k s e ∧ ∀ q : Nat, q < k → ¬ kwP b q s e
  · obtain ⟨k, h1, h2, h3⟩ := h
    rw [kwI_of h1 h2 h3]
    omega
  · have : ∀ k : Nat, k ≤ 7 → ∀ q : Nat, q < k → ¬ kwP b q s e := by
      intro k
      induction k with
      | zero => intro _ q hq; omega
      | succ k ih =>
        intro hk q hq
        by_cases e : q = k
        · subst e
          exact fun z => h ⟨q, by omega, z, ih (by omega)⟩
        · exact ih (by omega) q (by omega)
    rw [kwI_no (this 7 (Nat.le_refl _))]
    omega
theorem kd_i (c : Int) : (kd c = 4 ↔ c = 10 ∨ c = 32) ∧ (kd c = 1 ↔ 97 ≤ c ∧ c ≤ 122) ∧ (kd c = 2 ↔ 48 ≤ c ∧ c ≤ 57) ∧ (kd c = 59 ↔ c = 59) ∧ (kd c = 40 ↔ c = 40) ∧ (kd c = 41 ↔ c = 41) ∧ (kd c = 45 ↔ c = 45) := by
  unfold kd
  repeat' split
  all_goals omega
set_option maxRecDepth 20000 in
set_option maxHeartbeats 400000 in
theorem lp_spells0 {d : Nat} (hd : 3 ≤ d) {P : Int → Hp → Prop} {h : Hp} (hs : 0 ≤ h 2 2 ∧ h 2 2 ≤ h 2 3 ∧ h 2 3 ≤ 500) (hk : R32 (h 2 1)) (hb : BY (h 3)) (hl : h 2 3 - h 2 2 = 4) (h0 : h 2 1 = 1) (kt : (h 2 1 = 1 ∧ kwP (h 3) 0 (h 2 2).toNat (h 2 3).toNat) → P 1 h) (kf : ¬ (h 2 1 = 1 ∧ kwP (h 3) 0 (h 2 2).toNat (h 2 3).toNat) → P 0 h) : ∀ (nn : Nat) (j : Nat), (j ≤ 4) → (∀ q : Nat, q < j → h 3 ((h 2 2).toNat + q) = chS 0 q) → 4 - j < nn → WW mX8_spells (d + 1) (pI P) 28 [some (.inr (.inr 2)), some (.inr (.inr 1000)), some (.inl (j : Int))] [] h := by
  intro nn
  induction nn with
  | zero => intro j hj h1; intros; omega
  | succ nn ih =>
    intro j hj h1 hmu
    refine r_iload_n dX8_spells_28 rfl rfl ?_
    refine r_aload_n dX8_spells_29 rfl rfl ?_
    refine r_callT (a := 0) (av := []) (M' := mJ0_length_8abf5) (by decide) dX8_spells_30 vJ0_length_8abf5 rfl ml_X8_48 rfl rfl (by simp [wtA]) (sp_slength (by omega) (by decide) ?_)
    refine r_eqI (y := 4) rfl ?_
    refine r_icmp_ge (tgt := 63) dX8_spells_33 rfl (by omega) ⟨by decide, by decide⟩ (fun c_33 => ?_) (fun c_33 => ?_)
    · refine r_iconst dX8_spells_63 ?_
      refine r_zret dX8_spells_64 rfl (.inr rfl) ?_
      refine ⟨_, rfl, kt ⟨h0, ?_, fun q hq => h1 q ?_⟩⟩
      · show (h 2 3).toNat = (h 2 2).toNat + 4
        omega
      · have : q < 4 := hq
        omega
    · have e0 : (h 2 2 + (j : Int)).toNat = (h 2 2).toNat + j := by omega
      have hbj := hb ((h 2 2).toNat + j) (by omega)
      rw [← e0] at hbj
      have cr := (lenS_r 0 (by decide)).2 j (show j < 4 by omega)
      have ej : ((j : Int)).toNat = j := Int.toNat_natCast j
      refine r_aload_n dX8_spells_36 rfl rfl ?_
      refine r_getR dX8_spells_37 fl_X8_28 sh_2 rfl ?_
      refine r_aload_n dX8_spells_40 rfl rfl ?_
      refine r_getI dX8_spells_41 fl_X8_16 sh_2 rfl ?_
      refine r_iload_n dX8_spells_44 rfl rfl ?_
      refine r_iadd dX8_spells_45 ?_
      refine r_bald dX8_spells_46 sh_3 (by decide) (by omega) ?_
      refine r_aload_n dX8_spells_47 rfl rfl ?_
      refine r_iload_n dX8_spells_48 rfl rfl ?_
      refine r_callT (a := 0) (av := [_]) (M' := mJ0_charAt_5068e) (by decide) dX8_spells_49 vJ0_charAt_5068e rfl ml_X8_54 rfl rfl (by simp [wtA]) (sp_scharAt (by omega) (by decide) (show 0 ≤ (j : Int) ∧ (j : Int) < ((4 : Nat) : Int) by omega) ?_)
      rw [ej]
      refine r_icmp_eq (tgt := 57) dX8_spells_52 rfl (by omega) (by omega) (fun c_52 => ?_) (fun c_52 => ?_)
      · refine r_iinc (L' := [_, _, _]) dX8_spells_57 rfl rfl (by decide) rfl ?_
        refine r_goto (tgt := 28) dX8_spells_60 rfl ?_
        refine ih (j + 1) (by omega) (fun q hq => ?_) (by omega)
        by_cases e : q = j
        · rw [e, ← e0]; exact c_52
        · exact h1 q (by omega)
      · refine r_iconst dX8_spells_55 ?_
        refine r_zret dX8_spells_56 rfl (.inl rfl) ?_
        refine ⟨_, rfl, kf (fun z => c_52 ?_)⟩
        rw [e0]
        exact z.2.2 j (show j < 4 by omega)
set_option maxRecDepth 20000 in
set_option maxHeartbeats 400000 in
theorem sp_X8_spells_1000 {d : Nat} (hd : 4 ≤ d) {h : Hp}  (hs : 0 ≤ h 2 2 ∧ h 2 2 ≤ h 2 3 ∧ h 2 3 ≤ 500) (hk : R32 (h 2 1)) (hb : BY (h 3)) {P : Int → Hp → Prop} (kt : (h 2 1 = 1 ∧ kwP (h 3) 0 (h 2 2).toNat (h 2 3).toNat) → P 1 h) (kf : ¬ (h 2 1 = 1 ∧ kwP (h 3) 0 (h 2 2).toNat (h 2 3).toNat) → P 0 h) : Cl d mX8_spells [.inr (.inr 2), .inr (.inr 1000)] h (pI P) := by
  refine Cl.of (L := [some (.inr (.inr 2)), some (.inr (.inr 1000)), none]) (by decide +kernel) (Nat.le_of_ble_eq_true rfl) rfl ?_
  obtain ⟨d, rfl⟩ : ∃ q, d = q + 1 := ⟨d - 1, by omega⟩
  refine r_aload_n dX8_spells_0 rfl rfl ?_
  refine r_getI dX8_spells_1 fl_X8_13 sh_2 rfl ?_
  refine r_iconst dX8_spells_4 ?_
  refine r_icmp_ne (tgt := 24) dX8_spells_5 rfl (by omega) ⟨by decide, by decide⟩ (fun c_5 => ?_) (fun c_5 => ?_)
  · refine r_iconst dX8_spells_24 ?_
    refine r_zret dX8_spells_25 rfl (.inl rfl) ?_
    refine ⟨_, rfl, kf (fun z => ?_)⟩
    first
      | exact c_5 z.1
      | (have y : (h 2 3).toNat = (h 2 2).toNat + 4 := z.2.1
         omega)
  · refine r_aload_n dX8_spells_8 rfl rfl ?_
    refine r_getI dX8_spells_9 fl_X8_19 sh_2 rfl ?_
    refine r_aload_n dX8_spells_12 rfl rfl ?_
    refine r_getI dX8_spells_13 fl_X8_16 sh_2 rfl ?_
    refine r_isub dX8_spells_16 ?_
    refine r_aload_n dX8_spells_17 rfl rfl ?_
    refine r_callT (a := 0) (av := []) (M' := mJ0_length_8abf5) (by decide) dX8_spells_18 vJ0_length_8abf5 rfl ml_X8_48 rfl rfl (by simp [wtA]) (sp_slength (by omega) (by decide) ?_)
    refine r_eqI (y := 4) rfl ?_
    refine r_icmp_eq (tgt := 26) dX8_spells_21 rfl (by omega) ⟨by decide, by decide⟩ (fun c_21 => ?_) (fun c_21 => ?_)
    · refine r_iconst dX8_spells_26 ?_
      refine r_istore_n (L' := [_, _, _]) dX8_spells_27 rfl rfl (by decide) rfl ?_
      exact lp_spells0 (by omega) hs hk hb (by omega) (by omega) kt kf 5 0 (by omega) (fun q hq => absurd hq (Nat.not_lt_zero q)) (by omega)
    · refine r_iconst dX8_spells_24 ?_
      refine r_zret dX8_spells_25 rfl (.inl rfl) ?_
      refine ⟨_, rfl, kf (fun z => ?_)⟩
      first
        | exact c_5 z.1
        | (have y : (h 2 3).toNat = (h 2 2).toNat + 4 := z.2.1
           omega)
set_option maxRecDepth 20000 in
set_option maxHeartbeats 400000 in
theorem lp_spells1 {d : Nat} (hd : 3 ≤ d) {P : Int → Hp → Prop} {h : Hp} (hs : 0 ≤ h 2 2 ∧ h 2 2 ≤ h 2 3 ∧ h 2 3 ≤ 500) (hk : R32 (h 2 1)) (hb : BY (h 3)) (hl : h 2 3 - h 2 2 = 3) (h0 : h 2 1 = 1) (kt : (h 2 1 = 1 ∧ kwP (h 3) 1 (h 2 2).toNat (h 2 3).toNat) → P 1 h) (kf : ¬ (h 2 1 = 1 ∧ kwP (h 3) 1 (h 2 2).toNat (h 2 3).toNat) → P 0 h) : ∀ (nn : Nat) (j : Nat), (j ≤ 3) → (∀ q : Nat, q < j → h 3 ((h 2 2).toNat + q) = chS 1 q) → 3 - j < nn → WW mX8_spells (d + 1) (pI P) 28 [some (.inr (.inr 2)), some (.inr (.inr 1001)), some (.inl (j : Int))] [] h := by
  intro nn
  induction nn with
  | zero => intro j hj h1; intros; omega
  | succ nn ih =>
    intro j hj h1 hmu
    refine r_iload_n dX8_spells_28 rfl rfl ?_
    refine r_aload_n dX8_spells_29 rfl rfl ?_
    refine r_callT (a := 1) (av := []) (M' := mJ0_length_8abf5) (by decide) dX8_spells_30 vJ0_length_8abf5 rfl ml_X8_48 rfl rfl (by simp [wtA]) (sp_slength (by omega) (by decide) ?_)
    refine r_eqI (y := 3) rfl ?_
    refine r_icmp_ge (tgt := 63) dX8_spells_33 rfl (by omega) ⟨by decide, by decide⟩ (fun c_33 => ?_) (fun c_33 => ?_)
    · refine r_iconst dX8_spells_63 ?_
      refine r_zret dX8_spells_64 rfl (.inr rfl) ?_
      refine ⟨_, rfl, kt ⟨h0, ?_, fun q hq => h1 q ?_⟩⟩
      · show (h 2 3).toNat = (h 2 2).toNat + 3
        omega
      · have : q < 3 := hq
        omega
    · have e0 : (h 2 2 + (j : Int)).toNat = (h 2 2).toNat + j := by omega
      have hbj := hb ((h 2 2).toNat + j) (by omega)
      rw [← e0] at hbj
      have cr := (lenS_r 1 (by decide)).2 j (show j < 3 by omega)
      have ej : ((j : Int)).toNat = j := Int.toNat_natCast j
      refine r_aload_n dX8_spells_36 rfl rfl ?_
      refine r_getR dX8_spells_37 fl_X8_28 sh_2 rfl ?_
      refine r_aload_n dX8_spells_40 rfl rfl ?_
      refine r_getI dX8_spells_41 fl_X8_16 sh_2 rfl ?_
      refine r_iload_n dX8_spells_44 rfl rfl ?_
      refine r_iadd dX8_spells_45 ?_
      refine r_bald dX8_spells_46 sh_3 (by decide) (by omega) ?_
      refine r_aload_n dX8_spells_47 rfl rfl ?_
      refine r_iload_n dX8_spells_48 rfl rfl ?_
      refine r_callT (a := 1) (av := [_]) (M' := mJ0_charAt_5068e) (by decide) dX8_spells_49 vJ0_charAt_5068e rfl ml_X8_54 rfl rfl (by simp [wtA]) (sp_scharAt (by omega) (by decide) (show 0 ≤ (j : Int) ∧ (j : Int) < ((3 : Nat) : Int) by omega) ?_)
      rw [ej]
      refine r_icmp_eq (tgt := 57) dX8_spells_52 rfl (by omega) (by omega) (fun c_52 => ?_) (fun c_52 => ?_)
      · refine r_iinc (L' := [_, _, _]) dX8_spells_57 rfl rfl (by decide) rfl ?_
        refine r_goto (tgt := 28) dX8_spells_60 rfl ?_
        refine ih (j + 1) (by omega) (fun q hq => ?_) (by omega)
        by_cases e : q = j
        · rw [e, ← e0]; exact c_52
        · exact h1 q (by omega)
      · refine r_iconst dX8_spells_55 ?_
        refine r_zret dX8_spells_56 rfl (.inl rfl) ?_
        refine ⟨_, rfl, kf (fun z => c_52 ?_)⟩
        rw [e0]
        exact z.2.2 j (show j < 3 by omega)
set_option maxRecDepth 20000 in
set_option maxHeartbeats 400000 in
theorem sp_X8_spells_1001 {d : Nat} (hd : 4 ≤ d) {h : Hp}  (hs : 0 ≤ h 2 2 ∧ h 2 2 ≤ h 2 3 ∧ h 2 3 ≤ 500) (hk : R32 (h 2 1)) (hb : BY (h 3)) {P : Int → Hp → Prop} (kt : (h 2 1 = 1 ∧ kwP (h 3) 1 (h 2 2).toNat (h 2 3).toNat) → P 1 h) (kf : ¬ (h 2 1 = 1 ∧ kwP (h 3) 1 (h 2 2).toNat (h 2 3).toNat) → P 0 h) : Cl d mX8_spells [.inr (.inr 2), .inr (.inr 1001)] h (pI P) := by
  refine Cl.of (L := [some (.inr (.inr 2)), some (.inr (.inr 1001)), none]) (by decide +kernel) (Nat.le_of_ble_eq_true rfl) rfl ?_
  obtain ⟨d, rfl⟩ : ∃ q, d = q + 1 := ⟨d - 1, by omega⟩
  refine r_aload_n dX8_spells_0 rfl rfl ?_
  refine r_getI dX8_spells_1 fl_X8_13 sh_2 rfl ?_
  refine r_iconst dX8_spells_4 ?_
  refine r_icmp_ne (tgt := 24) dX8_spells_5 rfl (by omega) ⟨by decide, by decide⟩ (fun c_5 => ?_) (fun c_5 => ?_)
  · refine r_iconst dX8_spells_24 ?_
    refine r_zret dX8_spells_25 rfl (.inl rfl) ?_
    refine ⟨_, rfl, kf (fun z => ?_)⟩
    first
      | exact c_5 z.1
      | (have y : (h 2 3).toNat = (h 2 2).toNat + 3 := z.2.1
         omega)
  · refine r_aload_n dX8_spells_8 rfl rfl ?_
    refine r_getI dX8_spells_9 fl_X8_19 sh_2 rfl ?_
    refine r_aload_n dX8_spells_12 rfl rfl ?_
    refine r_getI dX8_spells_13 fl_X8_16 sh_2 rfl ?_
    refine r_isub dX8_spells_16 ?_
    refine r_aload_n dX8_spells_17 rfl rfl ?_
    refine r_callT (a := 1) (av := []) (M' := mJ0_length_8abf5) (by decide) dX8_spells_18 vJ0_length_8abf5 rfl ml_X8_48 rfl rfl (by simp [wtA]) (sp_slength (by omega) (by decide) ?_)
    refine r_eqI (y := 3) rfl ?_
    refine r_icmp_eq (tgt := 26) dX8_spells_21 rfl (by omega) ⟨by decide, by decide⟩ (fun c_21 => ?_) (fun c_21 => ?_)
    · refine r_iconst dX8_spells_26 ?_
      refine r_istore_n (L' := [_, _, _]) dX8_spells_27 rfl rfl (by decide) rfl ?_
      exact lp_spells1 (by omega) hs hk hb (by omega) (by omega) kt kf 4 0 (by omega) (fun q hq => absurd hq (Nat.not_lt_zero q)) (by omega)
    · refine r_iconst dX8_spells_24 ?_
      refine r_zret dX8_spells_25 rfl (.inl rfl) ?_
      refine ⟨_, rfl, kf (fun z => ?_)⟩
      first
        | exact c_5 z.1
        | (have y : (h 2 3).toNat = (h 2 2).toNat + 3 := z.2.1
           omega)
set_option maxRecDepth 20000 in
set_option maxHeartbeats 400000 in
theorem lp_spells2 {d : Nat} (hd : 3 ≤ d) {P : Int → Hp → Prop} {h : Hp} (hs : 0 ≤ h 2 2 ∧ h 2 2 ≤ h 2 3 ∧ h 2 3 ≤ 500) (hk : R32 (h 2 1)) (hb : BY (h 3)) (hl : h 2 3 - h 2 2 = 4) (h0 : h 2 1 = 1) (kt : (h 2 1 = 1 ∧ kwP (h 3) 2 (h 2 2).toNat (h 2 3).toNat) → P 1 h) (kf : ¬ (h 2 1 = 1 ∧ kwP (h 3) 2 (h 2 2).toNat (h 2 3).toNat) → P 0 h) : ∀ (nn : Nat) (j : Nat), (j ≤ 4) → (∀ q : Nat, q < j → h 3 ((h 2 2).toNat + q) = chS 2 q) → 4 - j < nn → WW mX8_spells (d + 1) (pI P) 28 [some (.inr (.inr 2)), some (.inr (.inr 1002)), some (.inl (j : Int))] [] h := by
  intro nn
  induction nn with
  | zero => intro j hj h1; intros; omega
  | succ nn ih =>
    intro j hj h1 hmu
    refine r_iload_n dX8_spells_28 rfl rfl ?_
    refine r_aload_n dX8_spells_29 rfl rfl ?_
    refine r_callT (a := 2) (av := []) (M' := mJ0_length_8abf5) (by decide) dX8_spells_30 vJ0_length_8abf5 rfl ml_X8_48 rfl rfl (by simp [wtA]) (sp_slength (by omega) (by decide) ?_)
    refine r_eqI (y := 4) rfl ?_
    refine r_icmp_ge (tgt := 63) dX8_spells_33 rfl (by omega) ⟨by decide, by decide⟩ (fun c_33 => ?_) (fun c_33 => ?_)
    · refine r_iconst dX8_spells_63 ?_
      refine r_zret dX8_spells_64 rfl (.inr rfl) ?_
      refine ⟨_, rfl, kt ⟨h0, ?_, fun q hq => h1 q ?_⟩⟩
      · show (h 2 3).toNat = (h 2 2).toNat + 4
        omega
      · have : q < 4 := hq
        omega
    · have e0 : (h 2 2 + (j : Int)).toNat = (h 2 2).toNat + j := by omega
      have hbj := hb ((h 2 2).toNat + j) (by omega)
      rw [← e0] at hbj
      have cr := (lenS_r 2 (by decide)).2 j (show j < 4 by omega)
      have ej : ((j : Int)).toNat = j := Int.toNat_natCast j
      refine r_aload_n dX8_spells_36 rfl rfl ?_
      refine r_getR dX8_spells_37 fl_X8_28 sh_2 rfl ?_
      refine r_aload_n dX8_spells_40 rfl rfl ?_
      refine r_getI dX8_spells_41 fl_X8_16 sh_2 rfl ?_
      refine r_iload_n dX8_spells_44 rfl rfl ?_
      refine r_iadd dX8_spells_45 ?_
      refine r_bald dX8_spells_46 sh_3 (by decide) (by omega) ?_
      refine r_aload_n dX8_spells_47 rfl rfl ?_
      refine r_iload_n dX8_spells_48 rfl rfl ?_
      refine r_callT (a := 2) (av := [_]) (M' := mJ0_charAt_5068e) (by decide) dX8_spells_49 vJ0_charAt_5068e rfl ml_X8_54 rfl rfl (by simp [wtA]) (sp_scharAt (by omega) (by decide) (show 0 ≤ (j : Int) ∧ (j : Int) < ((4 : Nat) : Int) by omega) ?_)
      rw [ej]
      refine r_icmp_eq (tgt := 57) dX8_spells_52 rfl (by omega) (by omega) (fun c_52 => ?_) (fun c_52 => ?_)
      · refine r_iinc (L' := [_, _, _]) dX8_spells_57 rfl rfl (by decide) rfl ?_
        refine r_goto (tgt := 28) dX8_spells_60 rfl ?_
        refine ih (j + 1) (by omega) (fun q hq => ?_) (by omega)
        by_cases e : q = j
        · rw [e, ← e0]; exact c_52
        · exact h1 q (by omega)
      · refine r_iconst dX8_spells_55 ?_
        refine r_zret dX8_spells_56 rfl (.inl rfl) ?_
        refine ⟨_, rfl, kf (fun z => c_52 ?_)⟩
        rw [e0]
        exact z.2.2 j (show j < 4 by omega)
set_option maxRecDepth 20000 in
set_option maxHeartbeats 400000 in
theorem sp_X8_spells_1002 {d : Nat} (hd : 4 ≤ d) {h : Hp}  (hs : 0 ≤ h 2 2 ∧ h 2 2 ≤ h 2 3 ∧ h 2 3 ≤ 500) (hk : R32 (h 2 1)) (hb : BY (h 3)) {P : Int → Hp → Prop} (kt : (h 2 1 = 1 ∧ kwP (h 3) 2 (h 2 2).toNat (h 2 3).toNat) → P 1 h) (kf : ¬ (h 2 1 = 1 ∧ kwP (h 3) 2 (h 2 2).toNat (h 2 3).toNat) → P 0 h) : Cl d mX8_spells [.inr (.inr 2), .inr (.inr 1002)] h (pI P) := by
  refine Cl.of (L := [some (.inr (.inr 2)), some (.inr (.inr 1002)), none]) (by decide +kernel) (Nat.le_of_ble_eq_true rfl) rfl ?_
  obtain ⟨d, rfl⟩ : ∃ q, d = q + 1 := ⟨d - 1, by omega⟩
  refine r_aload_n dX8_spells_0 rfl rfl ?_
  refine r_getI dX8_spells_1 fl_X8_13 sh_2 rfl ?_
  refine r_iconst dX8_spells_4 ?_
  refine r_icmp_ne (tgt := 24) dX8_spells_5 rfl (by omega) ⟨by decide, by decide⟩ (fun c_5 => ?_) (fun c_5 => ?_)
  · refine r_iconst dX8_spells_24 ?_
    refine r_zret dX8_spells_25 rfl (.inl rfl) ?_
    refine ⟨_, rfl, kf (fun z => ?_)⟩
    first
      | exact c_5 z.1
      | (have y : (h 2 3).toNat = (h 2 2).toNat + 4 := z.2.1
         omega)
  · refine r_aload_n dX8_spells_8 rfl rfl ?_
    refine r_getI dX8_spells_9 fl_X8_19 sh_2 rfl ?_
    refine r_aload_n dX8_spells_12 rfl rfl ?_
    refine r_getI dX8_spells_13 fl_X8_16 sh_2 rfl ?_
    refine r_isub dX8_spells_16 ?_
    refine r_aload_n dX8_spells_17 rfl rfl ?_
    refine r_callT (a := 2) (av := []) (M' := mJ0_length_8abf5) (by decide) dX8_spells_18 vJ0_length_8abf5 rfl ml_X8_48 rfl rfl (by simp [wtA]) (sp_slength (by omega) (by decide) ?_)
    refine r_eqI (y := 4) rfl ?_
    refine r_icmp_eq (tgt := 26) dX8_spells_21 rfl (by omega) ⟨by decide, by decide⟩ (fun c_21 => ?_) (fun c_21 => ?_)
    · refine r_iconst dX8_spells_26 ?_
      refine r_istore_n (L' := [_, _, _]) dX8_spells_27 rfl rfl (by decide) rfl ?_
      exact lp_spells2 (by omega) hs hk hb (by omega) (by omega) kt kf 5 0 (by omega) (fun q hq => absurd hq (Nat.not_lt_zero q)) (by omega)
    · refine r_iconst dX8_spells_24 ?_
      refine r_zret dX8_spells_25 rfl (.inl rfl) ?_
      refine ⟨_, rfl, kf (fun z => ?_)⟩
      first
        | exact c_5 z.1
        | (have y : (h 2 3).toNat = (h 2 2).toNat + 4 := z.2.1
           omega)
set_option maxRecDepth 20000 in
set_option maxHeartbeats 400000 in
theorem lp_spells3 {d : Nat} (hd : 3 ≤ d) {P : Int → Hp → Prop} {h : Hp} (hs : 0 ≤ h 2 2 ∧ h 2 2 ≤ h 2 3 ∧ h 2 3 ≤ 500) (hk : R32 (h 2 1)) (hb : BY (h 3)) (hl : h 2 3 - h 2 2 = 2) (h0 : h 2 1 = 1) (kt : (h 2 1 = 1 ∧ kwP (h 3) 3 (h 2 2).toNat (h 2 3).toNat) → P 1 h) (kf : ¬ (h 2 1 = 1 ∧ kwP (h 3) 3 (h 2 2).toNat (h 2 3).toNat) → P 0 h) : ∀ (nn : Nat) (j : Nat), (j ≤ 2) → (∀ q : Nat, q < j → h 3 ((h 2 2).toNat + q) = chS 3 q) → 2 - j < nn → WW mX8_spells (d + 1) (pI P) 28 [some (.inr (.inr 2)), some (.inr (.inr 1003)), some (.inl (j : Int))] [] h := by
  intro nn
  induction nn with
  | zero => intro j hj h1; intros; omega
  | succ nn ih =>
    intro j hj h1 hmu
    refine r_iload_n dX8_spells_28 rfl rfl ?_
    refine r_aload_n dX8_spells_29 rfl rfl ?_
    refine r_callT (a := 3) (av := []) (M' := mJ0_length_8abf5) (by decide) dX8_spells_30 vJ0_length_8abf5 rfl ml_X8_48 rfl rfl (by simp [wtA]) (sp_slength (by omega) (by decide) ?_)
    refine r_eqI (y := 2) rfl ?_
    refine r_icmp_ge (tgt := 63) dX8_spells_33 rfl (by omega) ⟨by decide, by decide⟩ (fun c_33 => ?_) (fun c_33 => ?_)
    · refine r_iconst dX8_spells_63 ?_
      refine r_zret dX8_spells_64 rfl (.inr rfl) ?_
      refine ⟨_, rfl, kt ⟨h0, ?_, fun q hq => h1 q ?_⟩⟩
      · show (h 2 3).toNat = (h 2 2).toNat + 2
        omega
      · have : q < 2 := hq
        omega
    · have e0 : (h 2 2 + (j : Int)).toNat = (h 2 2).toNat + j := by omega
      have hbj := hb ((h 2 2).toNat + j) (by omega)
      rw [← e0] at hbj
      have cr := (lenS_r 3 (by decide)).2 j (show j < 2 by omega)
      have ej : ((j : Int)).toNat = j := Int.toNat_natCast j
      refine r_aload_n dX8_spells_36 rfl rfl ?_
      refine r_getR dX8_spells_37 fl_X8_28 sh_2 rfl ?_
      refine r_aload_n dX8_spells_40 rfl rfl ?_
      refine r_getI dX8_spells_41 fl_X8_16 sh_2 rfl ?_
      refine r_iload_n dX8_spells_44 rfl rfl ?_
      refine r_iadd dX8_spells_45 ?_
      refine r_bald dX8_spells_46 sh_3 (by decide) (by omega) ?_
      refine r_aload_n dX8_spells_47 rfl rfl ?_
      refine r_iload_n dX8_spells_48 rfl rfl ?_
      refine r_callT (a := 3) (av := [_]) (M' := mJ0_charAt_5068e) (by decide) dX8_spells_49 vJ0_charAt_5068e rfl ml_X8_54 rfl rfl (by simp [wtA]) (sp_scharAt (by omega) (by decide) (show 0 ≤ (j : Int) ∧ (j : Int) < ((2 : Nat) : Int) by omega) ?_)
      rw [ej]
      refine r_icmp_eq (tgt := 57) dX8_spells_52 rfl (by omega) (by omega) (fun c_52 => ?_) (fun c_52 => ?_)
      · refine r_iinc (L' := [_, _, _]) dX8_spells_57 rfl rfl (by decide) rfl ?_
        refine r_goto (tgt := 28) dX8_spells_60 rfl ?_
        refine ih (j + 1) (by omega) (fun q hq => ?_) (by omega)
        by_cases e : q = j
        · rw [e, ← e0]; exact c_52
        · exact h1 q (by omega)
      · refine r_iconst dX8_spells_55 ?_
        refine r_zret dX8_spells_56 rfl (.inl rfl) ?_
        refine ⟨_, rfl, kf (fun z => c_52 ?_)⟩
        rw [e0]
        exact z.2.2 j (show j < 2 by omega)
set_option maxRecDepth 20000 in
set_option maxHeartbeats 400000 in
theorem sp_X8_spells_1003 {d : Nat} (hd : 4 ≤ d) {h : Hp}  (hs : 0 ≤ h 2 2 ∧ h 2 2 ≤ h 2 3 ∧ h 2 3 ≤ 500) (hk : R32 (h 2 1)) (hb : BY (h 3)) {P : Int → Hp → Prop} (kt : (h 2 1 = 1 ∧ kwP (h 3) 3 (h 2 2).toNat (h 2 3).toNat) → P 1 h) (kf : ¬ (h 2 1 = 1 ∧ kwP (h 3) 3 (h 2 2).toNat (h 2 3).toNat) → P 0 h) : Cl d mX8_spells [.inr (.inr 2), .inr (.inr 1003)] h (pI P) := by
  refine Cl.of (L := [some (.inr (.inr 2)), some (.inr (.inr 1003)), none]) (by decide +kernel) (Nat.le_of_ble_eq_true rfl) rfl ?_
  obtain ⟨d, rfl⟩ : ∃ q, d = q + 1 := ⟨d - 1, by omega⟩
  refine r_aload_n dX8_spells_0 rfl rfl ?_
  refine r_getI dX8_spells_1 fl_X8_13 sh_2 rfl ?_
  refine r_iconst dX8_spells_4 ?_
  refine r_icmp_ne (tgt := 24) dX8_spells_5 rfl (by omega) ⟨by decide, by decide⟩ (fun c_5 => ?_) (fun c_5 => ?_)
  · refine r_iconst dX8_spells_24 ?_
    refine r_zret dX8_spells_25 rfl (.inl rfl) ?_
    refine ⟨_, rfl, kf (fun z => ?_)⟩
    first
      | exact c_5 z.1
      | (have y : (h 2 3).toNat = (h 2 2).toNat + 2 := z.2.1
         omega)
  · refine r_aload_n dX8_spells_8 rfl rfl ?_
    refine r_getI dX8_spells_9 fl_X8_19 sh_2 rfl ?_
    refine r_aload_n dX8_spells_12 rfl rfl ?_
    refine r_getI dX8_spells_13 fl_X8_16 sh_2 rfl ?_
    refine r_isub dX8_spells_16 ?_
    refine r_aload_n dX8_spells_17 rfl rfl ?_
    refine r_callT (a := 3) (av := []) (M' := mJ0_length_8abf5) (by decide) dX8_spells_18 vJ0_length_8abf5 rfl ml_X8_48 rfl rfl (by simp [wtA]) (sp_slength (by omega) (by decide) ?_)
    refine r_eqI (y := 2) rfl ?_
    refine r_icmp_eq (tgt := 26) dX8_spells_21 rfl (by omega) ⟨by decide, by decide⟩ (fun c_21 => ?_) (fun c_21 => ?_)
    · refine r_iconst dX8_spells_26 ?_
      refine r_istore_n (L' := [_, _, _]) dX8_spells_27 rfl rfl (by decide) rfl ?_
      exact lp_spells3 (by omega) hs hk hb (by omega) (by omega) kt kf 3 0 (by omega) (fun q hq => absurd hq (Nat.not_lt_zero q)) (by omega)
    · refine r_iconst dX8_spells_24 ?_
      refine r_zret dX8_spells_25 rfl (.inl rfl) ?_
      refine ⟨_, rfl, kf (fun z => ?_)⟩
      first
        | exact c_5 z.1
        | (have y : (h 2 3).toNat = (h 2 2).toNat + 2 := z.2.1
           omega)
set_option maxRecDepth 20000 in
set_option maxHeartbeats 400000 in
theorem lp_spells4 {d : Nat} (hd : 3 ≤ d) {P : Int → Hp → Prop} {h : Hp} (hs : 0 ≤ h 2 2 ∧ h 2 2 ≤ h 2 3 ∧ h 2 3 ≤ 500) (hk : R32 (h 2 1)) (hb : BY (h 3)) (hl : h 2 3 - h 2 2 = 5) (h0 : h 2 1 = 1) (kt : (h 2 1 = 1 ∧ kwP (h 3) 4 (h 2 2).toNat (h 2 3).toNat) → P 1 h) (kf : ¬ (h 2 1 = 1 ∧ kwP (h 3) 4 (h 2 2).toNat (h 2 3).toNat) → P 0 h) : ∀ (nn : Nat) (j : Nat), (j ≤ 5) → (∀ q : Nat, q < j → h 3 ((h 2 2).toNat + q) = chS 4 q) → 5 - j < nn → WW mX8_spells (d + 1) (pI P) 28 [some (.inr (.inr 2)), some (.inr (.inr 1004)), some (.inl (j : Int))] [] h := by
  intro nn
  induction nn with
  | zero => intro j hj h1; intros; omega
  | succ nn ih =>
    intro j hj h1 hmu
    refine r_iload_n dX8_spells_28 rfl rfl ?_
    refine r_aload_n dX8_spells_29 rfl rfl ?_
    refine r_callT (a := 4) (av := []) (M' := mJ0_length_8abf5) (by decide) dX8_spells_30 vJ0_length_8abf5 rfl ml_X8_48 rfl rfl (by simp [wtA]) (sp_slength (by omega) (by decide) ?_)
    refine r_eqI (y := 5) rfl ?_
    refine r_icmp_ge (tgt := 63) dX8_spells_33 rfl (by omega) ⟨by decide, by decide⟩ (fun c_33 => ?_) (fun c_33 => ?_)
    · refine r_iconst dX8_spells_63 ?_
      refine r_zret dX8_spells_64 rfl (.inr rfl) ?_
      refine ⟨_, rfl, kt ⟨h0, ?_, fun q hq => h1 q ?_⟩⟩
      · show (h 2 3).toNat = (h 2 2).toNat + 5
        omega
      · have : q < 5 := hq
        omega
    · have e0 : (h 2 2 + (j : Int)).toNat = (h 2 2).toNat + j := by omega
      have hbj := hb ((h 2 2).toNat + j) (by omega)
      rw [← e0] at hbj
      have cr := (lenS_r 4 (by decide)).2 j (show j < 5 by omega)
      have ej : ((j : Int)).toNat = j := Int.toNat_natCast j
      refine r_aload_n dX8_spells_36 rfl rfl ?_
      refine r_getR dX8_spells_37 fl_X8_28 sh_2 rfl ?_
      refine r_aload_n dX8_spells_40 rfl rfl ?_
      refine r_getI dX8_spells_41 fl_X8_16 sh_2 rfl ?_
      refine r_iload_n dX8_spells_44 rfl rfl ?_
      refine r_iadd dX8_spells_45 ?_
      refine r_bald dX8_spells_46 sh_3 (by decide) (by omega) ?_
      refine r_aload_n dX8_spells_47 rfl rfl ?_
      refine r_iload_n dX8_spells_48 rfl rfl ?_
      refine r_callT (a := 4) (av := [_]) (M' := mJ0_charAt_5068e) (by decide) dX8_spells_49 vJ0_charAt_5068e rfl ml_X8_54 rfl rfl (by simp [wtA]) (sp_scharAt (by omega) (by decide) (show 0 ≤ (j : Int) ∧ (j : Int) < ((5 : Nat) : Int) by omega) ?_)
      rw [ej]
      refine r_icmp_eq (tgt := 57) dX8_spells_52 rfl (by omega) (by omega) (fun c_52 => ?_) (fun c_52 => ?_)
      · refine r_iinc (L' := [_, _, _]) dX8_spells_57 rfl rfl (by decide) rfl ?_
        refine r_goto (tgt := 28) dX8_spells_60 rfl ?_
        refine ih (j + 1) (by omega) (fun q hq => ?_) (by omega)
        by_cases e : q = j
        · rw [e, ← e0]; exact c_52
        · exact h1 q (by omega)
      · refine r_iconst dX8_spells_55 ?_
        refine r_zret dX8_spells_56 rfl (.inl rfl) ?_
        refine ⟨_, rfl, kf (fun z => c_52 ?_)⟩
        rw [e0]
        exact z.2.2 j (show j < 5 by omega)
set_option maxRecDepth 20000 in
set_option maxHeartbeats 400000 in
theorem sp_X8_spells_1004 {d : Nat} (hd : 4 ≤ d) {h : Hp}  (hs : 0 ≤ h 2 2 ∧ h 2 2 ≤ h 2 3 ∧ h 2 3 ≤ 500) (hk : R32 (h 2 1)) (hb : BY (h 3)) {P : Int → Hp → Prop} (kt : (h 2 1 = 1 ∧ kwP (h 3) 4 (h 2 2).toNat (h 2 3).toNat) → P 1 h) (kf : ¬ (h 2 1 = 1 ∧ kwP (h 3) 4 (h 2 2).toNat (h 2 3).toNat) → P 0 h) : Cl d mX8_spells [.inr (.inr 2), .inr (.inr 1004)] h (pI P) := by
  refine Cl.of (L := [some (.inr (.inr 2)), some (.inr (.inr 1004)), none]) (by decide +kernel) (Nat.le_of_ble_eq_true rfl) rfl ?_
  obtain ⟨d, rfl⟩ : ∃ q, d = q + 1 := ⟨d - 1, by omega⟩
  refine r_aload_n dX8_spells_0 rfl rfl ?_
  refine r_getI dX8_spells_1 fl_X8_13 sh_2 rfl ?_
  refine r_iconst dX8_spells_4 ?_
  refine r_icmp_ne (tgt := 24) dX8_spells_5 rfl (by omega) ⟨by decide, by decide⟩ (fun c_5 => ?_) (fun c_5 => ?_)
  · refine r_iconst dX8_spells_24 ?_
    refine r_zret dX8_spells_25 rfl (.inl rfl) ?_
    refine ⟨_, rfl, kf (fun z => ?_)⟩
    first
      | exact c_5 z.1
      | (have y : (h 2 3).toNat = (h 2 2).toNat + 5 := z.2.1
         omega)
  · refine r_aload_n dX8_spells_8 rfl rfl ?_
    refine r_getI dX8_spells_9 fl_X8_19 sh_2 rfl ?_
    refine r_aload_n dX8_spells_12 rfl rfl ?_
    refine r_getI dX8_spells_13 fl_X8_16 sh_2 rfl ?_
    refine r_isub dX8_spells_16 ?_
    refine r_aload_n dX8_spells_17 rfl rfl ?_
    refine r_callT (a := 4) (av := []) (M' := mJ0_length_8abf5) (by decide) dX8_spells_18 vJ0_length_8abf5 rfl ml_X8_48 rfl rfl (by simp [wtA]) (sp_slength (by omega) (by decide) ?_)
    refine r_eqI (y := 5) rfl ?_
    refine r_icmp_eq (tgt := 26) dX8_spells_21 rfl (by omega) ⟨by decide, by decide⟩ (fun c_21 => ?_) (fun c_21 => ?_)
    · refine r_iconst dX8_spells_26 ?_
      refine r_istore_n (L' := [_, _, _]) dX8_spells_27 rfl rfl (by decide) rfl ?_
      exact lp_spells4 (by omega) hs hk hb (by omega) (by omega) kt kf 6 0 (by omega) (fun q hq => absurd hq (Nat.not_lt_zero q)) (by omega)
    · refine r_iconst dX8_spells_24 ?_
      refine r_zret dX8_spells_25 rfl (.inl rfl) ?_
      refine ⟨_, rfl, kf (fun z => ?_)⟩
      first
        | exact c_5 z.1
        | (have y : (h 2 3).toNat = (h 2 2).toNat + 5 := z.2.1
           omega)
set_option maxRecDepth 20000 in
set_option maxHeartbeats 400000 in
theorem lp_spells5 {d : Nat} (hd : 3 ≤ d) {P : Int → Hp → Prop} {h : Hp} (hs : 0 ≤ h 2 2 ∧ h 2 2 ≤ h 2 3 ∧ h 2 3 ≤ 500) (hk : R32 (h 2 1)) (hb : BY (h 3)) (hl : h 2 3 - h 2 2 = 4) (h0 : h 2 1 = 1) (kt : (h 2 1 = 1 ∧ kwP (h 3) 5 (h 2 2).toNat (h 2 3).toNat) → P 1 h) (kf : ¬ (h 2 1 = 1 ∧ kwP (h 3) 5 (h 2 2).toNat (h 2 3).toNat) → P 0 h) : ∀ (nn : Nat) (j : Nat), (j ≤ 4) → (∀ q : Nat, q < j → h 3 ((h 2 2).toNat + q) = chS 5 q) → 4 - j < nn → WW mX8_spells (d + 1) (pI P) 28 [some (.inr (.inr 2)), some (.inr (.inr 1005)), some (.inl (j : Int))] [] h := by
  intro nn
  induction nn with
  | zero => intro j hj h1; intros; omega
  | succ nn ih =>
    intro j hj h1 hmu
    refine r_iload_n dX8_spells_28 rfl rfl ?_
    refine r_aload_n dX8_spells_29 rfl rfl ?_
    refine r_callT (a := 5) (av := []) (M' := mJ0_length_8abf5) (by decide) dX8_spells_30 vJ0_length_8abf5 rfl ml_X8_48 rfl rfl (by simp [wtA]) (sp_slength (by omega) (by decide) ?_)
    refine r_eqI (y := 4) rfl ?_
    refine r_icmp_ge (tgt := 63) dX8_spells_33 rfl (by omega) ⟨by decide, by decide⟩ (fun c_33 => ?_) (fun c_33 => ?_)
    · refine r_iconst dX8_spells_63 ?_
      refine r_zret dX8_spells_64 rfl (.inr rfl) ?_
      refine ⟨_, rfl, kt ⟨h0, ?_, fun q hq => h1 q ?_⟩⟩
      · show (h 2 3).toNat = (h 2 2).toNat + 4
        omega
      · have : q < 4 := hq
        omega
    · have e0 : (h 2 2 + (j : Int)).toNat = (h 2 2).toNat + j := by omega
      have hbj := hb ((h 2 2).toNat + j) (by omega)
      rw [← e0] at hbj
      have cr := (lenS_r 5 (by decide)).2 j (show j < 4 by omega)
      have ej : ((j : Int)).toNat = j := Int.toNat_natCast j
      refine r_aload_n dX8_spells_36 rfl rfl ?_
      refine r_getR dX8_spells_37 fl_X8_28 sh_2 rfl ?_
      refine r_aload_n dX8_spells_40 rfl rfl ?_
      refine r_getI dX8_spells_41 fl_X8_16 sh_2 rfl ?_
      refine r_iload_n dX8_spells_44 rfl rfl ?_
      refine r_iadd dX8_spells_45 ?_
      refine r_bald dX8_spells_46 sh_3 (by decide) (by omega) ?_
      refine r_aload_n dX8_spells_47 rfl rfl ?_
      refine r_iload_n dX8_spells_48 rfl rfl ?_
      refine r_callT (a := 5) (av := [_]) (M' := mJ0_charAt_5068e) (by decide) dX8_spells_49 vJ0_charAt_5068e rfl ml_X8_54 rfl rfl (by simp [wtA]) (sp_scharAt (by omega) (by decide) (show 0 ≤ (j : Int) ∧ (j : Int) < ((4 : Nat) : Int) by omega) ?_)
      rw [ej]
      refine r_icmp_eq (tgt := 57) dX8_spells_52 rfl (by omega) (by omega) (fun c_52 => ?_) (fun c_52 => ?_)
      · refine r_iinc (L' := [_, _, _]) dX8_spells_57 rfl rfl (by decide) rfl ?_
        refine r_goto (tgt := 28) dX8_spells_60 rfl ?_
        refine ih (j + 1) (by omega) (fun q hq => ?_) (by omega)
        by_cases e : q = j
        · rw [e, ← e0]; exact c_52
        · exact h1 q (by omega)
      · refine r_iconst dX8_spells_55 ?_
        refine r_zret dX8_spells_56 rfl (.inl rfl) ?_
        refine ⟨_, rfl, kf (fun z => c_52 ?_)⟩
        rw [e0]
        exact z.2.2 j (show j < 4 by omega)
set_option maxRecDepth 20000 in
set_option maxHeartbeats 400000 in
theorem sp_X8_spells_1005 {d : Nat} (hd : 4 ≤ d) {h : Hp}  (hs : 0 ≤ h 2 2 ∧ h 2 2 ≤ h 2 3 ∧ h 2 3 ≤ 500) (hk : R32 (h 2 1)) (hb : BY (h 3)) {P : Int → Hp → Prop} (kt : (h 2 1 = 1 ∧ kwP (h 3) 5 (h 2 2).toNat (h 2 3).toNat) → P 1 h) (kf : ¬ (h 2 1 = 1 ∧ kwP (h 3) 5 (h 2 2).toNat (h 2 3).toNat) → P 0 h) : Cl d mX8_spells [.inr (.inr 2), .inr (.inr 1005)] h (pI P) := by
  refine Cl.of (L := [some (.inr (.inr 2)), some (.inr (.inr 1005)), none]) (by decide +kernel) (Nat.le_of_ble_eq_true rfl) rfl ?_
  obtain ⟨d, rfl⟩ : ∃ q, d = q + 1 := ⟨d - 1, by omega⟩
  refine r_aload_n dX8_spells_0 rfl rfl ?_
  refine r_getI dX8_spells_1 fl_X8_13 sh_2 rfl ?_
  refine r_iconst dX8_spells_4 ?_
  refine r_icmp_ne (tgt := 24) dX8_spells_5 rfl (by omega) ⟨by decide, by decide⟩ (fun c_5 => ?_) (fun c_5 => ?_)
  · refine r_iconst dX8_spells_24 ?_
    refine r_zret dX8_spells_25 rfl (.inl rfl) ?_
    refine ⟨_, rfl, kf (fun z => ?_)⟩
    first
      | exact c_5 z.1
      | (have y : (h 2 3).toNat = (h 2 2).toNat + 4 := z.2.1
         omega)
  · refine r_aload_n dX8_spells_8 rfl rfl ?_
    refine r_getI dX8_spells_9 fl_X8_19 sh_2 rfl ?_
    refine r_aload_n dX8_spells_12 rfl rfl ?_
    refine r_getI dX8_spells_13 fl_X8_16 sh_2 rfl ?_
    refine r_isub dX8_spells_16 ?_
    refine r_aload_n dX8_spells_17 rfl rfl ?_
    refine r_callT (a := 5) (av := []) (M' := mJ0_length_8abf5) (by decide) dX8_spells_18 vJ0_length_8abf5 rfl ml_X8_48 rfl rfl (by simp [wtA]) (sp_slength (by omega) (by decide) ?_)
    refine r_eqI (y := 4) rfl ?_
    refine r_icmp_eq (tgt := 26) dX8_spells_21 rfl (by omega) ⟨by decide, by decide⟩ (fun c_21 => ?_) (fun c_21 => ?_)
    · refine r_iconst dX8_spells_26 ?_
      refine r_istore_n (L' := [_, _, _]) dX8_spells_27 rfl rfl (by decide) rfl ?_
      exact lp_spells5 (by omega) hs hk hb (by omega) (by omega) kt kf 5 0 (by omega) (fun q hq => absurd hq (Nat.not_lt_zero q)) (by omega)
    · refine r_iconst dX8_spells_24 ?_
      refine r_zret dX8_spells_25 rfl (.inl rfl) ?_
      refine ⟨_, rfl, kf (fun z => ?_)⟩
      first
        | exact c_5 z.1
        | (have y : (h 2 3).toNat = (h 2 2).toNat + 4 := z.2.1
           omega)
set_option maxRecDepth 20000 in
set_option maxHeartbeats 400000 in
theorem lp_spells6 {d : Nat} (hd : 3 ≤ d) {P : Int → Hp → Prop} {h : Hp} (hs : 0 ≤ h 2 2 ∧ h 2 2 ≤ h 2 3 ∧ h 2 3 ≤ 500) (hk : R32 (h 2 1)) (hb : BY (h 3)) (hl : h 2 3 - h 2 2 = 5) (h0 : h 2 1 = 1) (kt : (h 2 1 = 1 ∧ kwP (h 3) 6 (h 2 2).toNat (h 2 3).toNat) → P 1 h) (kf : ¬ (h 2 1 = 1 ∧ kwP (h 3) 6 (h 2 2).toNat (h 2 3).toNat) → P 0 h) : ∀ (nn : Nat) (j : Nat), (j ≤ 5) → (∀ q : Nat, q < j → h 3 ((h 2 2).toNat + q) = chS 6 q) → 5 - j < nn → WW mX8_spells (d + 1) (pI P) 28 [some (.inr (.inr 2)), some (.inr (.inr 1006)), some (.inl (j : Int))] [] h := by
  intro nn
  induction nn with
  | zero => intro j hj h1; intros; omega
  | succ nn ih =>
    intro j hj h1 hmu
    refine r_iload_n dX8_spells_28 rfl rfl ?_
    refine r_aload_n dX8_spells_29 rfl rfl ?_
    refine r_callT (a := 6) (av := []) (M' := mJ0_length_8abf5) (by decide) dX8_spells_30 vJ0_length_8abf5 rfl ml_X8_48 rfl rfl (by simp [wtA]) (sp_slength (by omega) (by decide) ?_)
    refine r_eqI (y := 5) rfl ?_
    refine r_icmp_ge (tgt := 63) dX8_spells_33 rfl (by omega) ⟨by decide, by decide⟩ (fun c_33 => ?_) (fun c_33 => ?_)
    · refine r_iconst dX8_spells_63 ?_
      refine r_zret dX8_spells_64 rfl (.inr rfl) ?_
      refine ⟨_, rfl, kt ⟨h0, ?_, fun q hq => h1 q ?_⟩⟩
      · show (h 2 3).toNat = (h 2 2).toNat + 5
        omega
      · have : q < 5 := hq
        omega
    · have e0 : (h 2 2 + (j : Int)).toNat = (h 2 2).toNat + j := by omega
      have hbj := hb ((h 2 2).toNat + j) (by omega)
      rw [← e0] at hbj
      have cr := (lenS_r 6 (by decide)).2 j (show j < 5 by omega)
      have ej : ((j : Int)).toNat = j := Int.toNat_natCast j
      refine r_aload_n dX8_spells_36 rfl rfl ?_
      refine r_getR dX8_spells_37 fl_X8_28 sh_2 rfl ?_
      refine r_aload_n dX8_spells_40 rfl rfl ?_
      refine r_getI dX8_spells_41 fl_X8_16 sh_2 rfl ?_
      refine r_iload_n dX8_spells_44 rfl rfl ?_
      refine r_iadd dX8_spells_45 ?_
      refine r_bald dX8_spells_46 sh_3 (by decide) (by omega) ?_
      refine r_aload_n dX8_spells_47 rfl rfl ?_
      refine r_iload_n dX8_spells_48 rfl rfl ?_
      refine r_callT (a := 6) (av := [_]) (M' := mJ0_charAt_5068e) (by decide) dX8_spells_49 vJ0_charAt_5068e rfl ml_X8_54 rfl rfl (by simp [wtA]) (sp_scharAt (by omega) (by decide) (show 0 ≤ (j : Int) ∧ (j : Int) < ((5 : Nat) : Int) by omega) ?_)
      rw [ej]
      refine r_icmp_eq (tgt := 57) dX8_spells_52 rfl (by omega) (by omega) (fun c_52 => ?_) (fun c_52 => ?_)
      · refine r_iinc (L' := [_, _, _]) dX8_spells_57 rfl rfl (by decide) rfl ?_
        refine r_goto (tgt := 28) dX8_spells_60 rfl ?_
        refine ih (j + 1) (by omega) (fun q hq => ?_) (by omega)
        by_cases e : q = j
        · rw [e, ← e0]; exact c_52
        · exact h1 q (by omega)
      · refine r_iconst dX8_spells_55 ?_
        refine r_zret dX8_spells_56 rfl (.inl rfl) ?_
        refine ⟨_, rfl, kf (fun z => c_52 ?_)⟩
        rw [e0]
        exact z.2.2 j (show j < 5 by omega)
set_option maxRecDepth 20000 in
set_option maxHeartbeats 400000 in
theorem sp_X8_spells_1006 {d : Nat} (hd : 4 ≤ d) {h : Hp}  (hs : 0 ≤ h 2 2 ∧ h 2 2 ≤ h 2 3 ∧ h 2 3 ≤ 500) (hk : R32 (h 2 1)) (hb : BY (h 3)) {P : Int → Hp → Prop} (kt : (h 2 1 = 1 ∧ kwP (h 3) 6 (h 2 2).toNat (h 2 3).toNat) → P 1 h) (kf : ¬ (h 2 1 = 1 ∧ kwP (h 3) 6 (h 2 2).toNat (h 2 3).toNat) → P 0 h) : Cl d mX8_spells [.inr (.inr 2), .inr (.inr 1006)] h (pI P) := by
  refine Cl.of (L := [some (.inr (.inr 2)), some (.inr (.inr 1006)), none]) (by decide +kernel) (Nat.le_of_ble_eq_true rfl) rfl ?_
  obtain ⟨d, rfl⟩ : ∃ q, d = q + 1 := ⟨d - 1, by omega⟩
  refine r_aload_n dX8_spells_0 rfl rfl ?_
  refine r_getI dX8_spells_1 fl_X8_13 sh_2 rfl ?_
  refine r_iconst dX8_spells_4 ?_
  refine r_icmp_ne (tgt := 24) dX8_spells_5 rfl (by omega) ⟨by decide, by decide⟩ (fun c_5 => ?_) (fun c_5 => ?_)
  · refine r_iconst dX8_spells_24 ?_
    refine r_zret dX8_spells_25 rfl (.inl rfl) ?_
    refine ⟨_, rfl, kf (fun z => ?_)⟩
    first
      | exact c_5 z.1
      | (have y : (h 2 3).toNat = (h 2 2).toNat + 5 := z.2.1
         omega)
  · refine r_aload_n dX8_spells_8 rfl rfl ?_
    refine r_getI dX8_spells_9 fl_X8_19 sh_2 rfl ?_
    refine r_aload_n dX8_spells_12 rfl rfl ?_
    refine r_getI dX8_spells_13 fl_X8_16 sh_2 rfl ?_
    refine r_isub dX8_spells_16 ?_
    refine r_aload_n dX8_spells_17 rfl rfl ?_
    refine r_callT (a := 6) (av := []) (M' := mJ0_length_8abf5) (by decide) dX8_spells_18 vJ0_length_8abf5 rfl ml_X8_48 rfl rfl (by simp [wtA]) (sp_slength (by omega) (by decide) ?_)
    refine r_eqI (y := 5) rfl ?_
    refine r_icmp_eq (tgt := 26) dX8_spells_21 rfl (by omega) ⟨by decide, by decide⟩ (fun c_21 => ?_) (fun c_21 => ?_)
    · refine r_iconst dX8_spells_26 ?_
      refine r_istore_n (L' := [_, _, _]) dX8_spells_27 rfl rfl (by decide) rfl ?_
      exact lp_spells6 (by omega) hs hk hb (by omega) (by omega) kt kf 6 0 (by omega) (fun q hq => absurd hq (Nat.not_lt_zero q)) (by omega)
    · refine r_iconst dX8_spells_24 ?_
      refine r_zret dX8_spells_25 rfl (.inl rfl) ?_
      refine ⟨_, rfl, kf (fun z => ?_)⟩
      first
        | exact c_5 z.1
        | (have y : (h 2 3).toNat = (h 2 2).toNat + 5 := z.2.1
           omega)
set_option maxRecDepth 20000 in
set_option maxHeartbeats 400000 in
theorem sp_X3_verbAtHand {d : Nat} (hd : 5 ≤ d) {h : Hp}  (hs : 0 ≤ h 2 2 ∧ h 2 2 ≤ h 2 3 ∧ h 2 3 ≤ 500) (hk : R32 (h 2 1)) (hb : BY (h 3)) {P : Int → Hp → Prop} (k : P (if h 2 1 = 1 then kwI (h 3) (h 2 2).toNat (h 2 3).toNat else -1) (h)) : Cl d mX3_verbAtHand [.inr (.inr 14)] h (pI P) := by
  refine Cl.of (L := [some (.inr (.inr 14))]) (by decide +kernel) (Nat.le_of_ble_eq_true rfl) rfl ?_
  obtain ⟨d, rfl⟩ : ∃ q, d = q + 1 := ⟨d - 1, by omega⟩
  refine r_aload_n dX3_verbAtHand_0 rfl rfl ?_
  refine r_getR dX3_verbAtHand_1 fl_X3_25 sh_14 rfl ?_
  refine r_ldcS (i := 0) dX3_verbAtHand_4 rfl ?_
  refine r_callVI (av := [_]) (M' := mX8_spells) dX3_verbAtHand_6 vX8_spells ml_X3_81 sh_2 (by decide) rfl rfl rfl rfl (by simp [wtA]) (sp_X8_spells_1000 (by omega) (by omega) (by omega) hb (fun b_6 => ?_) (fun b_6 => ?_))
  · refine r_if_eq (tgt := 14) dX3_verbAtHand_9 rfl ⟨by decide, by decide⟩ (fun c_9 => absurd c_9 (by decide)) (fun c_9 => ?_)
    refine r_iconst dX3_verbAtHand_12 ?_
    refine r_iret dX3_verbAtHand_13 rfl ?_
    refine ⟨_, rfl, eqP k ?_⟩
    rw [if_pos b_6.1]
    exact kwI_of (k := 0) (by decide) b_6.2 (fun q hq => absurd hq (Nat.not_lt_zero q))
  · refine r_if_eq (tgt := 14) dX3_verbAtHand_9 rfl ⟨by decide, by decide⟩ (fun c_9 => ?_) (fun c_9 => absurd c_9 (by decide))
    refine r_aload_n dX3_verbAtHand_14 rfl rfl ?_
    refine r_getR dX3_verbAtHand_15 fl_X3_25 sh_14 rfl ?_
    refine r_ldcS (i := 1) dX3_verbAtHand_18 rfl ?_
    refine r_callVI (av := [_]) (M' := mX8_spells) dX3_verbAtHand_20 vX8_spells ml_X3_81 sh_2 (by decide) rfl rfl rfl rfl (by simp [wtA]) (sp_X8_spells_1001 (by omega) (by omega) (by omega) hb (fun b_20 => ?_) (fun b_20 => ?_))
    · refine r_if_eq (tgt := 28) dX3_verbAtHand_23 rfl ⟨by decide, by decide⟩ (fun c_23 => absurd c_23 (by decide)) (fun c_23 => ?_)
      refine r_iconst dX3_verbAtHand_26 ?_
      refine r_iret dX3_verbAtHand_27 rfl ?_
      refine ⟨_, rfl, eqP k ?_⟩
      rw [if_pos b_20.1]
      exact kwI_of (k := 1) (by decide) b_20.2 (fun q hq => by
        match q, hq with
        | 0, _ => exact fun y => b_6 ⟨b_20.1, y⟩)
    · refine r_if_eq (tgt := 28) dX3_verbAtHand_23 rfl ⟨by decide, by decide⟩ (fun c_23 => ?_) (fun c_23 => absurd c_23 (by decide))
      refine r_aload_n dX3_verbAtHand_28 rfl rfl ?_
      refine r_getR dX3_verbAtHand_29 fl_X3_25 sh_14 rfl ?_
      refine r_ldcS (i := 2) dX3_verbAtHand_32 rfl ?_
      refine r_callVI (av := [_]) (M' := mX8_spells) dX3_verbAtHand_34 vX8_spells ml_X3_81 sh_2 (by decide) rfl rfl rfl rfl (by simp [wtA]) (sp_X8_spells_1002 (by omega) (by omega) (by omega) hb (fun b_34 => ?_) (fun b_34 => ?_))
      · refine r_if_eq (tgt := 42) dX3_verbAtHand_37 rfl ⟨by decide, by decide⟩ (fun c_37 => absurd c_37 (by decide)) (fun c_37 => ?_)
        refine r_iconst dX3_verbAtHand_40 ?_
        refine r_iret dX3_verbAtHand_41 rfl ?_
        refine ⟨_, rfl, eqP k ?_⟩
        rw [if_pos b_34.1]
        exact kwI_of (k := 2) (by decide) b_34.2 (fun q hq => by
          match q, hq with
          | 0, _ => exact fun y => b_6 ⟨b_34.1, y⟩
          | 1, _ => exact fun y => b_20 ⟨b_34.1, y⟩)
      · refine r_if_eq (tgt := 42) dX3_verbAtHand_37 rfl ⟨by decide, by decide⟩ (fun c_37 => ?_) (fun c_37 => absurd c_37 (by decide))
        refine r_aload_n dX3_verbAtHand_42 rfl rfl ?_
        refine r_getR dX3_verbAtHand_43 fl_X3_25 sh_14 rfl ?_
        refine r_ldcS (i := 3) dX3_verbAtHand_46 rfl ?_
        refine r_callVI (av := [_]) (M' := mX8_spells) dX3_verbAtHand_48 vX8_spells ml_X3_81 sh_2 (by decide) rfl rfl rfl rfl (by simp [wtA]) (sp_X8_spells_1003 (by omega) (by omega) (by omega) hb (fun b_48 => ?_) (fun b_48 => ?_))
        · refine r_if_eq (tgt := 56) dX3_verbAtHand_51 rfl ⟨by decide, by decide⟩ (fun c_51 => absurd c_51 (by decide)) (fun c_51 => ?_)
          refine r_iconst dX3_verbAtHand_54 ?_
          refine r_iret dX3_verbAtHand_55 rfl ?_
          refine ⟨_, rfl, eqP k ?_⟩
          rw [if_pos b_48.1]
          exact kwI_of (k := 3) (by decide) b_48.2 (fun q hq => by
            match q, hq with
            | 0, _ => exact fun y => b_6 ⟨b_48.1, y⟩
            | 1, _ => exact fun y => b_20 ⟨b_48.1, y⟩
            | 2, _ => exact fun y => b_34 ⟨b_48.1, y⟩)
        · refine r_if_eq (tgt := 56) dX3_verbAtHand_51 rfl ⟨by decide, by decide⟩ (fun c_51 => ?_) (fun c_51 => absurd c_51 (by decide))
          refine r_aload_n dX3_verbAtHand_56 rfl rfl ?_
          refine r_getR dX3_verbAtHand_57 fl_X3_25 sh_14 rfl ?_
          refine r_ldcS (i := 4) dX3_verbAtHand_60 rfl ?_
          refine r_callVI (av := [_]) (M' := mX8_spells) dX3_verbAtHand_62 vX8_spells ml_X3_81 sh_2 (by decide) rfl rfl rfl rfl (by simp [wtA]) (sp_X8_spells_1004 (by omega) (by omega) (by omega) hb (fun b_62 => ?_) (fun b_62 => ?_))
          · refine r_if_eq (tgt := 70) dX3_verbAtHand_65 rfl ⟨by decide, by decide⟩ (fun c_65 => absurd c_65 (by decide)) (fun c_65 => ?_)
            refine r_iconst dX3_verbAtHand_68 ?_
            refine r_iret dX3_verbAtHand_69 rfl ?_
            refine ⟨_, rfl, eqP k ?_⟩
            rw [if_pos b_62.1]
            exact kwI_of (k := 4) (by decide) b_62.2 (fun q hq => by
              match q, hq with
              | 0, _ => exact fun y => b_6 ⟨b_62.1, y⟩
              | 1, _ => exact fun y => b_20 ⟨b_62.1, y⟩
              | 2, _ => exact fun y => b_34 ⟨b_62.1, y⟩
              | 3, _ => exact fun y => b_48 ⟨b_62.1, y⟩)
          · refine r_if_eq (tgt := 70) dX3_verbAtHand_65 rfl ⟨by decide, by decide⟩ (fun c_65 => ?_) (fun c_65 => absurd c_65 (by decide))
            refine r_aload_n dX3_verbAtHand_70 rfl rfl ?_
            refine r_getR dX3_verbAtHand_71 fl_X3_25 sh_14 rfl ?_
            refine r_ldcS (i := 5) dX3_verbAtHand_74 rfl ?_
            refine r_callVI (av := [_]) (M' := mX8_spells) dX3_verbAtHand_76 vX8_spells ml_X3_81 sh_2 (by decide) rfl rfl rfl rfl (by simp [wtA]) (sp_X8_spells_1005 (by omega) (by omega) (by omega) hb (fun b_76 => ?_) (fun b_76 => ?_))
            · refine r_if_eq (tgt := 84) dX3_verbAtHand_79 rfl ⟨by decide, by decide⟩ (fun c_79 => absurd c_79 (by decide)) (fun c_79 => ?_)
              refine r_iconst dX3_verbAtHand_82 ?_
              refine r_iret dX3_verbAtHand_83 rfl ?_
              refine ⟨_, rfl, eqP k ?_⟩
              rw [if_pos b_76.1]
              exact kwI_of (k := 5) (by decide) b_76.2 (fun q hq => by
                match q, hq with
                | 0, _ => exact fun y => b_6 ⟨b_76.1, y⟩
                | 1, _ => exact fun y => b_20 ⟨b_76.1, y⟩
                | 2, _ => exact fun y => b_34 ⟨b_76.1, y⟩
                | 3, _ => exact fun y => b_48 ⟨b_76.1, y⟩
                | 4, _ => exact fun y => b_62 ⟨b_76.1, y⟩)
            · refine r_if_eq (tgt := 84) dX3_verbAtHand_79 rfl ⟨by decide, by decide⟩ (fun c_79 => ?_) (fun c_79 => absurd c_79 (by decide))
              refine r_aload_n dX3_verbAtHand_84 rfl rfl ?_
              refine r_getR dX3_verbAtHand_85 fl_X3_25 sh_14 rfl ?_
              refine r_ldcS (i := 6) dX3_verbAtHand_88 rfl ?_
              refine r_callVI (av := [_]) (M' := mX8_spells) dX3_verbAtHand_90 vX8_spells ml_X3_81 sh_2 (by decide) rfl rfl rfl rfl (by simp [wtA]) (sp_X8_spells_1006 (by omega) (by omega) (by omega) hb (fun b_90 => ?_) (fun b_90 => ?_))
              · refine r_if_eq (tgt := 99) dX3_verbAtHand_93 rfl ⟨by decide, by decide⟩ (fun c_93 => absurd c_93 (by decide)) (fun c_93 => ?_)
                refine r_bipush dX3_verbAtHand_96 (by decide +kernel) ?_
                refine r_iret dX3_verbAtHand_98 rfl ?_
                refine ⟨_, rfl, eqP k ?_⟩
                rw [if_pos b_90.1]
                exact kwI_of (k := 6) (by decide) b_90.2 (fun q hq => by
                  match q, hq with
                  | 0, _ => exact fun y => b_6 ⟨b_90.1, y⟩
                  | 1, _ => exact fun y => b_20 ⟨b_90.1, y⟩
                  | 2, _ => exact fun y => b_34 ⟨b_90.1, y⟩
                  | 3, _ => exact fun y => b_48 ⟨b_90.1, y⟩
                  | 4, _ => exact fun y => b_62 ⟨b_90.1, y⟩
                  | 5, _ => exact fun y => b_76 ⟨b_90.1, y⟩)
              · refine r_if_eq (tgt := 99) dX3_verbAtHand_93 rfl ⟨by decide, by decide⟩ (fun c_93 => ?_) (fun c_93 => absurd c_93 (by decide))
                refine r_iconst dX3_verbAtHand_99 ?_
                refine r_iret dX3_verbAtHand_100 rfl ?_
                refine ⟨_, rfl, eqP k ?_⟩
                by_cases z : h 2 1 = 1
                · rw [if_pos z]
                  exact kwI_no (fun q hq => by
                    match q, hq with
                    | 0, _ => exact fun y => b_6 ⟨z, y⟩
                    | 1, _ => exact fun y => b_20 ⟨z, y⟩
                    | 2, _ => exact fun y => b_34 ⟨z, y⟩
                    | 3, _ => exact fun y => b_48 ⟨z, y⟩
                    | 4, _ => exact fun y => b_62 ⟨z, y⟩
                    | 5, _ => exact fun y => b_76 ⟨z, y⟩
                    | 6, _ => exact fun y => b_90 ⟨z, y⟩)
                · rw [if_neg z]
set_option maxRecDepth 20000 in
set_option maxHeartbeats 400000 in
theorem lp_repeats {d : Nat} {P : Int → Hp → Prop} {h : Hp} {f t : Nat} (hs : 0 ≤ h 2 2 ∧ h 2 2 ≤ h 2 3 ∧ h 2 3 ≤ 500) (hk : R32 (h 2 1)) (hb : BY (h 3)) (hf : f ≤ t ∧ t ≤ 500) (hl : h 2 3 - h 2 2 = t - f) (h0 : h 2 1 = 1) (kt : (h 2 1 = 1 ∧ (h 2 3).toNat = (h 2 2).toNat + (t - f) ∧ ∀ q : Nat, q < t - f → h 3 ((h 2 2).toNat + q) = h 3 (f + q)) → P 1 h) (kf : ¬ (h 2 1 = 1 ∧ (h 2 3).toNat = (h 2 2).toNat + (t - f) ∧ ∀ q : Nat, q < t - f → h 3 ((h 2 2).toNat + q) = h 3 (f + q)) → P 0 h) : ∀ (nn : Nat) (j : Nat), (j ≤ t - f) → (∀ q : Nat, q < j → h 3 ((h 2 2).toNat + q) = h 3 (f + q)) → t - f - j < nn → WW mX8_repeats (d + 1) (pI P) 27 [some (.inr (.inr 2)), some (.inl (f : Int)), some (.inl (t : Int)), some (.inl (j : Int))] [] h := by
  intro nn
  induction nn with
  | zero => intro j hj h1; intros; omega
  | succ nn ih =>
    intro j hj h1 hmu
    refine r_iload_n dX8_repeats_27 rfl rfl ?_
    refine r_iload_n dX8_repeats_28 rfl rfl ?_
    refine r_iload_n dX8_repeats_29 rfl rfl ?_
    refine r_isub dX8_repeats_30 ?_
    refine r_icmp_ge (tgt := 64) dX8_repeats_31 rfl (by omega) (by omega) (fun c_31 => ?_) (fun c_31 => ?_)
    · refine r_iconst dX8_repeats_64 ?_
      refine r_zret dX8_repeats_65 rfl (.inr rfl) ?_
      refine ⟨_, rfl, kt ⟨h0, by omega, fun q hq => h1 q (by omega)⟩⟩
    · have e0 : (h 2 2 + (j : Int)).toNat = (h 2 2).toNat + j := by omega
      have e1 : ((f : Int) + (j : Int)).toNat = f + j := by omega
      have hbj := hb ((h 2 2).toNat + j) (by omega)
      have hbf := hb (f + j) (by omega)
      rw [← e0] at hbj
      rw [← e1] at hbf
      refine r_aload_n dX8_repeats_34 rfl rfl ?_
      refine r_getR dX8_repeats_35 fl_X8_28 sh_2 rfl ?_
      refine r_aload_n dX8_repeats_38 rfl rfl ?_
      refine r_getI dX8_repeats_39 fl_X8_16 sh_2 rfl ?_
      refine r_iload_n dX8_repeats_42 rfl rfl ?_
      refine r_iadd dX8_repeats_43 ?_
      refine r_bald dX8_repeats_44 sh_3 (by decide) (by omega) ?_
      refine r_aload_n dX8_repeats_45 rfl rfl ?_
      refine r_getR dX8_repeats_46 fl_X8_28 sh_2 rfl ?_
      refine r_iload_n dX8_repeats_49 rfl rfl ?_
      refine r_iload_n dX8_repeats_50 rfl rfl ?_
      refine r_iadd dX8_repeats_51 ?_
      refine r_bald dX8_repeats_52 sh_3 (by decide) (by omega) ?_
      refine r_icmp_eq (tgt := 58) dX8_repeats_53 rfl (by omega) (by omega) (fun c_53 => ?_) (fun c_53 => ?_)
      · refine r_iinc (L' := [_, _, _, _]) dX8_repeats_58 rfl rfl (by decide) rfl ?_
        refine r_goto (tgt := 27) dX8_repeats_61 rfl ?_
        refine ih (j + 1) (by omega) (fun q hq => ?_) (by omega)
        by_cases e : q = j
        · rw [e, ← e0, ← e1]; exact c_53
        · exact h1 q (by omega)
      · refine r_iconst dX8_repeats_56 ?_
        refine r_zret dX8_repeats_57 rfl (.inl rfl) ?_
        refine ⟨_, rfl, kf (fun z => c_53 ?_)⟩
        rw [e0, e1]
        exact z.2.2 j (by omega)
set_option maxRecDepth 20000 in
set_option maxHeartbeats 400000 in
theorem sp_X8_repeats {d : Nat} (hd : 2 ≤ d) {h : Hp} {f t : Nat} (hs : 0 ≤ h 2 2 ∧ h 2 2 ≤ h 2 3 ∧ h 2 3 ≤ 500) (hk : R32 (h 2 1)) (hb : BY (h 3)) (hf : f ≤ t ∧ t ≤ 500) {P : Int → Hp → Prop} (kt : (h 2 1 = 1 ∧ (h 2 3).toNat = (h 2 2).toNat + (t - f) ∧ ∀ q : Nat, q < t - f → h 3 ((h 2 2).toNat + q) = h 3 (f + q)) → P 1 h) (kf : ¬ (h 2 1 = 1 ∧ (h 2 3).toNat = (h 2 2).toNat + (t - f) ∧ ∀ q : Nat, q < t - f → h 3 ((h 2 2).toNat + q) = h 3 (f + q)) → P 0 h) : Cl d mX8_repeats [.inr (.inr 2), .inl (f : Int), .inl (t : Int)] h (pI P) := by
  refine Cl.of (L := [some (.inr (.inr 2)), some (.inl (f : Int)), some (.inl (t : Int)), none]) (by decide +kernel) (Nat.le_of_ble_eq_true rfl) rfl ?_
  obtain ⟨d, rfl⟩ : ∃ q, d = q + 1 := ⟨d - 1, by omega⟩
  refine r_aload_n dX8_repeats_0 rfl rfl ?_
  refine r_getI dX8_repeats_1 fl_X8_13 sh_2 rfl ?_
  refine r_iconst dX8_repeats_4 ?_
  refine r_icmp_ne (tgt := 23) dX8_repeats_5 rfl (by omega) ⟨by decide, by decide⟩ (fun c_5 => ?_) (fun c_5 => ?_)
  · refine r_iconst dX8_repeats_23 ?_
    refine r_zret dX8_repeats_24 rfl (.inl rfl) ?_
    refine ⟨_, rfl, kf (fun z => ?_)⟩
    omega
  · refine r_aload_n dX8_repeats_8 rfl rfl ?_
    refine r_getI dX8_repeats_9 fl_X8_19 sh_2 rfl ?_
    refine r_aload_n dX8_repeats_12 rfl rfl ?_
    refine r_getI dX8_repeats_13 fl_X8_16 sh_2 rfl ?_
    refine r_isub dX8_repeats_16 ?_
    refine r_iload_n dX8_repeats_17 rfl rfl ?_
    refine r_iload_n dX8_repeats_18 rfl rfl ?_
    refine r_isub dX8_repeats_19 ?_
    refine r_icmp_eq (tgt := 25) dX8_repeats_20 rfl (by omega) (by omega) (fun c_20 => ?_) (fun c_20 => ?_)
    · refine r_iconst dX8_repeats_25 ?_
      refine r_istore_n (L' := [_, _, _, _]) dX8_repeats_26 rfl rfl (by decide) rfl ?_
      exact lp_repeats hs hk hb hf (by omega) (by omega) kt kf 501 0 (by omega) (fun q hq => absurd hq (Nat.not_lt_zero q)) (by omega)
    · refine r_iconst dX8_repeats_23 ?_
      refine r_zret dX8_repeats_24 rfl (.inl rfl) ?_
      refine ⟨_, rfl, kf (fun z => ?_)⟩
      omega
