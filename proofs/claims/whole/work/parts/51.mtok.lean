/-! TOKENS OF THE REFERENCE -/
def ofW (k : Nat) : Nat := [0, 5, 9, 14, 17, 23, 28, 34].getD k 34
theorem ofW_r : ∀ k : Nat, k < 7 → ofW k + lnW k + 1 = ofW (k + 1) ∧ ofW k + lnW k < 34 ∧ lnW k ≤ 5 ∧ wordL.getD (ofW k + lnW k) 0 = 32 ∧ ∀ j : Nat, j < lnW k → wordL.getD (ofW k + j) 0 = chS k j ∧ chS k j ≠ 32 ∧ 0 ≤ chS k j ∧ chS k j < 128 := by decide +kernel
abbrev MT (h : Hp) : Prop := ∀ j : Nat, j < 500 → -128 ≤ h 3 j ∧ h 3 j ≤ 127 ∧ h 50 j = h 3 j % 256
abbrev MWd (h : Hp) : Prop := ∀ j : Nat, j < 34 → h 51 j = wordL.getD j 0
def pkN (b : Nat → Int) (s e : Nat) : Nat → Int
  | 0 => 0
  | j + 1 => pkN b s e j * 32 + (if s + j < e then b (s + j) - 96 else 0)
def pkF (b : Nat → Int) (s e : Nat) : Int := pkN b s e 6
def mvN (b : Nat → Int) (s : Nat) : Nat → Int
  | 0 => 0
  | j + 1 => if 999 < mvN b s j then mvN b s j else 10 * mvN b s j + b (s + j) - 48
theorem mvN_r {b : Nat → Int} {s : Nat} : ∀ {j : Nat}, (∀ i : Nat, i < j → 48 ≤ b (s + i) ∧ b (s + i) ≤ 57) → 0 ≤ mvN b s j ∧ mvN b s j ≤ 9999 ∧ vlN b s j = min (mvN b s j) 1000
  | 0, _ => by rw [mvN, vlN]; omega
  | j + 1, h => by
    have a := mvN_r (b := b) (s := s) (j := j) (fun i hi => h i (by omega))
    have c := h j (by omega)
    rw [mvN, vlN]
    split <;> omega
noncomputable def mK (b : Nat → Int) (n p : Nat) : Int := if tK b n p = 0 then 0 else if tK b n p = 1 then (if 0 ≤ kwI b (tS b n p) (tE b n p) then 1 else if 6 < tE b n p - tS b n p then 5 else 2) else if tK b n p = 2 then 3 else if tK b n p = 3 then 5 else 4
noncomputable def mW (b : Nat → Int) (n p : Nat) : Int := if tK b n p = 1 then (if kwI b (tS b n p) (tE b n p) < 0 ∧ tE b n p - tS b n p ≤ 6 then pkF b (tS b n p) (tE b n p) else kwI b (tS b n p) (tE b n p)) else if tK b n p = 2 then mvN b (tS b n p) (tE b n p - tS b n p) else b (tS b n p) % 256
/-- the reference's token is the one behind p -/
abbrev MTs (h : Hp) (n p : Nat) : Prop := h 49 17 = tS (h 3) n p ∧ h 49 14 = tE (h 3) n p ∧ h 49 15 = mK (h 3) n p ∧ (tK (h 3) n p ≠ 0 → h 49 16 = mW (h 3) n p)
abbrev FrT (h g : Hp) : Prop := ∀ a k, ¬ (a = 49 ∧ (k = 14 ∨ k = 15 ∨ k = 16 ∨ k = 17)) → g a k = h a k
set_option maxRecDepth 20000 in
set_option maxHeartbeats 400000 in
theorem sp_X12_isSmall {d : Nat} (hd : 1 ≤ d) {k0 : Int} {h : Hp}  (ht : MT h) (hk : 0 ≤ k0 ∧ k0 ≤ 500) (hn : 0 ≤ h 49 13 ∧ h 49 13 ≤ 500) {P : Int → Hp → Prop} (kt : (k0 < h 49 13 ∧ kd (h 3 k0.toNat) = 1) → P 1 h) (kf : ¬ (k0 < h 49 13 ∧ kd (h 3 k0.toNat) = 1) → P 0 h) : Cl d mX12_isSmall [.inr (.inr 49), .inl k0] h (pI P) := by
  refine Cl.of (L := [some (.inr (.inr 49)), some (.inl k0)]) (by decide +kernel) (Nat.le_of_ble_eq_true rfl) rfl ?_
  have ki := kd_i (h 3 k0.toNat)
  refine r_iload_n dX12_isSmall_0 rfl rfl ?_
  refine r_aload_n dX12_isSmall_1 rfl rfl ?_
  refine r_getI dX12_isSmall_2 fl_X12_219 sh_49 rfl ?_
  refine r_icmp_ge (tgt := 34) dX12_isSmall_5 rfl (by omega) (by omega) (fun c_5 => ?_) (fun c_5 => ?_)
  · refine r_iconst dX12_isSmall_34 ?_
    refine r_zret dX12_isSmall_35 rfl (.inl rfl) ?_
    exact ⟨_, rfl, kf (by omega)⟩
  · have hb := ht k0.toNat (by omega)
    refine r_aload_n dX12_isSmall_8 rfl rfl ?_
    refine r_getR dX12_isSmall_9 fl_X12_7 sh_49 rfl ?_
    refine r_iload_n dX12_isSmall_12 rfl rfl ?_
    refine r_iald dX12_isSmall_13 sh_50 (by decide) (by omega) ?_
    refine r_bipush dX12_isSmall_14 (by decide +kernel) ?_
    refine r_icmp_lt (tgt := 34) dX12_isSmall_16 rfl (by omega) ⟨by decide, by decide⟩ (fun c_16 => ?_) (fun c_16 => ?_)
    · refine r_iconst dX12_isSmall_34 ?_
      refine r_zret dX12_isSmall_35 rfl (.inl rfl) ?_
      exact ⟨_, rfl, kf (by omega)⟩
    · refine r_aload_n dX12_isSmall_19 rfl rfl ?_
      refine r_getR dX12_isSmall_20 fl_X12_7 sh_49 rfl ?_
      refine r_iload_n dX12_isSmall_23 rfl rfl ?_
      refine r_iald dX12_isSmall_24 sh_50 (by decide) (by omega) ?_
      refine r_bipush dX12_isSmall_25 (by decide +kernel) ?_
      refine r_icmp_gt (tgt := 34) dX12_isSmall_27 rfl (by omega) ⟨by decide, by decide⟩ (fun c_27 => ?_) (fun c_27 => ?_)
      · refine r_iconst dX12_isSmall_34 ?_
        refine r_zret dX12_isSmall_35 rfl (.inl rfl) ?_
        exact ⟨_, rfl, kf (by omega)⟩
      · refine r_iconst dX12_isSmall_30 ?_
        refine r_goto (tgt := 35) dX12_isSmall_31 rfl ?_
        refine r_zret dX12_isSmall_35 rfl (.inr rfl) ?_
        exact ⟨_, rfl, kt (by omega)⟩
set_option maxRecDepth 20000 in
set_option maxHeartbeats 400000 in
theorem sp_X12_isDigit {d : Nat} (hd : 1 ≤ d) {k0 : Int} {h : Hp}  (ht : MT h) (hk : 0 ≤ k0 ∧ k0 ≤ 500) (hn : 0 ≤ h 49 13 ∧ h 49 13 ≤ 500) {P : Int → Hp → Prop} (kt : (k0 < h 49 13 ∧ kd (h 3 k0.toNat) = 2) → P 1 h) (kf : ¬ (k0 < h 49 13 ∧ kd (h 3 k0.toNat) = 2) → P 0 h) : Cl d mX12_isDigit [.inr (.inr 49), .inl k0] h (pI P) := by
  refine Cl.of (L := [some (.inr (.inr 49)), some (.inl k0)]) (by decide +kernel) (Nat.le_of_ble_eq_true rfl) rfl ?_
  have ki := kd_i (h 3 k0.toNat)
  refine r_iload_n dX12_isDigit_0 rfl rfl ?_
  refine r_aload_n dX12_isDigit_1 rfl rfl ?_
  refine r_getI dX12_isDigit_2 fl_X12_219 sh_49 rfl ?_
  refine r_icmp_ge (tgt := 34) dX12_isDigit_5 rfl (by omega) (by omega) (fun c_5 => ?_) (fun c_5 => ?_)
  · refine r_iconst dX12_isDigit_34 ?_
    refine r_zret dX12_isDigit_35 rfl (.inl rfl) ?_
    exact ⟨_, rfl, kf (by omega)⟩
  · have hb := ht k0.toNat (by omega)
    refine r_aload_n dX12_isDigit_8 rfl rfl ?_
    refine r_getR dX12_isDigit_9 fl_X12_7 sh_49 rfl ?_
    refine r_iload_n dX12_isDigit_12 rfl rfl ?_
    refine r_iald dX12_isDigit_13 sh_50 (by decide) (by omega) ?_
    refine r_bipush dX12_isDigit_14 (by decide +kernel) ?_
    refine r_icmp_lt (tgt := 34) dX12_isDigit_16 rfl (by omega) ⟨by decide, by decide⟩ (fun c_16 => ?_) (fun c_16 => ?_)
    · refine r_iconst dX12_isDigit_34 ?_
      refine r_zret dX12_isDigit_35 rfl (.inl rfl) ?_
      exact ⟨_, rfl, kf (by omega)⟩
    · refine r_aload_n dX12_isDigit_19 rfl rfl ?_
      refine r_getR dX12_isDigit_20 fl_X12_7 sh_49 rfl ?_
      refine r_iload_n dX12_isDigit_23 rfl rfl ?_
      refine r_iald dX12_isDigit_24 sh_50 (by decide) (by omega) ?_
      refine r_bipush dX12_isDigit_25 (by decide +kernel) ?_
      refine r_icmp_gt (tgt := 34) dX12_isDigit_27 rfl (by omega) ⟨by decide, by decide⟩ (fun c_27 => ?_) (fun c_27 => ?_)
      · refine r_iconst dX12_isDigit_34 ?_
        refine r_zret dX12_isDigit_35 rfl (.inl rfl) ?_
        exact ⟨_, rfl, kf (by omega)⟩
      · refine r_iconst dX12_isDigit_30 ?_
        refine r_goto (tgt := 35) dX12_isDigit_31 rfl ?_
        refine r_zret dX12_isDigit_35 rfl (.inr rfl) ?_
        exact ⟨_, rfl, kt (by omega)⟩
set_option maxRecDepth 20000 in
set_option maxHeartbeats 400000 in
theorem lp_packed {d : Nat} {P : Int → Hp → Prop} {h : Hp} {a b : Nat} (ht : MT h) (ha : a ≤ b ∧ b ≤ 500) (hl : ∀ i : Nat, a ≤ i → i < b → 97 ≤ h 3 i ∧ h 3 i ≤ 122) (k : P (pkF (h 3) a b) h) : ∀ (nn : Nat) (j : Nat) (z : Int), (j ≤ 6) → (z = pkN (h 3) a b j) → (0 ≤ z ∧ z < 32 ^ j) → 6 - j < nn → WW mX12_packed (d + 1) (pI P) 5 [some (.inr (.inr 49)), some (.inl (a : Int)), some (.inl (b : Int)), some (.inl z), some (.inl ((a : Int) + j))] [] h := by
  intro nn
  induction nn with
  | zero => intro j z hj hz hr; intros; omega
  | succ nn ih =>
    intro j z hj hz hr hmu
    have pw : (32 : Int) ^ j ≤ 1073741824 := by
      have : ∀ j : Nat, j ≤ 6 → (32 : Int) ^ j ≤ 1073741824 := by decide +kernel
      exact this j hj
    have e0 : ((a : Int) + j).toNat = a + j := by omega
    refine r_iload dX12_packed_5 rfl ?_
    refine r_iload_n dX12_packed_7 rfl rfl ?_
    refine r_bipush dX12_packed_8 (by decide +kernel) ?_
    refine r_iadd dX12_packed_10 ?_
    refine r_icmp_ge (tgt := 45) dX12_packed_11 rfl (by omega) (by omega) (fun c_11 => ?_) (fun c_11 => ?_)
    · refine r_iload_n dX12_packed_45 rfl rfl ?_
      refine r_iret dX12_packed_46 rfl ?_
      have e : j = 6 := by omega
      subst e
      exact ⟨_, rfl, eqP k hz.symm⟩
    · have pw2 : j < 6 → (32 : Int) ^ j ≤ 33554432 := by
        have : ∀ j : Nat, j < 6 → (32 : Int) ^ j ≤ 33554432 := by decide +kernel
        exact this j
      have pw2 := pw2 (by omega)
      refine r_iload_n dX12_packed_14 rfl rfl ?_
      refine r_iconst dX12_packed_15 ?_
      refine r_ishl 5 dX12_packed_16 rfl (by decide) ?_
      rw [show (2 : Int) ^ 5 = 32 by decide]
      refine r_iload dX12_packed_17 rfl ?_
      refine r_iload_n dX12_packed_19 rfl rfl ?_
      refine r_icmp_ge (tgt := 36) dX12_packed_20 rfl (by omega) (by omega) (fun c_20 => ?_) (fun c_20 => ?_)
      · refine r_iconst dX12_packed_36 ?_
        refine r_ior 5 dX12_packed_37 (by decide) ⟨by omega, by omega, by omega⟩ (by omega) ?_
        refine r_nmI (fun z2 e_z2 => ?_)
        refine r_istore_n (L' := [_, _, _, _, _]) dX12_packed_38 rfl rfl (by decide) rfl ?_
        refine r_iinc (L' := [_, _, _, _, _]) dX12_packed_39 rfl rfl (by decide) rfl ?_
        refine r_goto (tgt := 5) dX12_packed_42 rfl ?_
        have es : (32 : Int) ^ (j + 1) = 32 ^ j * 32 := Int.pow_succ 32 j
        rw [show (a : Int) + j + 1 = (a : Int) + (j + 1 : Nat) by omega]
        refine ih (j + 1) _ (by omega) ?_ ?_ (by omega)
        · rw [pkN, ← hz]
          first
            | (rw [if_pos (by omega), ← ev]; omega)
            | (rw [if_neg (by omega)]; omega)
        · omega
      · have hb := ht (a + j) (by omega)
        have hc := hl (a + j) (by omega) (by omega)
        have ev : h 50 ((a : Int) + j).toNat = h 3 (a + j) := by rw [e0]; omega
        refine r_aload_n dX12_packed_23 rfl rfl ?_
        refine r_getR dX12_packed_24 fl_X12_7 sh_49 rfl ?_
        refine r_iload dX12_packed_27 rfl ?_
        refine r_iald dX12_packed_29 sh_50 (by decide) (by omega) ?_
        refine r_bipush dX12_packed_30 (by decide +kernel) ?_
        refine r_isub dX12_packed_32 ?_
        refine r_goto (tgt := 37) dX12_packed_33 rfl ?_
        refine r_ior 5 dX12_packed_37 (by decide) ⟨by omega, by omega, by omega⟩ (by omega) ?_
        refine r_nmI (fun z2 e_z2 => ?_)
        refine r_istore_n (L' := [_, _, _, _, _]) dX12_packed_38 rfl rfl (by decide) rfl ?_
        refine r_iinc (L' := [_, _, _, _, _]) dX12_packed_39 rfl rfl (by decide) rfl ?_
        refine r_goto (tgt := 5) dX12_packed_42 rfl ?_
        have es : (32 : Int) ^ (j + 1) = 32 ^ j * 32 := Int.pow_succ 32 j
        rw [show (a : Int) + j + 1 = (a : Int) + (j + 1 : Nat) by omega]
        refine ih (j + 1) _ (by omega) ?_ ?_ (by omega)
        · rw [pkN, ← hz]
          first
            | (rw [if_pos (by omega), ← ev]; omega)
            | (rw [if_neg (by omega)]; omega)
        · omega
set_option maxRecDepth 20000 in
set_option maxHeartbeats 400000 in
theorem sp_X12_packed {d : Nat} (hd : 2 ≤ d) {h : Hp} {a b : Nat} (ht : MT h) (ha : a ≤ b ∧ b ≤ 500) (hl : ∀ i : Nat, a ≤ i → i < b → 97 ≤ h 3 i ∧ h 3 i ≤ 122) {P : Int → Hp → Prop} (k : P (pkF (h 3) a b) (h)) : Cl d mX12_packed [.inr (.inr 49), .inl (a : Int), .inl (b : Int)] h (pI P) := by
  refine Cl.of (L := [some (.inr (.inr 49)), some (.inl (a : Int)), some (.inl (b : Int)), none, none]) (by decide +kernel) (Nat.le_of_ble_eq_true rfl) rfl ?_
  obtain ⟨d, rfl⟩ : ∃ q, d = q + 1 := ⟨d - 1, by omega⟩
  refine r_iconst dX12_packed_0 ?_
  refine r_istore_n (L' := [_, _, _, _, _]) dX12_packed_1 rfl rfl (by decide) rfl ?_
  refine r_iload_n dX12_packed_2 rfl rfl ?_
  refine r_nmI (fun x4_3 e_x4_3 => ?_)
  refine r_istore (L' := [_, _, _, _, _]) dX12_packed_3 rfl (by decide) rfl ?_
  refine r_eqL (L' := [some (.inr (.inr 49)), some (.inl (a : Int)), some (.inl (b : Int)), some (.inl 0), some (.inl ((a : Int) + (0 : Nat)))]) (by simp [e_x4_3]) ?_
  exact lp_packed ht ha hl k 7 0 0 (by omega) rfl (by decide) (by omega)
set_option maxRecDepth 20000 in
set_option maxHeartbeats 400000 in
theorem lp_word1 {d : Nat} {post : Pst} {h : Hp} {a b k : Nat} (hW : MWd h) (ht : MT h) (ha : a ≤ b ∧ b ≤ 500) (hk : k < 7) {o6 o7 : Option AV} (K : WW mX12_wordAt (d + 1) post 39 [some (.inr (.inr 49)), some (.inl (a : Int)), some (.inl (b : Int)), some (.inl (k : Int)), some (.inl (ofW k : Int)), some (.inl (lnW k : Int)), o6, o7] [] h) : ∀ (nn : Nat) (j : Nat), (j ≤ lnW k) → lnW k - j < nn → WW mX12_wordAt (d + 1) post 18 [some (.inr (.inr 49)), some (.inl (a : Int)), some (.inl (b : Int)), some (.inl (k : Int)), some (.inl (ofW k : Int)), some (.inl (j : Int)), o6, o7] [] h := by
  intro nn
  induction nn with
  | zero => intro j hj; intros; omega
  | succ nn ih =>
    intro j hj hmu
    have w := ofW_r k hk
    have e0 : ((ofW k : Int) + j).toNat = ofW k + j := by omega
    have hv := hW (ofW k + j) (by omega)
    rw [← e0] at hv
    have hc : j < lnW k → wordL.getD ((ofW k : Int) + j).toNat 0 = chS k j ∧ chS k j ≠ 32 ∧ 0 ≤ chS k j ∧ chS k j < 128 := fun z => by rw [e0]; exact w.2.2.2.2 j z
    have hc2 : j = lnW k → wordL.getD ((ofW k : Int) + j).toNat 0 = 32 := fun z => by rw [e0, z]; exact w.2.2.2.1
    have rg : 0 ≤ h 51 ((ofW k : Int) + j).toNat ∧ h 51 ((ofW k : Int) + j).toNat ≤ 200 := by
      by_cases z : j = lnW k
      · have := hc2 z; omega
      · have := hc (by omega); omega
    refine r_aload_n dX12_wordAt_18 rfl rfl ?_
    refine r_getR dX12_wordAt_19 fl_X12_29 sh_49 rfl ?_
    refine r_iload dX12_wordAt_22 rfl ?_
    refine r_iload dX12_wordAt_24 rfl ?_
    refine r_iadd dX12_wordAt_26 ?_
    refine r_iald dX12_wordAt_27 sh_51 (by decide) (by omega) ?_
    refine r_bipush dX12_wordAt_28 (by decide +kernel) ?_
    refine r_icmp_eq (tgt := 39) dX12_wordAt_30 rfl (by omega) ⟨by decide, by decide⟩ (fun c_30 => ?_) (fun c_30 => ?_)
    · have e : j = lnW k := by
        by_cases z : j = lnW k
        · exact z
        · have := hc (by omega)
          omega
      subst e
      exact K
    · refine r_iinc (L' := [_, _, _, _, _, _, _, _]) dX12_wordAt_33 rfl rfl (by decide) rfl ?_
      refine r_goto (tgt := 18) dX12_wordAt_36 rfl ?_
      refine ih (j + 1) ?_ (by omega)
      by_cases z : j = lnW k
      · have := hc2 z
        omega
      · omega
set_option maxRecDepth 20000 in
set_option maxHeartbeats 400000 in
theorem lp_word2 {d : Nat} {post : Pst} {h : Hp} {a b k : Nat} (hW : MWd h) (ht : MT h) (ha : a ≤ b ∧ b ≤ 500) (hk : k < 7) (Kt : kwP (h 3) k a b → ∀ o : Option AV, WW mX12_wordAt (d + 1) post 104 [some (.inr (.inr 49)), some (.inl (a : Int)), some (.inl (b : Int)), some (.inl (k : Int)), some (.inl (ofW k : Int)), some (.inl (lnW k : Int)), some (.inl 1), o] [] h) (Kf : ¬ kwP (h 3) k a b → ∀ o : Option AV, WW mX12_wordAt (d + 1) post 104 [some (.inr (.inr 49)), some (.inl (a : Int)), some (.inl (b : Int)), some (.inl (k : Int)), some (.inl (ofW k : Int)), some (.inl (lnW k : Int)), some (.inl 0), o] [] h) : ∀ (nn : Nat) (j : Nat) (sm : Int), (j ≤ lnW k) → ((sm = 1 ∧ b = a + lnW k ∧ ∀ q : Nat, q < j → h 3 (a + q) = chS k q) ∨ (sm = 0 ∧ ¬ kwP (h 3) k a b)) → lnW k - j < nn → WW mX12_wordAt (d + 1) post 57 [some (.inr (.inr 49)), some (.inl (a : Int)), some (.inl (b : Int)), some (.inl (k : Int)), some (.inl (ofW k : Int)), some (.inl (lnW k : Int)), some (.inl sm), some (.inl (j : Int))] [] h := by
  intro nn
  induction nn with
  | zero => intro j sm hj hs; intros; omega
  | succ nn ih =>
    intro j sm hj hs hmu
    have w := ofW_r k hk
    have e0 : ((ofW k : Int) + j).toNat = ofW k + j := by omega
    refine r_iload dX12_wordAt_57 rfl ?_
    refine r_iload dX12_wordAt_59 rfl ?_
    refine r_icmp_ge (tgt := 104) dX12_wordAt_61 rfl (by omega) (by omega) (fun c_61 => ?_) (fun c_61 => ?_)
    · rcases hs with ⟨s1, s2, s3⟩ | ⟨s1, s2⟩
      · subst s1
        first
          | exact absurd c_66 (by decide)
          | (have e : j = lnW k := by omega
             subst e
             exact Kt ⟨s2, s3⟩ _)
      · subst s1
        exact Kf s2 _
    · refine r_iload dX12_wordAt_64 rfl ?_
      refine r_if_eq (tgt := 104) dX12_wordAt_66 rfl (by omega) (fun c_66 => ?_) (fun c_66 => ?_)
      · rcases hs with ⟨s1, s2, s3⟩ | ⟨s1, s2⟩
        · subst s1
          first
            | exact absurd c_66 (by decide)
            | (have e : j = lnW k := by omega
               subst e
               exact Kt ⟨s2, s3⟩ _)
        · subst s1
          exact Kf s2 _
      · have wj := w.2.2.2.2 j (by omega)
        have hv := hW (ofW k + j) (by omega)
        have e1 : ((a : Int) + j).toNat = a + j := by omega
        have hb := ht (a + j) (by omega)
        rw [← e0] at hv wj
        rw [← e1] at hb
        have e2 : h 3 ((a : Int) + j).toNat = h 3 (a + j) := by rw [e1]
        refine r_aload_n dX12_wordAt_69 rfl rfl ?_
        refine r_getR dX12_wordAt_70 fl_X12_29 sh_49 rfl ?_
        refine r_iload dX12_wordAt_73 rfl ?_
        refine r_iload dX12_wordAt_75 rfl ?_
        refine r_iadd dX12_wordAt_77 ?_
        refine r_iald dX12_wordAt_78 sh_51 (by decide) (by omega) ?_
        refine r_aload_n dX12_wordAt_79 rfl rfl ?_
        refine r_getR dX12_wordAt_80 fl_X12_7 sh_49 rfl ?_
        refine r_iload_n dX12_wordAt_83 rfl rfl ?_
        refine r_iload dX12_wordAt_84 rfl ?_
        refine r_iadd dX12_wordAt_86 ?_
        refine r_iald dX12_wordAt_87 sh_50 (by decide) (by omega) ?_
        refine r_icmp_ne (tgt := 95) dX12_wordAt_88 rfl (by omega) (by omega) (fun c_88 => ?_) (fun c_88 => ?_)
        · refine r_iconst dX12_wordAt_95 ?_
          refine r_istore (L' := [_, _, _, _, _, _, _, _]) dX12_wordAt_96 rfl (by decide) rfl ?_
          refine r_iinc (L' := [_, _, _, _, _, _, _, _]) dX12_wordAt_98 rfl rfl (by decide) rfl ?_
          refine r_goto (tgt := 57) dX12_wordAt_101 rfl ?_
          have hs := hs.resolve_right (fun z => by omega)
          refine ih (j + 1) _ (by omega) ?_ (by omega)
          first
            | (left
               refine ⟨rfl, hs.2.1, fun q hq => ?_⟩
               by_cases e : q = j
               · rw [e, ← e2]; omega
               · exact hs.2.2 q (by omega))
            | (right
               refine ⟨rfl, fun z => ?_⟩
               have := z.2 j (by omega)
               omega)
        · refine r_iconst dX12_wordAt_91 ?_
          refine r_goto (tgt := 96) dX12_wordAt_92 rfl ?_
          refine r_istore (L' := [_, _, _, _, _, _, _, _]) dX12_wordAt_96 rfl (by decide) rfl ?_
          refine r_iinc (L' := [_, _, _, _, _, _, _, _]) dX12_wordAt_98 rfl rfl (by decide) rfl ?_
          refine r_goto (tgt := 57) dX12_wordAt_101 rfl ?_
          have hs := hs.resolve_right (fun z => by omega)
          refine ih (j + 1) _ (by omega) ?_ (by omega)
          first
            | (left
               refine ⟨rfl, hs.2.1, fun q hq => ?_⟩
               by_cases e : q = j
               · rw [e, ← e2]; omega
               · exact hs.2.2 q (by omega))
            | (right
               refine ⟨rfl, fun z => ?_⟩
               have := z.2 j (by omega)
               omega)
set_option maxRecDepth 20000 in
set_option maxHeartbeats 400000 in
theorem lp_word {d : Nat} {P : Int → Hp → Prop} {h : Hp} {a b : Nat} (hW : MWd h) (ht : MT h) (ha : a ≤ b ∧ b ≤ 500) (kk : P (kwI (h 3) a b) h) : ∀ (nn : Nat) (k : Nat) (o5 o6 o7 : Option AV), (k ≤ 7) → (∀ q : Nat, q < k → ¬ kwP (h 3) q a b) → 7 - k < nn → WW mX12_wordAt (d + 1) (pI P) 5 [some (.inr (.inr 49)), some (.inl (a : Int)), some (.inl (b : Int)), some (.inl (k : Int)), some (.inl (ofW k : Int)), o5, o6, o7] [] h := by
  intro nn
  induction nn with
  | zero => intro k o5 o6 o7 hk hn; intros; omega
  | succ nn ih =>
    intro k o5 o6 o7 hk hn hmu
    have wk : k < 7 → ofW k + lnW k + 1 = ofW (k + 1) ∧ ofW k + lnW k < 34 := fun z => ⟨(ofW_r k z).1, (ofW_r k z).2.1⟩
    have w7 : k = 7 → ofW k = 34 := fun z => by rw [z]; rfl
    have wb : ofW k ≤ 34 := by
      by_cases z : k = 7
      · have := w7 z
        omega
      · have := wk (by omega)
        omega
    refine r_iload dX12_wordAt_5 rfl ?_
    refine r_aload_n dX12_wordAt_7 rfl rfl ?_
    refine r_getR dX12_wordAt_8 fl_X12_29 sh_49 rfl ?_
    refine r_alen dX12_wordAt_11 sh_51 ?_
    refine r_icmp_ge (tgt := 126) dX12_wordAt_12 rfl (by omega) ⟨by decide, by decide⟩ (fun c_12 => ?_) (fun c_12 => ?_)
    · refine r_iconst dX12_wordAt_126 ?_
      refine r_iret dX12_wordAt_127 rfl ?_
      refine ⟨_, rfl, eqP kk (kwI_no (fun q hq => hn q ?_))⟩
      by_cases z : k = 7
      · omega
      · have := wk (by omega)
        omega
    · refine r_iconst dX12_wordAt_15 ?_
      refine r_istore (L' := [_, _, _, _, _, _, _, _]) dX12_wordAt_16 rfl (by decide) rfl ?_
      have k7 : k < 7 := by
        by_cases z : k = 7
        · have := w7 z
          omega
        · omega
      have wk := wk k7
      have tail : ∀ (sm : Int), (sm = 1 ∧ b = a + lnW k) ∨ (sm = 0 ∧ ¬ b = a + lnW k) → WW mX12_wordAt (d + 1) (pI P) 57 [some (.inr (.inr 49)), some (.inl (a : Int)), some (.inl (b : Int)), some (.inl (k : Int)), some (.inl (ofW k : Int)), some (.inl (lnW k : Int)), some (.inl sm), some (.inl ((0 : Nat) : Int))] [] h := by
        intro sm hsm
        refine lp_word2 hW ht ha k7 (fun z o => ?_) (fun z o => ?_) (lnW k + 1) 0 sm (by omega) ?_ (by omega)
        · refine r_iload dX12_wordAt_104 rfl ?_
          refine r_if_eq (tgt := 111) dX12_wordAt_106 rfl ⟨by decide, by decide⟩ (fun c => absurd c (by decide)) (fun _ => ?_)
          refine r_iload_n dX12_wordAt_109 rfl rfl ?_
          refine r_iret dX12_wordAt_110 rfl ?_
          exact ⟨_, rfl, eqP kk (kwI_of k7 z hn)⟩
        · refine r_iload dX12_wordAt_104 rfl ?_
          refine r_if_eq (tgt := 111) dX12_wordAt_106 rfl ⟨by decide, by decide⟩ (fun _ => ?_) (fun c => absurd rfl c)
          refine r_iload dX12_wordAt_111 rfl ?_
          refine r_iload dX12_wordAt_113 rfl ?_
          refine r_iconst dX12_wordAt_115 ?_
          refine r_iadd dX12_wordAt_116 ?_
          refine r_iadd dX12_wordAt_117 ?_
          refine r_eqI (y := (ofW (k + 1) : Int)) (by omega) ?_
          refine r_istore (L' := [_, _, _, _, _, _, _, _]) dX12_wordAt_118 rfl (by decide) rfl ?_
          refine r_iinc (L' := [_, _, _, _, _, _, _, _]) dX12_wordAt_120 rfl rfl (by decide) rfl ?_
          refine r_goto (tgt := 5) dX12_wordAt_123 rfl ?_
          refine ih (k + 1) _ _ _ (by omega) (fun q hq => ?_) (by omega)
          by_cases e : q = k
          · rw [e]; exact z
          · exact hn q (by omega)
        · rcases hsm with ⟨s1, s2⟩ | ⟨s1, s2⟩
          · exact Or.inl ⟨s1, s2, fun q hq => absurd hq (Nat.not_lt_zero q)⟩
          · exact Or.inr ⟨s1, fun z => s2 z.1⟩
      refine lp_word1 (h := h) hW ht ha k7 ?_ (lnW k + 1) 0 (by omega) (by omega)
      have lk := (ofW_r k k7).2.2.1
      refine r_iload dX12_wordAt_39 rfl ?_
      refine r_iload_n dX12_wordAt_41 rfl rfl ?_
      refine r_iload_n dX12_wordAt_42 rfl rfl ?_
      refine r_isub dX12_wordAt_43 ?_
      refine r_icmp_ne (tgt := 51) dX12_wordAt_44 rfl (by omega) (by omega) (fun c_44 => ?_) (fun c_44 => ?_)
      · refine r_iconst dX12_wordAt_51 ?_
        refine r_istore (L' := [_, _, _, _, _, _, _, _]) dX12_wordAt_52 rfl (by decide) rfl ?_
        refine r_iconst dX12_wordAt_54 ?_
        refine r_istore (L' := [_, _, _, _, _, _, _, _]) dX12_wordAt_55 rfl (by decide) rfl ?_
        exact tail _ (Or.inr ⟨rfl, by omega⟩)
      · refine r_iconst dX12_wordAt_47 ?_
        refine r_goto (tgt := 52) dX12_wordAt_48 rfl ?_
        refine r_istore (L' := [_, _, _, _, _, _, _, _]) dX12_wordAt_52 rfl (by decide) rfl ?_
        refine r_iconst dX12_wordAt_54 ?_
        refine r_istore (L' := [_, _, _, _, _, _, _, _]) dX12_wordAt_55 rfl (by decide) rfl ?_
        exact tail _ (Or.inl ⟨rfl, by omega⟩)
set_option maxRecDepth 20000 in
set_option maxHeartbeats 400000 in
theorem sp_X12_wordAt {d : Nat} (hd : 2 ≤ d) {h : Hp} {a b : Nat} (hW : MWd h) (ht : MT h) (ha : a ≤ b ∧ b ≤ 500) {P : Int → Hp → Prop} (k : P (kwI (h 3) a b) (h)) : Cl d mX12_wordAt [.inr (.inr 49), .inl (a : Int), .inl (b : Int)] h (pI P) := by
  refine Cl.of (L := [some (.inr (.inr 49)), some (.inl (a : Int)), some (.inl (b : Int)), none, none, none, none, none]) (by decide +kernel) (Nat.le_of_ble_eq_true rfl) rfl ?_
  obtain ⟨d, rfl⟩ : ∃ q, d = q + 1 := ⟨d - 1, by omega⟩
  refine r_iconst dX12_wordAt_0 ?_
  refine r_istore_n (L' := [_, _, _, _, _, _, _, _]) dX12_wordAt_1 rfl rfl (by decide) rfl ?_
  refine r_iconst dX12_wordAt_2 ?_
  refine r_istore (L' := [_, _, _, _, _, _, _, _]) dX12_wordAt_3 rfl (by decide) rfl ?_
  exact lp_word hW ht ha k 8 0 _ _ _ (by omega) (fun q hq => absurd hq (Nat.not_lt_zero q)) (by omega)
