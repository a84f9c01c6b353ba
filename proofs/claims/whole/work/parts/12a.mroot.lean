/-! THE REFERENCE: roots, steps, places, pulls -/
abbrev MOK (h : Hp) : Prop := 20 ≤ h 49 3 ∧ h 49 3 ≤ 200 ∧ 20 ≤ h 49 4 ∧ h 49 4 ≤ 200 ∧ 2 ≤ h 49 5 ∧ h 49 5 ≤ 20 ∧ 0 ≤ h 49 6 ∧ h 49 6 ≤ 99 ∧ 1 ≤ h 49 7 ∧ h 49 7 ≤ 99 ∧ 1 ≤ h 49 8 ∧ h 49 8 ≤ 9999
theorem pw2 (m : Nat) : (2 : Int) ^ (m + 1) / 2 = 2 ^ m := by
  rw [Int.pow_succ]
  exact Int.mul_ediv_cancel _ (by decide)
theorem pwE (m : Nat) : (2 : Int) ^ (m + 1) = 2 * 2 ^ m := by rw [Int.pow_succ]; omega
theorem pw_le {m k : Nat} (h : m ≤ k) : (2 : Int) ^ m ≤ 2 ^ k := by
  have : (2 : Nat) ^ m ≤ 2 ^ k := Nat.pow_le_pow_right (by decide) h
  exact_mod_cast this
theorem mod_half {r : Int} {m : Nat} (h : r % 2 ^ (m + 1) = 0) : r % 2 ^ m = 0 ∧ (r + 2 ^ m) % 2 ^ m = 0 := by
  have hp := pw1 m
  have h1 : (2 : Int) ^ (m + 1) ∣ r := Int.dvd_of_emod_eq_zero h
  have h2 : (2 : Int) ^ m ∣ r := Int.dvd_trans ⟨2, by rw [Int.pow_succ]⟩ h1
  exact ⟨Int.emod_eq_zero_of_dvd h2, Int.emod_eq_zero_of_dvd (Int.dvd_add h2 ⟨1, by omega⟩)⟩
theorem hung_le {E g n : Int} (hE : 0 ≤ E ∧ E ≤ 99) (hg : 0 ≤ g) (hn : 0 ≤ n) : hgF E n ≤ g ↔ n ≤ (10000 * (g + 1) - 1).tdiv (10000 + E) := by
  have h1 : 0 ≤ n * E := Int.mul_nonneg hn hE.1
  unfold hgF
  rw [Int.tdiv_eq_ediv_of_nonneg h1, Int.tdiv_eq_ediv_of_nonneg (by omega), Int.le_ediv_iff_mul_le (by omega)]
  have e : n * (10000 + E) = 10000 * n + n * E := by grind
  rw [e]
  omega
set_option maxRecDepth 20000 in
set_option maxHeartbeats 400000 in
theorem sp_X12_isIn {d : Nat} (hd : 1 ≤ d) {n a b : Int} {h : Hp}  (hn : R32 n) (ha : R32 a) (hb : R32 b) {P : Int → Hp → Prop} (kt : (a ≤ n ∧ n ≤ b) → P 1 h) (kf : ¬ (a ≤ n ∧ n ≤ b) → P 0 h) : Cl d mX12_isIn [.inl n, .inl a, .inl b] h (pI P) := by
  refine Cl.of (L := [some (.inl n), some (.inl a), some (.inl b)]) (by decide +kernel) (Nat.le_of_ble_eq_true rfl) rfl ?_
  refine r_iload_n dX12_isIn_0 rfl rfl ?_
  refine r_iload_n dX12_isIn_1 rfl rfl ?_
  refine r_icmp_lt (tgt := 14) dX12_isIn_2 rfl (by omega) (by omega) (fun c_2 => ?_) (fun c_2 => ?_)
  · refine r_iconst dX12_isIn_14 ?_
    refine r_zret dX12_isIn_15 rfl (.inl rfl) ?_
    exact ⟨_, rfl, kf (by omega)⟩
  · refine r_iload_n dX12_isIn_5 rfl rfl ?_
    refine r_iload_n dX12_isIn_6 rfl rfl ?_
    refine r_icmp_gt (tgt := 14) dX12_isIn_7 rfl (by omega) (by omega) (fun c_7 => ?_) (fun c_7 => ?_)
    · refine r_iconst dX12_isIn_14 ?_
      refine r_zret dX12_isIn_15 rfl (.inl rfl) ?_
      exact ⟨_, rfl, kf (by omega)⟩
    · refine r_iconst dX12_isIn_10 ?_
      refine r_goto (tgt := 15) dX12_isIn_11 rfl ?_
      refine r_zret dX12_isIn_15 rfl (.inr rfl) ?_
      exact ⟨_, rfl, kt (by omega)⟩
set_option maxRecDepth 20000 in
set_option maxHeartbeats 400000 in
theorem sp_X12_sizeOf {d : Nat} (hd : 1 ≤ d) {n : Int} {h : Hp}  (hn : R32 n) {P : Int → Hp → Prop} (k : P ((n.natAbs : Int)) (h)) : Cl d mX12_sizeOf [.inl n] h (pI P) := by
  refine Cl.of (L := [some (.inl n)]) (by decide +kernel) (Nat.le_of_ble_eq_true rfl) rfl ?_
  refine r_iload_n dX12_sizeOf_0 rfl rfl ?_
  refine r_if_ge (tgt := 9) dX12_sizeOf_1 rfl (by omega) (fun c_1 => ?_) (fun c_1 => ?_)
  · refine r_iload_n dX12_sizeOf_9 rfl rfl ?_
    refine r_iret dX12_sizeOf_10 rfl ?_
    exact ⟨_, rfl, eqP k (by omega)⟩
  · refine r_iload_n dX12_sizeOf_4 rfl rfl ?_
    refine r_ineg dX12_sizeOf_5 ?_
    refine r_goto (tgt := 10) dX12_sizeOf_6 rfl ?_
    refine r_iret dX12_sizeOf_10 rfl ?_
    exact ⟨_, rfl, eqP k (by omega)⟩
set_option maxRecDepth 20000 in
set_option maxHeartbeats 400000 in
theorem lp_mroot {d : Nat} {P : Int → Hp → Prop} {h : Hp} {n : Int} (hn : 0 ≤ n ∧ n < 4611686018427387904) (k : P (rt n) h) : ∀ (nn : Nat) (r b : Int) (m : Nat) (o : Option AV), (b = 2 ^ m / 2) → (m ≤ 31) → (0 ≤ r ∧ r + 2 ^ m ≤ 2147483648 ∧ r % 2 ^ m = 0) → (r * r ≤ n) → (n < (r + 2 ^ m) * (r + 2 ^ m)) → m < nn → WW mX12_root d (pJ P) 7 [some (.inr (.inl n)), none, some (.inr (.inl r)), none, some (.inr (.inl b)), none, o, none] [] h := by
  intro nn
  induction nn with
  | zero => intro r b m o hb hm hr h1 h2; intros; omega
  | succ nn ih =>
    intro r b m o hb hm hr h1 h2 hmu
    have hp := pw1 m
    refine r_lload dX12_root_7 rfl ?_
    refine r_lconst (z := 0) dX12_root_9 (by decide +kernel) ?_
    refine r_lcmp_le (tgt := 42) dX12_root_10 dX12_root_11 rfl (by omega) ⟨by decide, by decide⟩ (fun c_10 => ?_) (fun c_10 => ?_)
    · refine r_lload_n dX12_root_42 rfl rfl ?_
      refine r_lret dX12_root_43 rfl ?_
      have e0 : m = 0 := by
        rcases m with _ | m
        · rfl
        · rw [pw2] at hb
          have := pw1 m
          omega
      subst e0
      exact ⟨_, rfl, eqP k (rt_of ⟨hr.1, h1, by simpa using h2⟩)⟩
    · obtain ⟨m, rfl⟩ : ∃ q, m = q + 1 := by
        rcases m with _ | m
        · rw [hb] at c_10
          exact absurd c_10 (by decide)
        · exact ⟨m, rfl⟩
      rw [pw2] at hb
      have hp := pw1 m
      have hq := pwE m
      have hz := mod_half hr.2.2
      have hle := pw_le (m := m) (k := 30) (by omega)
      have ht := mulR (a := r + 2 ^ m) (b := r + 2 ^ m) (A := 2147483648) (B := 2147483648) (by omega) (by omega)
      subst hb
      refine r_lload_n dX12_root_14 rfl rfl ?_
      refine r_lload dX12_root_15 rfl ?_
      refine r_lor m dX12_root_17 (by omega) ⟨by omega, by omega, hr.2.2⟩ rfl ?_
      refine r_lstore (L' := [_, _, _, _, _, _, _, _]) dX12_root_18 rfl (by decide) rfl ?_
      refine r_lload dX12_root_20 rfl ?_
      refine r_lload dX12_root_22 rfl ?_
      refine r_lmul dX12_root_24 ?_
      refine r_lload_n dX12_root_25 rfl rfl ?_
      refine r_lcmp_gt (tgt := 33) dX12_root_26 dX12_root_27 rfl (by omega) (by omega) (fun c_26 => ?_) (fun c_26 => ?_)
      · refine r_lload dX12_root_33 rfl ?_
        refine r_iconst dX12_root_35 ?_
        refine r_lshr1 dX12_root_36 (by have := Int.ediv_le_self (2 : Int) (show (0:Int) ≤ 2 ^ m by omega); omega) ?_
        refine r_lstore (L' := [_, _, _, _, _, _, _, _]) dX12_root_37 rfl (by decide) rfl ?_
        refine r_goto (tgt := 7) dX12_root_39 rfl ?_
        exact ih r _ m _ rfl (by omega) ⟨by omega, by omega, hz.1⟩ h1 (by omega) (by omega)
      · refine r_lload dX12_root_30 rfl ?_
        refine r_lstore_n (L' := [_, _, _, _, _, _, _, _]) dX12_root_32 rfl rfl (by decide) rfl ?_
        refine r_lload dX12_root_33 rfl ?_
        refine r_iconst dX12_root_35 ?_
        refine r_lshr1 dX12_root_36 (by have := Int.ediv_le_self (2 : Int) (show (0:Int) ≤ 2 ^ m by omega); omega) ?_
        refine r_lstore (L' := [_, _, _, _, _, _, _, _]) dX12_root_37 rfl (by decide) rfl ?_
        refine r_goto (tgt := 7) dX12_root_39 rfl ?_
        exact ih (r + 2 ^ m) _ m _ rfl (by omega) ⟨by omega, by omega, hz.2⟩ (by omega) (by rw [show r + 2 ^ m + 2 ^ m = r + 2 ^ (m + 1) by omega]; exact h2) (by omega)
set_option maxRecDepth 20000 in
set_option maxHeartbeats 400000 in
theorem sp_X12_root {d : Nat} (hd : 1 ≤ d) {n : Int} {h : Hp}  (hn : 0 ≤ n ∧ n < 4611686018427387904) {P : Int → Hp → Prop} (k : P (rt n) (h)) : Cl d mX12_root [.inr (.inl n)] h (pJ P) := by
  refine Cl.of (L := [some (.inr (.inl n)), none, none, none, none, none, none, none]) (by decide +kernel) (Nat.le_of_ble_eq_true rfl) rfl ?_
  refine r_lconst (z := 0) dX12_root_0 (by decide +kernel) ?_
  refine r_lstore_n (L' := [_, _, _, _, _, _, _, _]) dX12_root_1 rfl rfl (by decide) rfl ?_
  refine r_ldc2 (z := 1073741824) dX12_root_2 kl_X12_133 (by decide +kernel) ?_
  refine r_lstore (L' := [_, _, _, _, _, _, _, _]) dX12_root_5 rfl (by decide) rfl ?_
  exact lp_mroot hn k 32 _ _ 31 _ (by decide) (by decide) ⟨by decide, by decide, by decide⟩ (by omega) (by omega) (by omega)
