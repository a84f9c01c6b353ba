/-! WHOLE NUMBERS: roots, places, steps -/
theorem eqP {P : Int → Hp → Prop} {x y : Int} {h : Hp} (k : P x h) (e : x = y) : P y h := e ▸ k
theorem eqH {P : Int → Hp → Prop} {x y : Int} {h h2 : Hp} (k : P x h) (e : x = y) (e2 : h = h2) : P y h2 := e2 ▸ e ▸ k
theorem ilg (a b : Int) : a < b ∨ b ≤ a := by omega
def IsRt (n r : Int) : Prop := 0 ≤ r ∧ r * r ≤ n ∧ n < (r + 1) * (r + 1)
noncomputable def rt (n : Int) : Int := Classical.epsilon (fun r => IsRt n r)
theorem rt_uniq {n a b : Int} (ha : IsRt n a) (hb : IsRt n b) : a = b := by
  obtain ⟨a0, a1, a2⟩ := ha
  obtain ⟨b0, b1, b2⟩ := hb
  rcases Int.lt_trichotomy a b with h | h | h
  · have : (a + 1) * (a + 1) ≤ b * b := Int.mul_le_mul (by omega) (by omega) (by omega) (by omega)
    omega
  · exact h
  · have : (b + 1) * (b + 1) ≤ a * a := Int.mul_le_mul (by omega) (by omega) (by omega) (by omega)
    omega
theorem rt_ex {n : Int} (h : 0 ≤ n) : ∃ r, IsRt n r := by
  obtain ⟨k, rfl⟩ := Int.eq_ofNat_of_zero_le h
  induction k with
  | zero => exact ⟨0, by decide, by decide, by decide⟩
  | succ k ih =>
    obtain ⟨r, r0, r1, r2⟩ := ih (by omega)
    by_cases hq : ((k + 1 : Nat) : Int) < (r + 1) * (r + 1)
    · exact ⟨r, r0, by omega, hq⟩
    · refine ⟨r + 1, by omega, by omega, ?_⟩
      have e : (r + 1 + 1) * (r + 1 + 1) = (r + 1) * (r + 1) + 2 * r + 3 := by grind
      rw [e]
      omega
theorem rt_is {n : Int} (h : 0 ≤ n) : IsRt n (rt n) := Classical.epsilon_spec (rt_ex h)
theorem rt_of {n r : Int} (h : IsRt n r) : rt n = r := by
  have h0 : 0 ≤ n := by
    have := Int.mul_nonneg h.1 h.1
    have := h.2.1
    omega
  exact rt_uniq (rt_is h0) h
theorem rt_nn {n : Int} (h : 0 ≤ n) : 0 ≤ rt n := (rt_is h).1
theorem rt_le {n b : Int} (h : 0 ≤ n) (hb : 0 ≤ b) (hn : n ≤ b * b) : rt n ≤ b := by
  obtain ⟨r0, r1, r2⟩ := rt_is h
  rcases ilg b (rt n) with q | q
  · have : (b + 1) * (b + 1) ≤ rt n * rt n := Int.mul_le_mul (by omega) (by omega) (by omega) (by omega)
    have e : (b + 1) * (b + 1) = b * b + 2 * b + 1 := by grind
    omega
  · exact q
theorem rt_ge {n b : Int} (h : 0 ≤ n) (hb : 0 ≤ b) (hn : b * b ≤ n) : b ≤ rt n := by
  obtain ⟨r0, r1, r2⟩ := rt_is h
  rcases ilg (rt n) b with q | q
  · have : (rt n + 1) * (rt n + 1) ≤ b * b := Int.mul_le_mul (by omega) (by omega) (by omega) (by omega)
    omega
  · exact q
theorem rt_mono {a b : Int} (h : 0 ≤ a) (hab : a ≤ b) : rt a ≤ rt b := rt_ge (by omega) (rt_nn h) (by have := (rt_is h).2.1; omega)
/-- Newton's step from r at least the root -/
theorem newton {n s r : Int} (h : IsRt n s) (hr : s < r) : s ≤ (r + n.tdiv r).tdiv 2 ∧ 2 * ((r + n.tdiv r).tdiv 2) ≤ r + s ∧ (r + n.tdiv r).tdiv 2 < r := by
  obtain ⟨s0, s1, s2⟩ := h
  have hn0 : 0 ≤ n := by have := Int.mul_nonneg s0 s0; omega
  have e1 : n.tdiv r = n / r := Int.tdiv_eq_ediv_of_nonneg hn0
  have hq0 : 0 ≤ n / r := Int.ediv_nonneg hn0 (by omega)
  have e2 : (r + n / r).tdiv 2 = (r + n / r) / 2 := Int.tdiv_eq_ediv_of_nonneg (by omega)
  rw [e1, e2]
  have h1 : 2 * s - r ≤ n / r := by
    refine (Int.le_ediv_iff_mul_le (by omega)).mpr ?_
    have : 0 ≤ (r - s) * (r - s) := Int.mul_nonneg (by omega) (by omega)
    have e : (2 * s - r) * r = s * s - (r - s) * (r - s) := by grind
    omega
  have h2 : n / r ≤ s := by
    have : n / r < s + 1 := by
      refine (Int.ediv_lt_iff_lt_mul (by omega)).mpr ?_
      have : (s + 1) * (s + 1) ≤ (s + 1) * r := Int.mul_le_mul_of_nonneg_left (by omega) (by omega)
      omega
    omega
  omega
theorem newton0 {n s : Int} (h : IsRt n s) (hs : 0 < s) : s ≤ (s + n.tdiv s).tdiv 2 := by
  obtain ⟨s0, s1, s2⟩ := h
  have hn0 : 0 ≤ n := by have := Int.mul_nonneg s0 s0; omega
  have e1 : n.tdiv s = n / s := Int.tdiv_eq_ediv_of_nonneg hn0
  have h1 : s ≤ n / s := (Int.le_ediv_iff_mul_le hs).mpr s1
  have e2 : (s + n / s).tdiv 2 = (s + n / s) / 2 := Int.tdiv_eq_ediv_of_nonneg (by omega)
  rw [e1, e2]
  omega
theorem newton1 {n s r : Int} (h : IsRt n s) (hr : 0 < r) : s ≤ (r + n.tdiv r).tdiv 2 := by
  obtain ⟨s0, s1, s2⟩ := h
  have hn0 : 0 ≤ n := by have := Int.mul_nonneg s0 s0; omega
  have e1 : n.tdiv r = n / r := Int.tdiv_eq_ediv_of_nonneg hn0
  have hq0 : 0 ≤ n / r := Int.ediv_nonneg hn0 (by omega)
  have e2 : (r + n / r).tdiv 2 = (r + n / r) / 2 := Int.tdiv_eq_ediv_of_nonneg (by omega)
  rw [e1, e2]
  have h1 : 2 * s - r ≤ n / r := by
    refine (Int.le_ediv_iff_mul_le (by omega)).mpr ?_
    have : 0 ≤ (r - s) * (r - s) := by
      rcases Int.le_total r s with q | q
      · have := Int.mul_nonneg (show 0 ≤ s - r by omega) (show 0 ≤ s - r by omega)
        have e : (r - s) * (r - s) = (s - r) * (s - r) := by grind
        omega
      · exact Int.mul_nonneg (by omega) (by omega)
    have e : (2 * s - r) * r = s * s - (r - s) * (r - s) := by grind
    omega
  omega
theorem tdivNN {a b : Int} (ha : 0 ≤ a) (hb : 0 < b) : 0 ≤ a.tdiv b ∧ a.tdiv b ≤ a := by
  rw [Int.tdiv_eq_ediv_of_nonneg ha]
  exact ⟨Int.ediv_nonneg ha (by omega), Int.ediv_le_self _ ha⟩
/-- what is left to the root halves: behind k rounds it is below 2^62 / 2^k -/
theorem halves {e e' k : Int} {j : Nat} (h : e * 2 ^ j ≤ k) (h2 : 2 * e' ≤ e) : e' * 2 ^ (j + 1) ≤ k := by
  have hp := pw1 j
  have : (2 * e') * 2 ^ j ≤ e * 2 ^ j := Int.mul_le_mul_of_nonneg_right h2 (by omega)
  have e1 : e' * 2 ^ (j + 1) = (2 * e') * 2 ^ j := by rw [Int.pow_succ]; grind
  omega
theorem halved {e k : Int} {j : Nat} (h : e * 2 ^ j ≤ k) (h0 : 0 ≤ e) (hk : k < 2 ^ 200) (hj : j = 200) : e = 0 := by
  subst hj
  rcases ilg 0 e with q | q
  · have : 1 * 2 ^ 200 ≤ e * 2 ^ 200 := Int.mul_le_mul_of_nonneg_right (by omega) (by omega)
    omega
  · omega
set_option maxRecDepth 20000 in
set_option maxHeartbeats 400000 in
theorem sp_X11_isWithin {d : Nat} (hd : 1 ≤ d) {n a b : Int} {h : Hp}  (hn : R32 n) (ha : R32 a) (hb : R32 b) {P : Int → Hp → Prop} (kt : (a ≤ n ∧ n ≤ b) → P 1 h) (kf : ¬ (a ≤ n ∧ n ≤ b) → P 0 h) : Cl d mX11_isWithin [.inl n, .inl a, .inl b] h (pI P) := by
  refine Cl.of (L := [some (.inl n), some (.inl a), some (.inl b)]) (by decide +kernel) (Nat.le_of_ble_eq_true rfl) rfl ?_
  refine r_iload_n dX11_isWithin_0 rfl rfl ?_
  refine r_iload_n dX11_isWithin_1 rfl rfl ?_
  refine r_icmp_lt (tgt := 14) dX11_isWithin_2 rfl (by omega) (by omega) (fun c_2 => ?_) (fun c_2 => ?_)
  · refine r_iconst dX11_isWithin_14 ?_
    refine r_zret dX11_isWithin_15 rfl (.inl rfl) ?_
    exact ⟨_, rfl, kf (by omega)⟩
  · refine r_iload_n dX11_isWithin_5 rfl rfl ?_
    refine r_iload_n dX11_isWithin_6 rfl rfl ?_
    refine r_icmp_gt (tgt := 14) dX11_isWithin_7 rfl (by omega) (by omega) (fun c_7 => ?_) (fun c_7 => ?_)
    · refine r_iconst dX11_isWithin_14 ?_
      refine r_zret dX11_isWithin_15 rfl (.inl rfl) ?_
      exact ⟨_, rfl, kf (by omega)⟩
    · refine r_iconst dX11_isWithin_10 ?_
      refine r_goto (tgt := 15) dX11_isWithin_11 rfl ?_
      refine r_zret dX11_isWithin_15 rfl (.inr rfl) ?_
      exact ⟨_, rfl, kt (by omega)⟩
set_option maxRecDepth 20000 in
set_option maxHeartbeats 400000 in
theorem sp_X11_isCord {d : Nat} (hd : 1 ≤ d) {n : Int} {h : Hp}  (hn : R32 n) {P : Int → Hp → Prop} (kt : (n = 0 ∨ n = 1) → P 1 h) (kf : ¬ (n = 0 ∨ n = 1) → P 0 h) : Cl d mX11_isCord [.inl n] h (pI P) := by
  refine Cl.of (L := [some (.inl n)]) (by decide +kernel) (Nat.le_of_ble_eq_true rfl) rfl ?_
  refine r_iload_n dX11_isCord_0 rfl rfl ?_
  refine r_if_eq (tgt := 9) dX11_isCord_1 rfl (by omega) (fun c_1 => ?_) (fun c_1 => ?_)
  · refine r_iconst dX11_isCord_9 ?_
    refine r_goto (tgt := 14) dX11_isCord_10 rfl ?_
    refine r_zret dX11_isCord_14 rfl (.inr rfl) ?_
    exact ⟨_, rfl, kt (by omega)⟩
  · refine r_iload_n dX11_isCord_4 rfl rfl ?_
    refine r_iconst dX11_isCord_5 ?_
    refine r_icmp_ne (tgt := 13) dX11_isCord_6 rfl (by omega) ⟨by decide, by decide⟩ (fun c_6 => ?_) (fun c_6 => ?_)
    · refine r_iconst dX11_isCord_13 ?_
      refine r_zret dX11_isCord_14 rfl (.inl rfl) ?_
      exact ⟨_, rfl, kf (by omega)⟩
    · refine r_iconst dX11_isCord_9 ?_
      refine r_goto (tgt := 14) dX11_isCord_10 rfl ?_
      refine r_zret dX11_isCord_14 rfl (.inr rfl) ?_
      exact ⟨_, rfl, kt (by omega)⟩
set_option maxRecDepth 20000 in
set_option maxHeartbeats 400000 in
theorem sp_X11_isAxis {d : Nat} (hd : 1 ≤ d) {n : Int} {h : Hp}  (hn : R32 n) {P : Int → Hp → Prop} (kt : (n = 0 ∨ n = 1) → P 1 h) (kf : ¬ (n = 0 ∨ n = 1) → P 0 h) : Cl d mX11_isAxis [.inl n] h (pI P) := by
  refine Cl.of (L := [some (.inl n)]) (by decide +kernel) (Nat.le_of_ble_eq_true rfl) rfl ?_
  refine r_iload_n dX11_isAxis_0 rfl rfl ?_
  refine r_if_eq (tgt := 9) dX11_isAxis_1 rfl (by omega) (fun c_1 => ?_) (fun c_1 => ?_)
  · refine r_iconst dX11_isAxis_9 ?_
    refine r_goto (tgt := 14) dX11_isAxis_10 rfl ?_
    refine r_zret dX11_isAxis_14 rfl (.inr rfl) ?_
    exact ⟨_, rfl, kt (by omega)⟩
  · refine r_iload_n dX11_isAxis_4 rfl rfl ?_
    refine r_iconst dX11_isAxis_5 ?_
    refine r_icmp_ne (tgt := 13) dX11_isAxis_6 rfl (by omega) ⟨by decide, by decide⟩ (fun c_6 => ?_) (fun c_6 => ?_)
    · refine r_iconst dX11_isAxis_13 ?_
      refine r_zret dX11_isAxis_14 rfl (.inl rfl) ?_
      exact ⟨_, rfl, kf (by omega)⟩
    · refine r_iconst dX11_isAxis_9 ?_
      refine r_goto (tgt := 14) dX11_isAxis_10 rfl ?_
      refine r_zret dX11_isAxis_14 rfl (.inr rfl) ?_
      exact ⟨_, rfl, kt (by omega)⟩
set_option maxRecDepth 20000 in
set_option maxHeartbeats 400000 in
theorem sp_X11_sizeOf {d : Nat} (hd : 1 ≤ d) {n : Int} {h : Hp}  (hn : R64 n) {P : Int → Hp → Prop} (k : P ((n.natAbs : Int)) (h)) : Cl d mX11_sizeOf [.inr (.inl n)] h (pJ P) := by
  refine Cl.of (L := [some (.inr (.inl n)), none]) (by decide +kernel) (Nat.le_of_ble_eq_true rfl) rfl ?_
  refine r_lload_n dX11_sizeOf_0 rfl rfl ?_
  refine r_lconst (z := 0) dX11_sizeOf_1 (by decide +kernel) ?_
  refine r_lcmp_ge (tgt := 11) dX11_sizeOf_2 dX11_sizeOf_3 rfl (by omega) ⟨by decide, by decide⟩ (fun c_2 => ?_) (fun c_2 => ?_)
  · refine r_lload_n dX11_sizeOf_11 rfl rfl ?_
    refine r_lret dX11_sizeOf_12 rfl ?_
    exact ⟨_, rfl, eqP k (by omega)⟩
  · refine r_lload_n dX11_sizeOf_6 rfl rfl ?_
    refine r_lneg dX11_sizeOf_7 ?_
    refine r_goto (tgt := 12) dX11_sizeOf_8 rfl ?_
    refine r_lret dX11_sizeOf_12 rfl ?_
    exact ⟨_, rfl, eqP k (by omega)⟩
set_option maxRecDepth 20000 in
set_option maxHeartbeats 400000 in
theorem lp_root {d : Nat} {P : Int → Hp → Prop} {h : Hp} {n g g0 s : Int} (hn : 0 < n ∧ n ≤ 2305843009213693952) (hs : IsRt n s) (hs0 : 0 < s) (k : P s h) : ∀ (nn : Nat) (r : Int) (i : Nat) (o : Option AV), (s ≤ r ∧ r ≤ 4611686018427387904) → (i ≤ 200) → ((r - s) * 2 ^ i ≤ 4611686018427387904) → 200 - i < nn → WW mX11_root d (pJ P) 37 [some (.inr (.inl n)), none, some (.inr (.inl g)), none, some (.inr (.inl g0)), none, some (.inr (.inl r)), none, some (.inl (i : Int)), o, none] [] h := by
  intro nn
  induction nn with
  | zero => intro r i o hr hi he; intros; omega
  | succ nn ih =>
    intro r i o hr hi he hmu
    have hd0 := tdivNN (a := n) (b := r) (by omega) (by omega)
    have hd1 := tdivNN (a := r + n.tdiv r) (b := 2) (by omega) (by omega)
    refine r_iload dX11_root_37 rfl ?_
    refine r_sipush dX11_root_39 (by decide +kernel) ?_
    refine r_icmp_ge (tgt := 86) dX11_root_42 rfl (by omega) ⟨by decide, by decide⟩ (fun c_42 => ?_) (fun c_42 => ?_)
    · refine r_lload dX11_root_86 rfl ?_
      refine r_lret dX11_root_88 rfl ?_
      have e0 : r = s := by
        have := halved he (by omega) (by decide) (by omega)
        omega
      subst e0
      exact ⟨_, rfl, k⟩
    · refine r_lload dX11_root_45 rfl ?_
      refine r_lconst (z := 0) dX11_root_47 (by decide +kernel) ?_
      refine r_lcmp_le (tgt := 86) dX11_root_48 dX11_root_49 rfl (by omega) ⟨by decide, by decide⟩ (fun c_48 => ?_) (fun c_48 => ?_)
      · refine r_lload dX11_root_86 rfl ?_
        refine r_lret dX11_root_88 rfl ?_
        have e0 : r = s := by
          have := halved he (by omega) (by decide) (by omega)
          omega
        subst e0
        exact ⟨_, rfl, k⟩
      · refine r_lload dX11_root_52 rfl ?_
        refine r_lload_n dX11_root_54 rfl rfl ?_
        refine r_lload dX11_root_55 rfl ?_
        refine r_ldiv dX11_root_57 (by omega) (by omega) (by omega) ?_
        refine r_ladd dX11_root_58 ?_
        refine r_ldc2 (z := 2) dX11_root_59 kl_X11_356 (by decide +kernel) ?_
        refine r_ldiv dX11_root_62 (by omega) ⟨by decide, by decide⟩ (by decide) ?_
        refine r_nmJ (fun x9_63 e_x9_63 => ?_)
        refine r_lstore (L' := [_, _, _, _, _, _, _, _, _, _, _]) dX11_root_63 rfl (by decide) rfl ?_
        refine r_lload dX11_root_65 rfl ?_
        refine r_lload dX11_root_67 rfl ?_
        refine r_lcmp_lt (tgt := 76) dX11_root_69 dX11_root_70 rfl (by omega) (by omega) (fun c_69 => ?_) (fun c_69 => ?_)
        · refine r_lload dX11_root_76 rfl ?_
          refine r_lstore (L' := [_, _, _, _, _, _, _, _, _, _, _]) dX11_root_78 rfl (by decide) rfl ?_
          refine r_iinc (L' := [_, _, _, _, _, _, _, _, _, _, _]) dX11_root_80 rfl rfl (by decide) rfl ?_
          refine r_goto (tgt := 37) dX11_root_83 rfl ?_
          have q : s < r := by
            rcases ilg s r with q | q
            · exact q
            · have e0 : r = s := by omega
              have := newton0 hs hs0
              rw [← e0] at this
              omega
          have hN := newton hs q
          exact ih _ (i + 1) _ (by omega) (by omega) (halves he (by omega)) (by omega)
        · refine r_lload dX11_root_73 rfl ?_
          refine r_lret dX11_root_75 rfl ?_
          have e0 : r = s := by
            rcases ilg s r with q | q
            · have := (newton hs q).2.2
              omega
            · omega
          subst e0
          exact ⟨_, rfl, k⟩
set_option maxRecDepth 20000 in
set_option maxHeartbeats 400000 in
theorem sp_X11_root {d : Nat} (hd : 1 ≤ d) {n g : Int} {h : Hp}  (hn : n ≤ 2305843009213693952 ∧ -9223372036854775808 ≤ n) (hg : g ≤ 2305843009213693952 ∧ -9223372036854775808 ≤ g) {P : Int → Hp → Prop} (k : P (if n ≤ 0 then 0 else rt n) (h)) : Cl d mX11_root [.inr (.inl n), .inr (.inl g)] h (pJ P) := by
  refine Cl.of (L := [some (.inr (.inl n)), none, some (.inr (.inl g)), none, none, none, none, none, none, none, none]) (by decide +kernel) (Nat.le_of_ble_eq_true rfl) rfl ?_
  refine r_lload_n dX11_root_0 rfl rfl ?_
  refine r_lconst (z := 0) dX11_root_1 (by decide +kernel) ?_
  refine r_lcmp_gt (tgt := 8) dX11_root_2 dX11_root_3 rfl (by omega) ⟨by decide, by decide⟩ (fun c_2 => ?_) (fun c_2 => ?_)
  · refine r_lload_n dX11_root_8 rfl rfl ?_
    refine r_lconst (z := 0) dX11_root_9 (by decide +kernel) ?_
    refine r_lcmp_le (tgt := 18) dX11_root_10 dX11_root_11 rfl (by omega) ⟨by decide, by decide⟩ (fun c_10 => ?_) (fun c_10 => ?_)
    · refine r_lconst (z := 1) dX11_root_18 (by decide +kernel) ?_
      refine r_nmJ (fun x4_19 e_x4_19 => ?_)
      refine r_lstore (L' := [_, _, _, _, _, _, _, _, _, _, _]) dX11_root_19 rfl (by decide) rfl ?_
      refine r_lload dX11_root_21 rfl ?_
      refine r_lload_n dX11_root_23 rfl rfl ?_
      refine r_lload dX11_root_24 rfl ?_
      have hd0 := tdivNN (a := n) (b := x4_19) (by omega) (by omega)
      refine r_ldiv dX11_root_26 (by omega) (by omega) (by omega) ?_
      refine r_ladd dX11_root_27 ?_
      refine r_ldc2 (z := 2) dX11_root_28 kl_X11_356 (by decide +kernel) ?_
      have hd1 := tdivNN (a := x4_19 + n.tdiv x4_19) (b := 2) (by omega) (by omega)
      refine r_ldiv dX11_root_31 (by omega) ⟨by decide, by decide⟩ (by decide) ?_
      refine r_nmJ (fun x6_32 e_x6_32 => ?_)
      refine r_lstore (L' := [_, _, _, _, _, _, _, _, _, _, _]) dX11_root_32 rfl (by decide) rfl ?_
      refine r_iconst dX11_root_34 ?_
      refine r_istore (L' := [_, _, _, _, _, _, _, _, _, _, _]) dX11_root_35 rfl (by decide) rfl ?_
      have hs := rt_is (n := n) (by omega)
      have hs0 : 0 < rt n := by
        have := rt_ge (n := n) (b := 1) (by omega) (by omega) (by omega)
        omega
      have hq := newton1 (r := x4_19) hs (by omega)
      have hle := rt_le (n := n) (b := n) (by omega) (by omega) (by have := Int.mul_le_mul_of_nonneg_left (show 1 ≤ n by omega) (show 0 ≤ n by omega); omega)
      rw [if_neg (by omega)] at k
      exact lp_root (by omega) hs hs0 k 201 _ 0 _ (by omega) (by omega) (by omega) (by omega)
    · refine r_lload_n dX11_root_14 rfl rfl ?_
      refine r_goto (tgt := 19) dX11_root_15 rfl ?_
      refine r_nmJ (fun x4_19 e_x4_19 => ?_)
      refine r_lstore (L' := [_, _, _, _, _, _, _, _, _, _, _]) dX11_root_19 rfl (by decide) rfl ?_
      refine r_lload dX11_root_21 rfl ?_
      refine r_lload_n dX11_root_23 rfl rfl ?_
      refine r_lload dX11_root_24 rfl ?_
      have hd0 := tdivNN (a := n) (b := x4_19) (by omega) (by omega)
      refine r_ldiv dX11_root_26 (by omega) (by omega) (by omega) ?_
      refine r_ladd dX11_root_27 ?_
      refine r_ldc2 (z := 2) dX11_root_28 kl_X11_356 (by decide +kernel) ?_
      have hd1 := tdivNN (a := x4_19 + n.tdiv x4_19) (b := 2) (by omega) (by omega)
      refine r_ldiv dX11_root_31 (by omega) ⟨by decide, by decide⟩ (by decide) ?_
      refine r_nmJ (fun x6_32 e_x6_32 => ?_)
      refine r_lstore (L' := [_, _, _, _, _, _, _, _, _, _, _]) dX11_root_32 rfl (by decide) rfl ?_
      refine r_iconst dX11_root_34 ?_
      refine r_istore (L' := [_, _, _, _, _, _, _, _, _, _, _]) dX11_root_35 rfl (by decide) rfl ?_
      have hs := rt_is (n := n) (by omega)
      have hs0 : 0 < rt n := by
        have := rt_ge (n := n) (b := 1) (by omega) (by omega) (by omega)
        omega
      have hq := newton1 (r := x4_19) hs (by omega)
      have hle := rt_le (n := n) (b := n) (by omega) (by omega) (by have := Int.mul_le_mul_of_nonneg_left (show 1 ≤ n by omega) (show 0 ≤ n by omega); omega)
      rw [if_neg (by omega)] at k
      exact lp_root (by omega) hs hs0 k 201 _ 0 _ (by omega) (by omega) (by omega) (by omega)
  · refine r_lconst (z := 0) dX11_root_6 (by decide +kernel) ?_
    refine r_lret dX11_root_7 rfl ?_
    rw [if_pos (by omega)] at k
    exact ⟨_, rfl, k⟩
