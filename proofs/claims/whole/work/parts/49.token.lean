theorem r_eqL {M : MI} {d : Nat} {post : Pst} {pc : Nat} {L L' : List (Option AV)} {st : List AV} {h : Hp} (e : L = L') (k : WW M d post pc L' st h) : WW M d post pc L st h := e ▸ k
/-! TOKENS -/
def kd (c : Int) : Int := if 97 ≤ c ∧ c ≤ 122 then 1 else if 48 ≤ c ∧ c ≤ 57 then 2 else if c = 10 ∨ c = 32 then 4 else if c = 59 ∨ c = 40 ∨ c = 41 ∨ c = 45 then c else 3
theorem kd_r (c : Int) : kd c = 1 ∨ kd c = 2 ∨ kd c = 3 ∨ kd c = 4 ∨ kd c = 40 ∨ kd c = 41 ∨ kd c = 45 ∨ kd c = 59 := by
  unfold kd
  repeat' split
  all_goals omega
def RunP (b : Nat → Int) (n : Nat) (k : Int) (s e : Nat) : Prop := s ≤ e ∧ e ≤ n ∧ (∀ j : Nat, s ≤ j → j < e → kd (b j) = k) ∧ (e < n → kd (b e) ≠ k)
theorem Run_uniq {b : Nat → Int} {n : Nat} {k : Int} {s e e2 : Nat} (h : RunP b n k s e) (h2 : RunP b n k s e2) : e = e2 := by
  rcases Nat.lt_trichotomy e e2 with q | q | q
  · exact absurd (h2.2.2.1 e h.1 q) (h.2.2.2 (by have := h2.2.1; omega))
  · exact q
  · exact absurd (h.2.2.1 e2 h2.1 q) (h2.2.2.2 (by have := h.2.1; omega))
def rnN (b : Nat → Int) (n : Nat) (k : Int) : Nat → Nat → Nat
  | 0, s => s
  | f + 1, s => if s < n ∧ kd (b s) = k then rnN b n k f (s + 1) else s
theorem rnN_sp {b : Nat → Int} {n : Nat} {k : Int} : ∀ {f s : Nat}, s + f = n → RunP b n k s (rnN b n k f s)
  | 0, s, h => ⟨Nat.le_refl _, by rw [rnN]; omega, fun j a c => by rw [rnN] at c; omega, fun z => by rw [rnN] at z; omega⟩
  | f + 1, s, h => by
    rw [rnN]
    split
    · rename_i q
      obtain ⟨i1, i2, i3, i4⟩ := rnN_sp (b := b) (n := n) (k := k) (f := f) (s := s + 1) (by omega)
      refine ⟨by omega, i2, fun j a c => ?_, i4⟩
      by_cases e : j = s
      · rw [e]; exact q.2
      · exact i3 j (by omega) c
    · rename_i q
      exact ⟨Nat.le_refl _, by omega, fun j a c => by omega, fun z y => q ⟨z, y⟩⟩
def rnF (b : Nat → Int) (n : Nat) (k : Int) (s : Nat) : Nat := rnN b n k (n - s) s
theorem rnF_sp {b : Nat → Int} {n : Nat} {k : Int} {s : Nat} (h : s ≤ n) : RunP b n k s (rnF b n k s) := rnN_sp (by omega)
theorem rnF_eq {b : Nat → Int} {n : Nat} {k : Int} {s e : Nat} (h : RunP b n k s e) : e = rnF b n k s := Run_uniq h (rnF_sp (by have := h.1; have := h.2.1; omega))
/-- the token behind place p: where it begins, its kind, its end, its number -/
def tS (b : Nat → Int) (n p : Nat) : Nat := rnF b n 4 p
def tK (b : Nat → Int) (n p : Nat) : Int := if tS b n p < n then kd (b (tS b n p)) else 0
def tE (b : Nat → Int) (n p : Nat) : Nat := if tS b n p < n then (if tK b n p = 1 ∨ tK b n p = 2 then rnF b n (tK b n p) (tS b n p) else tS b n p + 1) else tS b n p
def vlN (b : Nat → Int) (s : Nat) : Nat → Int
  | 0 => 0
  | j + 1 => min (10 * vlN b s j + b (s + j) - 48) 1000
def tV (b : Nat → Int) (n p : Nat) : Int := if tK b n p = 2 then vlN b (tS b n p) (tE b n p - tS b n p) else 0
theorem tS_r {b : Nat → Int} {n p : Nat} (h : p ≤ n) : p ≤ tS b n p ∧ tS b n p ≤ n ∧ (tS b n p < n → kd (b (tS b n p)) ≠ 4) := by
  obtain ⟨h1, h2, -, h4⟩ := rnF_sp (b := b) (k := 4) h
  exact ⟨h1, h2, h4⟩
theorem tE_r {b : Nat → Int} {n p : Nat} (h : p ≤ n) : tS b n p ≤ tE b n p ∧ tE b n p ≤ n ∧ (tS b n p < n → tS b n p < tE b n p) := by
  obtain ⟨h1, h2, h3⟩ := tS_r (b := b) h
  unfold tE
  split
  · rename_i q
    split
    · obtain ⟨a, c, _, e⟩ := rnF_sp (b := b) (k := tK b n p) h2
      refine ⟨a, c, fun _ => ?_⟩
      rcases Nat.lt_or_ge (tS b n p) (rnF b n (tK b n p) (tS b n p)) with y | y
      · exact y
      · exfalso
        have e0 : rnF b n (tK b n p) (tS b n p) = tS b n p := by omega
        rw [e0] at e
        refine e q ?_
        unfold tK
        rw [if_pos q]
    · omega
  · omega
theorem tK_r {b : Nat → Int} {n p : Nat} (h : p ≤ n) : (tK b n p = 0 ∧ tS b n p = n ∧ tE b n p = n) ∨ ((tK b n p = 1 ∨ tK b n p = 2 ∨ tK b n p = 3 ∨ tK b n p = 40 ∨ tK b n p = 41 ∨ tK b n p = 45 ∨ tK b n p = 59) ∧ tS b n p < n ∧ tS b n p < tE b n p ∧ tK b n p = kd (b (tS b n p))) := by
  obtain ⟨h1, h2, h3⟩ := tS_r (b := b) h
  have e := tE_r (b := b) h
  by_cases q : tS b n p < n
  · right
    have ek : tK b n p = kd (b (tS b n p)) := if_pos q
    have := kd_r (b (tS b n p))
    have := h3 q
    exact ⟨by omega, q, e.2.2 q, ek⟩
  · left
    have ek : tK b n p = 0 := if_neg q
    have ee : tE b n p = tS b n p := if_neg q
    omega
theorem vlN_r {b : Nat → Int} {s : Nat} : ∀ {j : Nat}, (∀ i : Nat, i < j → 48 ≤ b (s + i) ∧ b (s + i) ≤ 57) → 0 ≤ vlN b s j ∧ vlN b s j ≤ 1000
  | 0, _ => by rw [vlN]; omega
  | j + 1, h => by
    have a := vlN_r (b := b) (s := s) (j := j) (fun i hi => h i (by omega))
    have c := h j (by omega)
    rw [vlN]
    omega
theorem kd_2 {c : Int} (h : kd c = 2) : 48 ≤ c ∧ c ≤ 57 := by
  unfold kd at h
  repeat' split at h
  all_goals omega
theorem kd_1 {c : Int} (h : kd c = 1) : 97 ≤ c ∧ c ≤ 122 := by
  unfold kd at h
  repeat' split at h
  all_goals omega
theorem tRun {b : Nat → Int} {n p : Nat} (h : p ≤ n) (hk : tK b n p = 1 ∨ tK b n p = 2) : RunP b n (tK b n p) (tS b n p) (tE b n p) := by
  have t := tK_r (b := b) h
  have s := tS_r (b := b) h
  have e : tE b n p = rnF b n (tK b n p) (tS b n p) := by
    unfold tE
    rw [if_pos (by omega), if_pos hk]
  rw [e]
  exact rnF_sp s.2.1
theorem tV_r {b : Nat → Int} {n p : Nat} (h : p ≤ n) : 0 ≤ tV b n p ∧ tV b n p ≤ 1000 := by
  unfold tV
  split
  · rename_i q
    obtain ⟨a1, a2, a3, a4⟩ := tRun h (Or.inr q)
    refine vlN_r (fun i hi => kd_2 ?_)
    rw [a3 _ (by omega) (by omega)]
    exact q
  · omega
/-- the tape's token of the class is the one behind p -/
abbrev TKs (h : Hp) (n p : Nat) : Prop := h 2 1 = tK (h 3) n p ∧ h 2 2 = tS (h 3) n p ∧ h 2 3 = tE (h 3) n p ∧ h 2 4 = tV (h 3) n p
abbrev BY (b : Nat → Int) : Prop := ∀ j : Nat, j < 500 → -128 ≤ b j ∧ b j ≤ 127
abbrev Fr2 (h g : Hp) : Prop := ∀ a k, ¬ (a = 2 ∧ (k = 1 ∨ k = 2 ∨ k = 3 ∨ k = 4)) → g a k = h a k
set_option maxRecDepth 20000 in
set_option maxHeartbeats 400000 in
theorem sp_X8_kindOf {d : Nat} (hd : 1 ≤ d) {c : Int} {h : Hp}  (hc : -128 ≤ c ∧ c ≤ 255) {P : Int → Hp → Prop} (k : P (kd c) (h)) : Cl d mX8_kindOf [.inl c] h (pI P) := by
  refine Cl.of (L := [some (.inl c)]) (by decide +kernel) (Nat.le_of_ble_eq_true rfl) rfl ?_
  refine r_iload_n dX8_kindOf_0 rfl rfl ?_
  refine r_bipush dX8_kindOf_1 (by decide +kernel) ?_
  refine r_icmp_lt (tgt := 14) dX8_kindOf_3 rfl (by omega) ⟨by decide, by decide⟩ (fun c_3 => ?_) (fun c_3 => ?_)
  · refine r_iload_n dX8_kindOf_14 rfl rfl ?_
    refine r_bipush dX8_kindOf_15 (by decide +kernel) ?_
    refine r_icmp_lt (tgt := 28) dX8_kindOf_17 rfl (by omega) ⟨by decide, by decide⟩ (fun c_17 => ?_) (fun c_17 => ?_)
    · refine r_iload_n dX8_kindOf_28 rfl rfl ?_
      refine r_bipush dX8_kindOf_29 (by decide +kernel) ?_
      refine r_icmp_eq (tgt := 40) dX8_kindOf_31 rfl (by omega) ⟨by decide, by decide⟩ (fun c_31 => ?_) (fun c_31 => ?_)
      · refine r_iconst dX8_kindOf_40 ?_
        refine r_iret dX8_kindOf_41 rfl ?_
        refine ⟨_, rfl, eqP k ?_⟩
        unfold kd
        first
          | exact if_pos (by omega)
          | (rw [if_neg (by omega)]; exact if_pos (by omega))
          | (rw [if_neg (by omega), if_neg (by omega)]; exact if_pos (by omega))
          | (rw [if_neg (by omega), if_neg (by omega), if_neg (by omega)]; exact if_pos (by omega))
          | (rw [if_neg (by omega), if_neg (by omega), if_neg (by omega)]; exact if_neg (by omega))
      · refine r_iload_n dX8_kindOf_34 rfl rfl ?_
        refine r_bipush dX8_kindOf_35 (by decide +kernel) ?_
        refine r_icmp_ne (tgt := 42) dX8_kindOf_37 rfl (by omega) ⟨by decide, by decide⟩ (fun c_37 => ?_) (fun c_37 => ?_)
        · refine r_iload_n dX8_kindOf_42 rfl rfl ?_
          refine r_bipush dX8_kindOf_43 (by decide +kernel) ?_
          refine r_icmp_eq (tgt := 66) dX8_kindOf_45 rfl (by omega) ⟨by decide, by decide⟩ (fun c_45 => ?_) (fun c_45 => ?_)
          · refine r_iload_n dX8_kindOf_66 rfl rfl ?_
            refine r_goto (tgt := 71) dX8_kindOf_67 rfl ?_
            refine r_iret dX8_kindOf_71 rfl ?_
            refine ⟨_, rfl, eqP k ?_⟩
            unfold kd
            first
              | exact if_pos (by omega)
              | (rw [if_neg (by omega)]; exact if_pos (by omega))
              | (rw [if_neg (by omega), if_neg (by omega)]; exact if_pos (by omega))
              | (rw [if_neg (by omega), if_neg (by omega), if_neg (by omega)]; exact if_pos (by omega))
              | (rw [if_neg (by omega), if_neg (by omega), if_neg (by omega)]; exact if_neg (by omega))
          · refine r_iload_n dX8_kindOf_48 rfl rfl ?_
            refine r_bipush dX8_kindOf_49 (by decide +kernel) ?_
            refine r_icmp_eq (tgt := 66) dX8_kindOf_51 rfl (by omega) ⟨by decide, by decide⟩ (fun c_51 => ?_) (fun c_51 => ?_)
            · refine r_iload_n dX8_kindOf_66 rfl rfl ?_
              refine r_goto (tgt := 71) dX8_kindOf_67 rfl ?_
              refine r_iret dX8_kindOf_71 rfl ?_
              refine ⟨_, rfl, eqP k ?_⟩
              unfold kd
              first
                | exact if_pos (by omega)
                | (rw [if_neg (by omega)]; exact if_pos (by omega))
                | (rw [if_neg (by omega), if_neg (by omega)]; exact if_pos (by omega))
                | (rw [if_neg (by omega), if_neg (by omega), if_neg (by omega)]; exact if_pos (by omega))
                | (rw [if_neg (by omega), if_neg (by omega), if_neg (by omega)]; exact if_neg (by omega))
            · refine r_iload_n dX8_kindOf_54 rfl rfl ?_
              refine r_bipush dX8_kindOf_55 (by decide +kernel) ?_
              refine r_icmp_eq (tgt := 66) dX8_kindOf_57 rfl (by omega) ⟨by decide, by decide⟩ (fun c_57 => ?_) (fun c_57 => ?_)
              · refine r_iload_n dX8_kindOf_66 rfl rfl ?_
                refine r_goto (tgt := 71) dX8_kindOf_67 rfl ?_
                refine r_iret dX8_kindOf_71 rfl ?_
                refine ⟨_, rfl, eqP k ?_⟩
                unfold kd
                first
                  | exact if_pos (by omega)
                  | (rw [if_neg (by omega)]; exact if_pos (by omega))
                  | (rw [if_neg (by omega), if_neg (by omega)]; exact if_pos (by omega))
                  | (rw [if_neg (by omega), if_neg (by omega), if_neg (by omega)]; exact if_pos (by omega))
                  | (rw [if_neg (by omega), if_neg (by omega), if_neg (by omega)]; exact if_neg (by omega))
              · refine r_iload_n dX8_kindOf_60 rfl rfl ?_
                refine r_bipush dX8_kindOf_61 (by decide +kernel) ?_
                refine r_icmp_ne (tgt := 70) dX8_kindOf_63 rfl (by omega) ⟨by decide, by decide⟩ (fun c_63 => ?_) (fun c_63 => ?_)
                · refine r_iconst dX8_kindOf_70 ?_
                  refine r_iret dX8_kindOf_71 rfl ?_
                  refine ⟨_, rfl, eqP k ?_⟩
                  unfold kd
                  first
                    | exact if_pos (by omega)
                    | (rw [if_neg (by omega)]; exact if_pos (by omega))
                    | (rw [if_neg (by omega), if_neg (by omega)]; exact if_pos (by omega))
                    | (rw [if_neg (by omega), if_neg (by omega), if_neg (by omega)]; exact if_pos (by omega))
                    | (rw [if_neg (by omega), if_neg (by omega), if_neg (by omega)]; exact if_neg (by omega))
                · refine r_iload_n dX8_kindOf_66 rfl rfl ?_
                  refine r_goto (tgt := 71) dX8_kindOf_67 rfl ?_
                  refine r_iret dX8_kindOf_71 rfl ?_
                  refine ⟨_, rfl, eqP k ?_⟩
                  unfold kd
                  first
                    | exact if_pos (by omega)
                    | (rw [if_neg (by omega)]; exact if_pos (by omega))
                    | (rw [if_neg (by omega), if_neg (by omega)]; exact if_pos (by omega))
                    | (rw [if_neg (by omega), if_neg (by omega), if_neg (by omega)]; exact if_pos (by omega))
                    | (rw [if_neg (by omega), if_neg (by omega), if_neg (by omega)]; exact if_neg (by omega))
        · refine r_iconst dX8_kindOf_40 ?_
          refine r_iret dX8_kindOf_41 rfl ?_
          refine ⟨_, rfl, eqP k ?_⟩
          unfold kd
          first
            | exact if_pos (by omega)
            | (rw [if_neg (by omega)]; exact if_pos (by omega))
            | (rw [if_neg (by omega), if_neg (by omega)]; exact if_pos (by omega))
            | (rw [if_neg (by omega), if_neg (by omega), if_neg (by omega)]; exact if_pos (by omega))
            | (rw [if_neg (by omega), if_neg (by omega), if_neg (by omega)]; exact if_neg (by omega))
    · refine r_iload_n dX8_kindOf_20 rfl rfl ?_
      refine r_bipush dX8_kindOf_21 (by decide +kernel) ?_
      refine r_icmp_gt (tgt := 28) dX8_kindOf_23 rfl (by omega) ⟨by decide, by decide⟩ (fun c_23 => ?_) (fun c_23 => ?_)
      · refine r_iload_n dX8_kindOf_28 rfl rfl ?_
        refine r_bipush dX8_kindOf_29 (by decide +kernel) ?_
        refine r_icmp_eq (tgt := 40) dX8_kindOf_31 rfl (by omega) ⟨by decide, by decide⟩ (fun c_31 => ?_) (fun c_31 => ?_)
        · refine r_iconst dX8_kindOf_40 ?_
          refine r_iret dX8_kindOf_41 rfl ?_
          refine ⟨_, rfl, eqP k ?_⟩
          unfold kd
          first
            | exact if_pos (by omega)
            | (rw [if_neg (by omega)]; exact if_pos (by omega))
            | (rw [if_neg (by omega), if_neg (by omega)]; exact if_pos (by omega))
            | (rw [if_neg (by omega), if_neg (by omega), if_neg (by omega)]; exact if_pos (by omega))
            | (rw [if_neg (by omega), if_neg (by omega), if_neg (by omega)]; exact if_neg (by omega))
        · refine r_iload_n dX8_kindOf_34 rfl rfl ?_
          refine r_bipush dX8_kindOf_35 (by decide +kernel) ?_
          refine r_icmp_ne (tgt := 42) dX8_kindOf_37 rfl (by omega) ⟨by decide, by decide⟩ (fun c_37 => ?_) (fun c_37 => ?_)
          · refine r_iload_n dX8_kindOf_42 rfl rfl ?_
            refine r_bipush dX8_kindOf_43 (by decide +kernel) ?_
            refine r_icmp_eq (tgt := 66) dX8_kindOf_45 rfl (by omega) ⟨by decide, by decide⟩ (fun c_45 => ?_) (fun c_45 => ?_)
            · refine r_iload_n dX8_kindOf_66 rfl rfl ?_
              refine r_goto (tgt := 71) dX8_kindOf_67 rfl ?_
              refine r_iret dX8_kindOf_71 rfl ?_
              refine ⟨_, rfl, eqP k ?_⟩
              unfold kd
              first
                | exact if_pos (by omega)
                | (rw [if_neg (by omega)]; exact if_pos (by omega))
                | (rw [if_neg (by omega), if_neg (by omega)]; exact if_pos (by omega))
                | (rw [if_neg (by omega), if_neg (by omega), if_neg (by omega)]; exact if_pos (by omega))
                | (rw [if_neg (by omega), if_neg (by omega), if_neg (by omega)]; exact if_neg (by omega))
            · refine r_iload_n dX8_kindOf_48 rfl rfl ?_
              refine r_bipush dX8_kindOf_49 (by decide +kernel) ?_
              refine r_icmp_eq (tgt := 66) dX8_kindOf_51 rfl (by omega) ⟨by decide, by decide⟩ (fun c_51 => ?_) (fun c_51 => ?_)
              · refine r_iload_n dX8_kindOf_66 rfl rfl ?_
                refine r_goto (tgt := 71) dX8_kindOf_67 rfl ?_
                refine r_iret dX8_kindOf_71 rfl ?_
                refine ⟨_, rfl, eqP k ?_⟩
                unfold kd
                first
                  | exact if_pos (by omega)
                  | (rw [if_neg (by omega)]; exact if_pos (by omega))
                  | (rw [if_neg (by omega), if_neg (by omega)]; exact if_pos (by omega))
                  | (rw [if_neg (by omega), if_neg (by omega), if_neg (by omega)]; exact if_pos (by omega))
                  | (rw [if_neg (by omega), if_neg (by omega), if_neg (by omega)]; exact if_neg (by omega))
              · refine r_iload_n dX8_kindOf_54 rfl rfl ?_
                refine r_bipush dX8_kindOf_55 (by decide +kernel) ?_
                refine r_icmp_eq (tgt := 66) dX8_kindOf_57 rfl (by omega) ⟨by decide, by decide⟩ (fun c_57 => ?_) (fun c_57 => ?_)
                · refine r_iload_n dX8_kindOf_66 rfl rfl ?_
                  refine r_goto (tgt := 71) dX8_kindOf_67 rfl ?_
                  refine r_iret dX8_kindOf_71 rfl ?_
                  refine ⟨_, rfl, eqP k ?_⟩
                  unfold kd
                  first
                    | exact if_pos (by omega)
                    | (rw [if_neg (by omega)]; exact if_pos (by omega))
                    | (rw [if_neg (by omega), if_neg (by omega)]; exact if_pos (by omega))
                    | (rw [if_neg (by omega), if_neg (by omega), if_neg (by omega)]; exact if_pos (by omega))
                    | (rw [if_neg (by omega), if_neg (by omega), if_neg (by omega)]; exact if_neg (by omega))
                · refine r_iload_n dX8_kindOf_60 rfl rfl ?_
                  refine r_bipush dX8_kindOf_61 (by decide +kernel) ?_
                  refine r_icmp_ne (tgt := 70) dX8_kindOf_63 rfl (by omega) ⟨by decide, by decide⟩ (fun c_63 => ?_) (fun c_63 => ?_)
                  · refine r_iconst dX8_kindOf_70 ?_
                    refine r_iret dX8_kindOf_71 rfl ?_
                    refine ⟨_, rfl, eqP k ?_⟩
                    unfold kd
                    first
                      | exact if_pos (by omega)
                      | (rw [if_neg (by omega)]; exact if_pos (by omega))
                      | (rw [if_neg (by omega), if_neg (by omega)]; exact if_pos (by omega))
                      | (rw [if_neg (by omega), if_neg (by omega), if_neg (by omega)]; exact if_pos (by omega))
                      | (rw [if_neg (by omega), if_neg (by omega), if_neg (by omega)]; exact if_neg (by omega))
                  · refine r_iload_n dX8_kindOf_66 rfl rfl ?_
                    refine r_goto (tgt := 71) dX8_kindOf_67 rfl ?_
                    refine r_iret dX8_kindOf_71 rfl ?_
                    refine ⟨_, rfl, eqP k ?_⟩
                    unfold kd
                    first
                      | exact if_pos (by omega)
                      | (rw [if_neg (by omega)]; exact if_pos (by omega))
                      | (rw [if_neg (by omega), if_neg (by omega)]; exact if_pos (by omega))
                      | (rw [if_neg (by omega), if_neg (by omega), if_neg (by omega)]; exact if_pos (by omega))
                      | (rw [if_neg (by omega), if_neg (by omega), if_neg (by omega)]; exact if_neg (by omega))
          · refine r_iconst dX8_kindOf_40 ?_
            refine r_iret dX8_kindOf_41 rfl ?_
            refine ⟨_, rfl, eqP k ?_⟩
            unfold kd
            first
              | exact if_pos (by omega)
              | (rw [if_neg (by omega)]; exact if_pos (by omega))
              | (rw [if_neg (by omega), if_neg (by omega)]; exact if_pos (by omega))
              | (rw [if_neg (by omega), if_neg (by omega), if_neg (by omega)]; exact if_pos (by omega))
              | (rw [if_neg (by omega), if_neg (by omega), if_neg (by omega)]; exact if_neg (by omega))
      · refine r_iconst dX8_kindOf_26 ?_
        refine r_iret dX8_kindOf_27 rfl ?_
        refine ⟨_, rfl, eqP k ?_⟩
        unfold kd
        first
          | exact if_pos (by omega)
          | (rw [if_neg (by omega)]; exact if_pos (by omega))
          | (rw [if_neg (by omega), if_neg (by omega)]; exact if_pos (by omega))
          | (rw [if_neg (by omega), if_neg (by omega), if_neg (by omega)]; exact if_pos (by omega))
          | (rw [if_neg (by omega), if_neg (by omega), if_neg (by omega)]; exact if_neg (by omega))
  · refine r_iload_n dX8_kindOf_6 rfl rfl ?_
    refine r_bipush dX8_kindOf_7 (by decide +kernel) ?_
    refine r_icmp_gt (tgt := 14) dX8_kindOf_9 rfl (by omega) ⟨by decide, by decide⟩ (fun c_9 => ?_) (fun c_9 => ?_)
    · refine r_iload_n dX8_kindOf_14 rfl rfl ?_
      refine r_bipush dX8_kindOf_15 (by decide +kernel) ?_
      refine r_icmp_lt (tgt := 28) dX8_kindOf_17 rfl (by omega) ⟨by decide, by decide⟩ (fun c_17 => ?_) (fun c_17 => ?_)
      · refine r_iload_n dX8_kindOf_28 rfl rfl ?_
        refine r_bipush dX8_kindOf_29 (by decide +kernel) ?_
        refine r_icmp_eq (tgt := 40) dX8_kindOf_31 rfl (by omega) ⟨by decide, by decide⟩ (fun c_31 => ?_) (fun c_31 => ?_)
        · refine r_iconst dX8_kindOf_40 ?_
          refine r_iret dX8_kindOf_41 rfl ?_
          refine ⟨_, rfl, eqP k ?_⟩
          unfold kd
          first
            | exact if_pos (by omega)
            | (rw [if_neg (by omega)]; exact if_pos (by omega))
            | (rw [if_neg (by omega), if_neg (by omega)]; exact if_pos (by omega))
            | (rw [if_neg (by omega), if_neg (by omega), if_neg (by omega)]; exact if_pos (by omega))
            | (rw [if_neg (by omega), if_neg (by omega), if_neg (by omega)]; exact if_neg (by omega))
        · refine r_iload_n dX8_kindOf_34 rfl rfl ?_
          refine r_bipush dX8_kindOf_35 (by decide +kernel) ?_
          refine r_icmp_ne (tgt := 42) dX8_kindOf_37 rfl (by omega) ⟨by decide, by decide⟩ (fun c_37 => ?_) (fun c_37 => ?_)
          · refine r_iload_n dX8_kindOf_42 rfl rfl ?_
            refine r_bipush dX8_kindOf_43 (by decide +kernel) ?_
            refine r_icmp_eq (tgt := 66) dX8_kindOf_45 rfl (by omega) ⟨by decide, by decide⟩ (fun c_45 => ?_) (fun c_45 => ?_)
            · refine r_iload_n dX8_kindOf_66 rfl rfl ?_
              refine r_goto (tgt := 71) dX8_kindOf_67 rfl ?_
              refine r_iret dX8_kindOf_71 rfl ?_
              refine ⟨_, rfl, eqP k ?_⟩
              unfold kd
              first
                | exact if_pos (by omega)
                | (rw [if_neg (by omega)]; exact if_pos (by omega))
                | (rw [if_neg (by omega), if_neg (by omega)]; exact if_pos (by omega))
                | (rw [if_neg (by omega), if_neg (by omega), if_neg (by omega)]; exact if_pos (by omega))
                | (rw [if_neg (by omega), if_neg (by omega), if_neg (by omega)]; exact if_neg (by omega))
            · refine r_iload_n dX8_kindOf_48 rfl rfl ?_
              refine r_bipush dX8_kindOf_49 (by decide +kernel) ?_
              refine r_icmp_eq (tgt := 66) dX8_kindOf_51 rfl (by omega) ⟨by decide, by decide⟩ (fun c_51 => ?_) (fun c_51 => ?_)
              · refine r_iload_n dX8_kindOf_66 rfl rfl ?_
                refine r_goto (tgt := 71) dX8_kindOf_67 rfl ?_
                refine r_iret dX8_kindOf_71 rfl ?_
                refine ⟨_, rfl, eqP k ?_⟩
                unfold kd
                first
                  | exact if_pos (by omega)
                  | (rw [if_neg (by omega)]; exact if_pos (by omega))
                  | (rw [if_neg (by omega), if_neg (by omega)]; exact if_pos (by omega))
                  | (rw [if_neg (by omega), if_neg (by omega), if_neg (by omega)]; exact if_pos (by omega))
                  | (rw [if_neg (by omega), if_neg (by omega), if_neg (by omega)]; exact if_neg (by omega))
              · refine r_iload_n dX8_kindOf_54 rfl rfl ?_
                refine r_bipush dX8_kindOf_55 (by decide +kernel) ?_
                refine r_icmp_eq (tgt := 66) dX8_kindOf_57 rfl (by omega) ⟨by decide, by decide⟩ (fun c_57 => ?_) (fun c_57 => ?_)
                · refine r_iload_n dX8_kindOf_66 rfl rfl ?_
                  refine r_goto (tgt := 71) dX8_kindOf_67 rfl ?_
                  refine r_iret dX8_kindOf_71 rfl ?_
                  refine ⟨_, rfl, eqP k ?_⟩
                  unfold kd
                  first
                    | exact if_pos (by omega)
                    | (rw [if_neg (by omega)]; exact if_pos (by omega))
                    | (rw [if_neg (by omega), if_neg (by omega)]; exact if_pos (by omega))
                    | (rw [if_neg (by omega), if_neg (by omega), if_neg (by omega)]; exact if_pos (by omega))
                    | (rw [if_neg (by omega), if_neg (by omega), if_neg (by omega)]; exact if_neg (by omega))
                · refine r_iload_n dX8_kindOf_60 rfl rfl ?_
                  refine r_bipush dX8_kindOf_61 (by decide +kernel) ?_
                  refine r_icmp_ne (tgt := 70) dX8_kindOf_63 rfl (by omega) ⟨by decide, by decide⟩ (fun c_63 => ?_) (fun c_63 => ?_)
                  · refine r_iconst dX8_kindOf_70 ?_
                    refine r_iret dX8_kindOf_71 rfl ?_
                    refine ⟨_, rfl, eqP k ?_⟩
                    unfold kd
                    first
                      | exact if_pos (by omega)
                      | (rw [if_neg (by omega)]; exact if_pos (by omega))
                      | (rw [if_neg (by omega), if_neg (by omega)]; exact if_pos (by omega))
                      | (rw [if_neg (by omega), if_neg (by omega), if_neg (by omega)]; exact if_pos (by omega))
                      | (rw [if_neg (by omega), if_neg (by omega), if_neg (by omega)]; exact if_neg (by omega))
                  · refine r_iload_n dX8_kindOf_66 rfl rfl ?_
                    refine r_goto (tgt := 71) dX8_kindOf_67 rfl ?_
                    refine r_iret dX8_kindOf_71 rfl ?_
                    refine ⟨_, rfl, eqP k ?_⟩
                    unfold kd
                    first
                      | exact if_pos (by omega)
                      | (rw [if_neg (by omega)]; exact if_pos (by omega))
                      | (rw [if_neg (by omega), if_neg (by omega)]; exact if_pos (by omega))
                      | (rw [if_neg (by omega), if_neg (by omega), if_neg (by omega)]; exact if_pos (by omega))
                      | (rw [if_neg (by omega), if_neg (by omega), if_neg (by omega)]; exact if_neg (by omega))
          · refine r_iconst dX8_kindOf_40 ?_
            refine r_iret dX8_kindOf_41 rfl ?_
            refine ⟨_, rfl, eqP k ?_⟩
            unfold kd
            first
              | exact if_pos (by omega)
              | (rw [if_neg (by omega)]; exact if_pos (by omega))
              | (rw [if_neg (by omega), if_neg (by omega)]; exact if_pos (by omega))
              | (rw [if_neg (by omega), if_neg (by omega), if_neg (by omega)]; exact if_pos (by omega))
              | (rw [if_neg (by omega), if_neg (by omega), if_neg (by omega)]; exact if_neg (by omega))
      · refine r_iload_n dX8_kindOf_20 rfl rfl ?_
        refine r_bipush dX8_kindOf_21 (by decide +kernel) ?_
        refine r_icmp_gt (tgt := 28) dX8_kindOf_23 rfl (by omega) ⟨by decide, by decide⟩ (fun c_23 => ?_) (fun c_23 => ?_)
        · refine r_iload_n dX8_kindOf_28 rfl rfl ?_
          refine r_bipush dX8_kindOf_29 (by decide +kernel) ?_
          refine r_icmp_eq (tgt := 40) dX8_kindOf_31 rfl (by omega) ⟨by decide, by decide⟩ (fun c_31 => ?_) (fun c_31 => ?_)
          · refine r_iconst dX8_kindOf_40 ?_
            refine r_iret dX8_kindOf_41 rfl ?_
            refine ⟨_, rfl, eqP k ?_⟩
            unfold kd
            first
              | exact if_pos (by omega)
              | (rw [if_neg (by omega)]; exact if_pos (by omega))
              | (rw [if_neg (by omega), if_neg (by omega)]; exact if_pos (by omega))
              | (rw [if_neg (by omega), if_neg (by omega), if_neg (by omega)]; exact if_pos (by omega))
              | (rw [if_neg (by omega), if_neg (by omega), if_neg (by omega)]; exact if_neg (by omega))
          · refine r_iload_n dX8_kindOf_34 rfl rfl ?_
            refine r_bipush dX8_kindOf_35 (by decide +kernel) ?_
            refine r_icmp_ne (tgt := 42) dX8_kindOf_37 rfl (by omega) ⟨by decide, by decide⟩ (fun c_37 => ?_) (fun c_37 => ?_)
            · refine r_iload_n dX8_kindOf_42 rfl rfl ?_
              refine r_bipush dX8_kindOf_43 (by decide +kernel) ?_
              refine r_icmp_eq (tgt := 66) dX8_kindOf_45 rfl (by omega) ⟨by decide, by decide⟩ (fun c_45 => ?_) (fun c_45 => ?_)
              · refine r_iload_n dX8_kindOf_66 rfl rfl ?_
                refine r_goto (tgt := 71) dX8_kindOf_67 rfl ?_
                refine r_iret dX8_kindOf_71 rfl ?_
                refine ⟨_, rfl, eqP k ?_⟩
                unfold kd
                first
                  | exact if_pos (by omega)
                  | (rw [if_neg (by omega)]; exact if_pos (by omega))
                  | (rw [if_neg (by omega), if_neg (by omega)]; exact if_pos (by omega))
                  | (rw [if_neg (by omega), if_neg (by omega), if_neg (by omega)]; exact if_pos (by omega))
                  | (rw [if_neg (by omega), if_neg (by omega), if_neg (by omega)]; exact if_neg (by omega))
              · refine r_iload_n dX8_kindOf_48 rfl rfl ?_
                refine r_bipush dX8_kindOf_49 (by decide +kernel) ?_
                refine r_icmp_eq (tgt := 66) dX8_kindOf_51 rfl (by omega) ⟨by decide, by decide⟩ (fun c_51 => ?_) (fun c_51 => ?_)
                · refine r_iload_n dX8_kindOf_66 rfl rfl ?_
                  refine r_goto (tgt := 71) dX8_kindOf_67 rfl ?_
                  refine r_iret dX8_kindOf_71 rfl ?_
                  refine ⟨_, rfl, eqP k ?_⟩
                  unfold kd
                  first
                    | exact if_pos (by omega)
                    | (rw [if_neg (by omega)]; exact if_pos (by omega))
                    | (rw [if_neg (by omega), if_neg (by omega)]; exact if_pos (by omega))
                    | (rw [if_neg (by omega), if_neg (by omega), if_neg (by omega)]; exact if_pos (by omega))
                    | (rw [if_neg (by omega), if_neg (by omega), if_neg (by omega)]; exact if_neg (by omega))
                · refine r_iload_n dX8_kindOf_54 rfl rfl ?_
                  refine r_bipush dX8_kindOf_55 (by decide +kernel) ?_
                  refine r_icmp_eq (tgt := 66) dX8_kindOf_57 rfl (by omega) ⟨by decide, by decide⟩ (fun c_57 => ?_) (fun c_57 => ?_)
                  · refine r_iload_n dX8_kindOf_66 rfl rfl ?_
                    refine r_goto (tgt := 71) dX8_kindOf_67 rfl ?_
                    refine r_iret dX8_kindOf_71 rfl ?_
                    refine ⟨_, rfl, eqP k ?_⟩
                    unfold kd
                    first
                      | exact if_pos (by omega)
                      | (rw [if_neg (by omega)]; exact if_pos (by omega))
                      | (rw [if_neg (by omega), if_neg (by omega)]; exact if_pos (by omega))
                      | (rw [if_neg (by omega), if_neg (by omega), if_neg (by omega)]; exact if_pos (by omega))
                      | (rw [if_neg (by omega), if_neg (by omega), if_neg (by omega)]; exact if_neg (by omega))
                  · refine r_iload_n dX8_kindOf_60 rfl rfl ?_
                    refine r_bipush dX8_kindOf_61 (by decide +kernel) ?_
                    refine r_icmp_ne (tgt := 70) dX8_kindOf_63 rfl (by omega) ⟨by decide, by decide⟩ (fun c_63 => ?_) (fun c_63 => ?_)
                    · refine r_iconst dX8_kindOf_70 ?_
                      refine r_iret dX8_kindOf_71 rfl ?_
                      refine ⟨_, rfl, eqP k ?_⟩
                      unfold kd
                      first
                        | exact if_pos (by omega)
                        | (rw [if_neg (by omega)]; exact if_pos (by omega))
                        | (rw [if_neg (by omega), if_neg (by omega)]; exact if_pos (by omega))
                        | (rw [if_neg (by omega), if_neg (by omega), if_neg (by omega)]; exact if_pos (by omega))
                        | (rw [if_neg (by omega), if_neg (by omega), if_neg (by omega)]; exact if_neg (by omega))
                    · refine r_iload_n dX8_kindOf_66 rfl rfl ?_
                      refine r_goto (tgt := 71) dX8_kindOf_67 rfl ?_
                      refine r_iret dX8_kindOf_71 rfl ?_
                      refine ⟨_, rfl, eqP k ?_⟩
                      unfold kd
                      first
                        | exact if_pos (by omega)
                        | (rw [if_neg (by omega)]; exact if_pos (by omega))
                        | (rw [if_neg (by omega), if_neg (by omega)]; exact if_pos (by omega))
                        | (rw [if_neg (by omega), if_neg (by omega), if_neg (by omega)]; exact if_pos (by omega))
                        | (rw [if_neg (by omega), if_neg (by omega), if_neg (by omega)]; exact if_neg (by omega))
            · refine r_iconst dX8_kindOf_40 ?_
              refine r_iret dX8_kindOf_41 rfl ?_
              refine ⟨_, rfl, eqP k ?_⟩
              unfold kd
              first
                | exact if_pos (by omega)
                | (rw [if_neg (by omega)]; exact if_pos (by omega))
                | (rw [if_neg (by omega), if_neg (by omega)]; exact if_pos (by omega))
                | (rw [if_neg (by omega), if_neg (by omega), if_neg (by omega)]; exact if_pos (by omega))
                | (rw [if_neg (by omega), if_neg (by omega), if_neg (by omega)]; exact if_neg (by omega))
        · refine r_iconst dX8_kindOf_26 ?_
          refine r_iret dX8_kindOf_27 rfl ?_
          refine ⟨_, rfl, eqP k ?_⟩
          unfold kd
          first
            | exact if_pos (by omega)
            | (rw [if_neg (by omega)]; exact if_pos (by omega))
            | (rw [if_neg (by omega), if_neg (by omega)]; exact if_pos (by omega))
            | (rw [if_neg (by omega), if_neg (by omega), if_neg (by omega)]; exact if_pos (by omega))
            | (rw [if_neg (by omega), if_neg (by omega), if_neg (by omega)]; exact if_neg (by omega))
    · refine r_iconst dX8_kindOf_12 ?_
      refine r_iret dX8_kindOf_13 rfl ?_
      refine ⟨_, rfl, eqP k ?_⟩
      unfold kd
      first
        | exact if_pos (by omega)
        | (rw [if_neg (by omega)]; exact if_pos (by omega))
        | (rw [if_neg (by omega), if_neg (by omega)]; exact if_pos (by omega))
        | (rw [if_neg (by omega), if_neg (by omega), if_neg (by omega)]; exact if_pos (by omega))
        | (rw [if_neg (by omega), if_neg (by omega), if_neg (by omega)]; exact if_neg (by omega))
set_option maxRecDepth 20000 in
set_option maxHeartbeats 400000 in
theorem lp_step1 {d : Nat} (hd : 1 ≤ d) {post : Pst} {h : Hp} {n p : Nat} (hn : h 2 5 = n ∧ n ≤ 500) (hb : BY (h 3)) (K : ∀ (g : Hp) (o : Option AV), (∀ a k, ¬ (a = 2 ∧ k = 2) → g a k = h a k) → g 2 2 = tS (h 3) n p → WW mX8_step (d + 1) post 48 [some (.inr (.inr 2)), o] [] g) : ∀ (nn : Nat) (q : Nat) (g : Hp) (o : Option AV), (p ≤ q ∧ q ≤ n) → (∀ a k, ¬ (a = 2 ∧ k = 2) → g a k = h a k) → (g 2 2 = q) → (∀ j : Nat, p ≤ j → j < q → kd (h 3 j) = 4) → n - q < nn → WW mX8_step (d + 1) post 8 [some (.inr (.inr 2)), o] [] g := by
  intro nn
  induction nn with
  | zero => intro q g o hq hg h2 hr; intros; omega
  | succ nn ih =>
    intro q g o hq hg h2 hr hmu
    have w5 := hg 2 5 (by decide)
    have e0 : (g 2 2).toNat = q := by omega
    have w3 : g 3 = h 3 := funext fun j => hg 3 j (by omega)
    refine r_aload_n dX8_step_8 rfl rfl ?_
    refine r_getI dX8_step_9 fl_X8_16 sh_2 rfl ?_
    refine r_aload_n dX8_step_12 rfl rfl ?_
    refine r_getI dX8_step_13 fl_X8_25 sh_2 rfl ?_
    refine r_icmp_ge (tgt := 48) dX8_step_16 rfl (by omega) (by omega) (fun c_16 => ?_) (fun c_16 => ?_)
    · refine K g _ hg ?_
      rw [h2]
      congr 1
      refine rnF_eq ⟨hq.1, hq.2, hr, fun z => ?_⟩
      omega
    · have hbq := hb q (by omega)
      have hv : g 3 (g 2 2).toNat = h 3 q := by rw [e0, w3]
      have kr := kd_r (h 3 q)
      refine r_aload_n dX8_step_19 rfl rfl ?_
      refine r_getR dX8_step_20 fl_X8_28 sh_2 rfl ?_
      refine r_aload_n dX8_step_23 rfl rfl ?_
      refine r_getI dX8_step_24 fl_X8_16 sh_2 rfl ?_
      refine r_bald dX8_step_27 sh_3 (by decide) (by omega) ?_
      refine r_callSI (av := [_]) (M' := mX8_kindOf) dX8_step_28 sX8_kindOf ml_X8_44 rfl rfl (by simp [wtA]) (sp_X8_kindOf (by omega) (by omega) ?_)
      refine r_eqI (y := kd (h 3 q)) (by rw [hv]) ?_
      refine r_iconst dX8_step_31 ?_
      refine r_icmp_ne (tgt := 48) dX8_step_32 rfl (by omega) ⟨by decide, by decide⟩ (fun c_32 => ?_) (fun c_32 => ?_)
      · refine K g _ hg ?_
        rw [h2]
        congr 1
        refine rnF_eq ⟨hq.1, hq.2, hr, fun z => ?_⟩
        omega
      · refine r_aload_n dX8_step_35 rfl rfl ?_
        refine r_dup dX8_step_36 (fun _ h => by cases h) ?_
        refine r_getI dX8_step_37 fl_X8_16 sh_2 rfl ?_
        refine r_iconst dX8_step_40 ?_
        refine r_iadd dX8_step_41 ?_
        refine r_putI dX8_step_42 fl_X8_16 sh_2 rfl ?_
        refine r_goto (tgt := 8) dX8_step_45 rfl ?_
        refine ih (q + 1) _ _ (by omega) (fun a k z => ?_) ?_ (fun j a c => ?_) (by omega)
        · rw [show upH g 2 2 (g 2 2 + 1) a k = g a k by unfold upH; rw [if_neg z]]
          exact hg a k z
        · rw [up_s]; omega
        · by_cases e : j = q
          · rw [e]; omega
          · exact hr j a (by omega)
set_option maxRecDepth 20000 in
set_option maxHeartbeats 400000 in
theorem lp_step2 {d : Nat} (hd : 1 ≤ d) {P : Hp → Prop} {h : Hp} {n s : Nat} {k0 : Int} (hn : h 2 5 = n ∧ n ≤ 500) (hb : BY (h 3)) (h1 : h 2 1 = k0 ∧ 0 ≤ k0 ∧ k0 ≤ 100) (h2 : h 2 2 = s) (hk : s < n → kd (h 3 s) = k0) (k : ∀ (g : Hp) (e : Nat), (∀ a k, ¬ (a = 2 ∧ (k = 3 ∨ k = 4)) → g a k = h a k) → g 2 3 = e → g 2 4 = (if k0 = 2 then vlN (h 3) s (e - s) else 0) → (s < n → (k0 = 1 ∨ k0 = 2 → RunP (h 3) n k0 s e) ∧ (¬ (k0 = 1 ∨ k0 = 2) → e = s + 1)) → (¬ s < n → e = s) → P g) : ∀ (nn : Nat) (e : Nat) (g : Hp), (s ≤ e ∧ e ≤ n) → (∀ a k, ¬ (a = 2 ∧ (k = 3 ∨ k = 4)) → g a k = h a k) → (g 2 3 = e) → (g 2 4 = if k0 = 2 then vlN (h 3) s (e - s) else 0) → (∀ j : Nat, s ≤ j → j < e → kd (h 3 j) = k0) → (¬ (k0 = 1 ∨ k0 = 2) → e ≤ s + 1) → n - e < nn → WW mX8_step (d + 1) (pV P) 114 [some (.inr (.inr 2)), some (.inl (if k0 = 1 ∨ k0 = 2 then 1 else 0))] [] g := by
  intro nn
  induction nn with
  | zero => intro e g he hg h3 h4 hr hl; intros; omega
  | succ nn ih =>
    intro e g he hg h3 h4 hr hl hmu
    have w5 := hg 2 5 (by decide)
    have w1 := hg 2 1 (by decide)
    have w2 := hg 2 2 (by decide)
    have e0 : (g 2 3).toNat = e := by omega
    have w3 : g 3 = h 3 := funext fun j => hg 3 j (by omega)
    have fl : (if k0 = 1 ∨ k0 = 2 then (1 : Int) else 0) = 1 ∧ (k0 = 1 ∨ k0 = 2) ∨ (if k0 = 1 ∨ k0 = 2 then (1 : Int) else 0) = 0 ∧ ¬ (k0 = 1 ∨ k0 = 2) := by
      by_cases z : k0 = 1 ∨ k0 = 2
      · left; exact ⟨if_pos z, z⟩
      · right; exact ⟨if_neg z, z⟩
    have bv : k0 = 2 → 0 ≤ vlN (h 3) s (e - s) ∧ vlN (h 3) s (e - s) ≤ 1000 := fun z => vlN_r (fun i hi => kd_2 ((hr (s + i) (by omega) (by omega)).trans z))
    refine r_aload_n dX8_step_114 rfl rfl ?_
    refine r_getI dX8_step_115 fl_X8_19 sh_2 rfl ?_
    refine r_aload_n dX8_step_118 rfl rfl ?_
    refine r_getI dX8_step_119 fl_X8_25 sh_2 rfl ?_
    refine r_icmp_ge (tgt := 210) dX8_step_122 rfl (by omega) (by omega) (fun c_122 => ?_) (fun c_122 => ?_)
    · refine r_vret dX8_step_210 rfl ?_
      refine ⟨rfl, k g e hg h3 h4 (fun z => ⟨fun y => ⟨he.1, he.2, hr, fun x => ?_⟩, fun y => ?_⟩) (fun z => by omega)⟩
      · omega
      · have := hl y
        omega
    · refine r_aload_n dX8_step_125 rfl rfl ?_
      refine r_getI dX8_step_126 fl_X8_19 sh_2 rfl ?_
      refine r_aload_n dX8_step_129 rfl rfl ?_
      refine r_getI dX8_step_130 fl_X8_16 sh_2 rfl ?_
      refine r_icmp_eq (tgt := 159) dX8_step_133 rfl (by omega) (by omega) (fun c_133 => ?_) (fun c_133 => ?_)
      · have ke : kd (h 3 e) = k0 := by
          first
            | omega
            | (rw [show e = s by omega]; exact hk (by omega))
        have ll : ¬ (k0 = 1 ∨ k0 = 2) → e = s := fun z => by omega
        have hbe := hb e (by omega)
        have hv : g 3 (g 2 3).toNat = h 3 e := by rw [e0, w3]
        refine r_aload_n dX8_step_159 rfl rfl ?_
        refine r_getI dX8_step_160 fl_X8_13 sh_2 rfl ?_
        refine r_iconst dX8_step_163 ?_
        refine r_icmp_ne (tgt := 197) dX8_step_164 rfl (by omega) ⟨by decide, by decide⟩ (fun c_164 => ?_) (fun c_164 => ?_)
        · refine r_aload_n dX8_step_197 rfl rfl ?_
          refine r_dup dX8_step_198 (fun _ h => by cases h) ?_
          refine r_getI dX8_step_199 fl_X8_19 sh_2 rfl ?_
          refine r_iconst dX8_step_202 ?_
          refine r_iadd dX8_step_203 ?_
          refine r_putI dX8_step_204 fl_X8_19 sh_2 rfl ?_
          refine r_goto (tgt := 114) dX8_step_207 rfl ?_
          refine ih (e + 1) _ (by omega) (fun a k z => ?_) (by rw [up_s]; omega) ?_ (fun j a c => ?_) (fun z => by have := ll z; omega) (by omega)
          · rw [show upH g 2 3 (g 2 3 + 1) a k = g a k by unfold upH; rw [if_neg (by omega)]]
            exact hg a k z
          · rw [up_nk (by decide), h4, if_neg (by omega), if_neg (by omega)]
          · by_cases q : j = e
            · rw [q]; exact ke
            · exact hr j a (by omega)
        · have z2 : k0 = 2 := by omega
          have dg := kd_2 (ke.trans z2)
          have bv := bv z2
          have h4' : g 2 4 = vlN (h 3) s (e - s) := by rw [h4, if_pos z2]
          refine r_aload_n dX8_step_167 rfl rfl ?_
          refine r_bipush dX8_step_168 (by decide +kernel) ?_
          refine r_aload_n dX8_step_170 rfl rfl ?_
          refine r_getI dX8_step_171 fl_X8_22 sh_2 rfl ?_
          refine r_imul dX8_step_174 ?_
          refine r_aload_n dX8_step_175 rfl rfl ?_
          refine r_getR dX8_step_176 fl_X8_28 sh_2 rfl ?_
          refine r_aload_n dX8_step_179 rfl rfl ?_
          refine r_getI dX8_step_180 fl_X8_19 sh_2 rfl ?_
          refine r_bald dX8_step_183 sh_3 (by decide) (by omega) ?_
          refine r_iadd dX8_step_184 ?_
          refine r_bipush dX8_step_185 (by decide +kernel) ?_
          refine r_isub dX8_step_187 ?_
          refine r_sipush dX8_step_188 (by decide +kernel) ?_
          refine r_mmin (by omega) ⟨by decide, by decide⟩ dX8_step_191 ml_X8_38 (by simp [wtA]) ?_
          refine r_eqI (y := vlN (h 3) s (e + 1 - s)) (by rw [show e + 1 - s = (e - s) + 1 by omega, vlN, show s + (e - s) = e by omega, hv, h4']) ?_
          refine r_putI dX8_step_194 fl_X8_22 sh_2 rfl ?_
          refine r_aload_n dX8_step_197 rfl rfl ?_
          refine r_dup dX8_step_198 (fun _ h => by cases h) ?_
          refine r_getI dX8_step_199 fl_X8_19 sh_2 rfl ?_
          refine r_eqI (up_nk (by decide)) ?_
          refine r_iconst dX8_step_202 ?_
          refine r_iadd dX8_step_203 ?_
          refine r_putI dX8_step_204 fl_X8_19 sh_2 rfl ?_
          refine r_goto (tgt := 114) dX8_step_207 rfl ?_
          refine ih (e + 1) _ (by omega) (fun a k z => ?_) (by rw [up_s]; omega) ?_ (fun j a c => ?_) (fun z => by have := ll z; omega) (by omega)
          · rw [show upH (upH g 2 4 (vlN (h 3) s (e + 1 - s))) 2 3 (g 2 3 + 1) a k = g a k by unfold upH; rw [if_neg (by omega), if_neg (by omega)]]
            exact hg a k z
          · rw [up_nk (by decide), up_s, if_pos z2]
          · by_cases q : j = e
            · rw [q]; exact ke
            · exact hr j a (by omega)
      · refine r_iload_n dX8_step_136 rfl rfl ?_
        refine r_if_eq (tgt := 210) dX8_step_137 rfl (by omega) (fun c_137 => ?_) (fun c_137 => ?_)
        · refine r_vret dX8_step_210 rfl ?_
          refine ⟨rfl, k g e hg h3 h4 (fun z => ⟨fun y => ⟨he.1, he.2, hr, fun x => ?_⟩, fun y => ?_⟩) (fun z => by omega)⟩
          · omega
          · have := hl y
            omega
        · have hbe := hb e (by omega)
          have hv : g 3 (g 2 3).toNat = h 3 e := by rw [e0, w3]
          have kr := kd_r (h 3 e)
          refine r_aload_n dX8_step_140 rfl rfl ?_
          refine r_getR dX8_step_141 fl_X8_28 sh_2 rfl ?_
          refine r_aload_n dX8_step_144 rfl rfl ?_
          refine r_getI dX8_step_145 fl_X8_19 sh_2 rfl ?_
          refine r_bald dX8_step_148 sh_3 (by decide) (by omega) ?_
          refine r_callSI (av := [_]) (M' := mX8_kindOf) dX8_step_149 sX8_kindOf ml_X8_44 rfl rfl (by simp [wtA]) (sp_X8_kindOf (by omega) (by omega) ?_)
          refine r_eqI (y := kd (h 3 e)) (by rw [hv]) ?_
          refine r_aload_n dX8_step_152 rfl rfl ?_
          refine r_getI dX8_step_153 fl_X8_13 sh_2 rfl ?_
          refine r_icmp_ne (tgt := 210) dX8_step_156 rfl (by omega) (by omega) (fun c_156 => ?_) (fun c_156 => ?_)
          · refine r_vret dX8_step_210 rfl ?_
            refine ⟨rfl, k g e hg h3 h4 (fun z => ⟨fun y => ⟨he.1, he.2, hr, fun x => ?_⟩, fun y => ?_⟩) (fun z => by omega)⟩
            · omega
            · have := hl y
              omega
          · have ke : kd (h 3 e) = k0 := by
              first
                | omega
                | (rw [show e = s by omega]; exact hk (by omega))
            have ll : ¬ (k0 = 1 ∨ k0 = 2) → e = s := fun z => by omega
            have hbe := hb e (by omega)
            have hv : g 3 (g 2 3).toNat = h 3 e := by rw [e0, w3]
            refine r_aload_n dX8_step_159 rfl rfl ?_
            refine r_getI dX8_step_160 fl_X8_13 sh_2 rfl ?_
            refine r_iconst dX8_step_163 ?_
            refine r_icmp_ne (tgt := 197) dX8_step_164 rfl (by omega) ⟨by decide, by decide⟩ (fun c_164 => ?_) (fun c_164 => ?_)
            · refine r_aload_n dX8_step_197 rfl rfl ?_
              refine r_dup dX8_step_198 (fun _ h => by cases h) ?_
              refine r_getI dX8_step_199 fl_X8_19 sh_2 rfl ?_
              refine r_iconst dX8_step_202 ?_
              refine r_iadd dX8_step_203 ?_
              refine r_putI dX8_step_204 fl_X8_19 sh_2 rfl ?_
              refine r_goto (tgt := 114) dX8_step_207 rfl ?_
              refine ih (e + 1) _ (by omega) (fun a k z => ?_) (by rw [up_s]; omega) ?_ (fun j a c => ?_) (fun z => by have := ll z; omega) (by omega)
              · rw [show upH g 2 3 (g 2 3 + 1) a k = g a k by unfold upH; rw [if_neg (by omega)]]
                exact hg a k z
              · rw [up_nk (by decide), h4, if_neg (by omega), if_neg (by omega)]
              · by_cases q : j = e
                · rw [q]; exact ke
                · exact hr j a (by omega)
            · have z2 : k0 = 2 := by omega
              have dg := kd_2 (ke.trans z2)
              have bv := bv z2
              have h4' : g 2 4 = vlN (h 3) s (e - s) := by rw [h4, if_pos z2]
              refine r_aload_n dX8_step_167 rfl rfl ?_
              refine r_bipush dX8_step_168 (by decide +kernel) ?_
              refine r_aload_n dX8_step_170 rfl rfl ?_
              refine r_getI dX8_step_171 fl_X8_22 sh_2 rfl ?_
              refine r_imul dX8_step_174 ?_
              refine r_aload_n dX8_step_175 rfl rfl ?_
              refine r_getR dX8_step_176 fl_X8_28 sh_2 rfl ?_
              refine r_aload_n dX8_step_179 rfl rfl ?_
              refine r_getI dX8_step_180 fl_X8_19 sh_2 rfl ?_
              refine r_bald dX8_step_183 sh_3 (by decide) (by omega) ?_
              refine r_iadd dX8_step_184 ?_
              refine r_bipush dX8_step_185 (by decide +kernel) ?_
              refine r_isub dX8_step_187 ?_
              refine r_sipush dX8_step_188 (by decide +kernel) ?_
              refine r_mmin (by omega) ⟨by decide, by decide⟩ dX8_step_191 ml_X8_38 (by simp [wtA]) ?_
              refine r_eqI (y := vlN (h 3) s (e + 1 - s)) (by rw [show e + 1 - s = (e - s) + 1 by omega, vlN, show s + (e - s) = e by omega, hv, h4']) ?_
              refine r_putI dX8_step_194 fl_X8_22 sh_2 rfl ?_
              refine r_aload_n dX8_step_197 rfl rfl ?_
              refine r_dup dX8_step_198 (fun _ h => by cases h) ?_
              refine r_getI dX8_step_199 fl_X8_19 sh_2 rfl ?_
              refine r_eqI (up_nk (by decide)) ?_
              refine r_iconst dX8_step_202 ?_
              refine r_iadd dX8_step_203 ?_
              refine r_putI dX8_step_204 fl_X8_19 sh_2 rfl ?_
              refine r_goto (tgt := 114) dX8_step_207 rfl ?_
              refine ih (e + 1) _ (by omega) (fun a k z => ?_) (by rw [up_s]; omega) ?_ (fun j a c => ?_) (fun z => by have := ll z; omega) (by omega)
              · rw [show upH (upH g 2 4 (vlN (h 3) s (e + 1 - s))) 2 3 (g 2 3 + 1) a k = g a k by unfold upH; rw [if_neg (by omega), if_neg (by omega)]]
                exact hg a k z
              · rw [up_nk (by decide), up_s, if_pos z2]
              · by_cases q : j = e
                · rw [q]; exact ke
                · exact hr j a (by omega)
set_option maxRecDepth 20000 in
set_option maxHeartbeats 400000 in
theorem sp_X8_step {d : Nat} (hd : 2 ≤ d) {h : Hp} {n p : Nat} (hn : h 2 5 = n ∧ n ≤ 500) (hp : h 2 3 = p ∧ p ≤ n) (hb : BY (h 3)) {P : Hp → Prop} (k : ∀ h' : Hp, (Fr2 h h') → (TKs h' n p) → P h') : Cl d mX8_step [.inr (.inr 2)] h (pV P) := by
  refine Cl.of (L := [some (.inr (.inr 2)), none]) (by decide +kernel) (Nat.le_of_ble_eq_true rfl) rfl ?_
  obtain ⟨d, rfl⟩ : ∃ q, d = q + 1 := ⟨d - 1, by omega⟩
  refine r_aload_n dX8_step_0 rfl rfl ?_
  refine r_aload_n dX8_step_1 rfl rfl ?_
  refine r_getI dX8_step_2 fl_X8_19 sh_2 rfl ?_
  refine r_putI dX8_step_5 fl_X8_16 sh_2 rfl ?_
  refine lp_step1 (h := h) (p := p) (n := n) (by omega) hn hb (fun g o z1 z2 => ?_) 501 p _ _ (by omega) (fun a k z => by unfold upH; rw [if_neg z]) (by rw [up_s]; exact hp.1) (fun j a c => absurd c (by omega)) (by omega)
  have y : ∀ a k, ¬ (a = 2 ∧ k = 2) → g a k = h a k := z1
  have y3 : g 3 = h 3 := funext fun j => y 3 j (by omega)
  have sr := tS_r (b := h 3) hp.2
  have e0 : (g 2 2).toNat = tS (h 3) n p := by omega
  have y5 := y 2 5 (by decide)
  refine r_aload_n dX8_step_48 rfl rfl ?_
  refine r_aload_n dX8_step_49 rfl rfl ?_
  refine r_getI dX8_step_50 fl_X8_16 sh_2 rfl ?_
  refine r_putI dX8_step_53 fl_X8_19 sh_2 rfl ?_
  refine r_aload_n dX8_step_56 rfl rfl ?_
  refine r_iconst dX8_step_57 ?_
  refine r_putI dX8_step_58 fl_X8_22 sh_2 rfl ?_
  refine r_aload_n dX8_step_61 rfl rfl ?_
  refine r_aload_n dX8_step_62 rfl rfl ?_
  refine r_getI dX8_step_63 fl_X8_16 sh_2 rfl ?_
  refine r_eqI (((up_nk (by decide)).trans (up_nk (by decide)))) ?_
  refine r_aload_n dX8_step_66 rfl rfl ?_
  refine r_getI dX8_step_67 fl_X8_25 sh_2 rfl ?_
  refine r_eqI (((up_nk (by decide)).trans (up_nk (by decide)))) ?_
  refine r_icmp_ge (tgt := 88) dX8_step_70 rfl (by omega) (by omega) (fun c_70 => ?_) (fun c_70 => ?_)
  · refine r_iconst dX8_step_88 ?_
    refine r_eqI (y := tK (h 3) n p) ?_ ?_
    · first
        | (rw [hv]; exact (if_pos (by omega)).symm)
        | exact (if_neg (by omega)).symm
    have tr := tK_r (b := h 3) hp.2
    refine r_putI dX8_step_89 fl_X8_13 sh_2 rfl ?_
    refine r_aload_n dX8_step_92 rfl rfl ?_
    refine r_getI dX8_step_93 fl_X8_13 sh_2 rfl ?_
    refine r_eqI (up_s _ _ _ _) ?_
    refine r_iconst dX8_step_96 ?_
    refine r_icmp_eq (tgt := 108) dX8_step_97 rfl (by omega) ⟨by decide, by decide⟩ (fun c_97 => ?_) (fun c_97 => ?_)
    · refine r_iconst dX8_step_108 ?_
      refine r_goto (tgt := 113) dX8_step_109 rfl ?_
      refine r_istore_n (L' := [_, _]) dX8_step_113 rfl rfl (by decide) rfl ?_
      refine r_gh (fun g2 eg => ?_)
      have ek : g2 2 1 = tK (h 3) n p := by rw [eg]; rfl
      have es : g2 2 2 = tS (h 3) n p := by rw [eg]; exact z2
      have ee : g2 2 3 = tS (h 3) n p := by rw [eg]; exact z2
      have ev : g2 2 4 = 0 := by rw [eg]; rfl
      have fr : ∀ a k, ¬ (a = 2 ∧ (k = 1 ∨ k = 2 ∨ k = 3 ∨ k = 4)) → g2 a k = h a k := fun a k z => by
        rw [eg]
        show upH _ 2 1 _ a k = _
        unfold upH
        rw [if_neg (by omega), if_neg (by omega), if_neg (by omega)]
        exact y a k (by omega)
      have e3 : g2 3 = h 3 := funext fun j => fr 3 j (by omega)
      have tr := tK_r (b := h 3) hp.2
      have fl : (1 : Int) = (if tK (h 3) n p = 1 ∨ tK (h 3) n p = 2 then 1 else 0) := (if_pos (by omega)).symm
      refine r_eqL (L' := [some (.inr (.inr 2)), some (.inl (if tK (h 3) n p = 1 ∨ tK (h 3) n p = 2 then 1 else 0))]) (by rw [← fl]) ?_
      refine lp_step2 (h := g2) (n := n) (s := tS (h 3) n p) (k0 := tK (h 3) n p) (by omega) ⟨(fr 2 5 (by decide)).trans hn.1, hn.2⟩ (by rw [e3]; exact hb) ⟨ek, by omega, by omega⟩ es (fun z => by rw [e3]; exact (if_pos z).symm) (fun g3 e x0 x1 x2 x3 x4 => ?_) 501 (tS (h 3) n p) g2 (by omega) (fun _ _ _ => rfl) ee (by rw [ev, Nat.sub_self]; split <;> rfl) (fun j a c => by omega) (fun _ => by omega) (by omega)
      rw [e3] at x2 x3
      have x5 : g3 3 = h 3 := funext fun j => (x0 3 j (by omega)).trans (fr 3 j (by omega))
      have e4 : e = tE (h 3) n p := by
        unfold tE
        by_cases c : tS (h 3) n p < n
        · rw [if_pos c]
          by_cases c2 : tK (h 3) n p = 1 ∨ tK (h 3) n p = 2
          · rw [if_pos c2]
            exact rnF_eq ((x3 c).1 c2)
          · rw [if_neg c2]
            exact (x3 c).2 c2
        · rw [if_neg c]
          exact x4 c
      subst e4
      refine k g3 (fun a q z => (x0 a q (by omega)).trans (fr a q z)) ⟨?_, ?_, ?_, ?_⟩
      · rw [x0 2 1 (by decide), x5]; exact ek
      · rw [x0 2 2 (by decide), x5]; exact es
      · rw [x5]; exact x1
      · rw [x5]; exact x2
    · refine r_aload_n dX8_step_100 rfl rfl ?_
      refine r_getI dX8_step_101 fl_X8_13 sh_2 rfl ?_
      refine r_eqI (up_s _ _ _ _) ?_
      refine r_iconst dX8_step_104 ?_
      refine r_icmp_ne (tgt := 112) dX8_step_105 rfl (by omega) ⟨by decide, by decide⟩ (fun c_105 => ?_) (fun c_105 => ?_)
      · refine r_iconst dX8_step_112 ?_
        refine r_istore_n (L' := [_, _]) dX8_step_113 rfl rfl (by decide) rfl ?_
        refine r_gh (fun g2 eg => ?_)
        have ek : g2 2 1 = tK (h 3) n p := by rw [eg]; rfl
        have es : g2 2 2 = tS (h 3) n p := by rw [eg]; exact z2
        have ee : g2 2 3 = tS (h 3) n p := by rw [eg]; exact z2
        have ev : g2 2 4 = 0 := by rw [eg]; rfl
        have fr : ∀ a k, ¬ (a = 2 ∧ (k = 1 ∨ k = 2 ∨ k = 3 ∨ k = 4)) → g2 a k = h a k := fun a k z => by
          rw [eg]
          show upH _ 2 1 _ a k = _
          unfold upH
          rw [if_neg (by omega), if_neg (by omega), if_neg (by omega)]
          exact y a k (by omega)
        have e3 : g2 3 = h 3 := funext fun j => fr 3 j (by omega)
        have tr := tK_r (b := h 3) hp.2
        have fl : (0 : Int) = (if tK (h 3) n p = 1 ∨ tK (h 3) n p = 2 then 1 else 0) := (if_neg (by omega)).symm
        refine r_eqL (L' := [some (.inr (.inr 2)), some (.inl (if tK (h 3) n p = 1 ∨ tK (h 3) n p = 2 then 1 else 0))]) (by rw [← fl]) ?_
        refine lp_step2 (h := g2) (n := n) (s := tS (h 3) n p) (k0 := tK (h 3) n p) (by omega) ⟨(fr 2 5 (by decide)).trans hn.1, hn.2⟩ (by rw [e3]; exact hb) ⟨ek, by omega, by omega⟩ es (fun z => by rw [e3]; exact (if_pos z).symm) (fun g3 e x0 x1 x2 x3 x4 => ?_) 501 (tS (h 3) n p) g2 (by omega) (fun _ _ _ => rfl) ee (by rw [ev, Nat.sub_self]; split <;> rfl) (fun j a c => by omega) (fun _ => by omega) (by omega)
        rw [e3] at x2 x3
        have x5 : g3 3 = h 3 := funext fun j => (x0 3 j (by omega)).trans (fr 3 j (by omega))
        have e4 : e = tE (h 3) n p := by
          unfold tE
          by_cases c : tS (h 3) n p < n
          · rw [if_pos c]
            by_cases c2 : tK (h 3) n p = 1 ∨ tK (h 3) n p = 2
            · rw [if_pos c2]
              exact rnF_eq ((x3 c).1 c2)
            · rw [if_neg c2]
              exact (x3 c).2 c2
          · rw [if_neg c]
            exact x4 c
        subst e4
        refine k g3 (fun a q z => (x0 a q (by omega)).trans (fr a q z)) ⟨?_, ?_, ?_, ?_⟩
        · rw [x0 2 1 (by decide), x5]; exact ek
        · rw [x0 2 2 (by decide), x5]; exact es
        · rw [x5]; exact x1
        · rw [x5]; exact x2
      · refine r_iconst dX8_step_108 ?_
        refine r_goto (tgt := 113) dX8_step_109 rfl ?_
        refine r_istore_n (L' := [_, _]) dX8_step_113 rfl rfl (by decide) rfl ?_
        refine r_gh (fun g2 eg => ?_)
        have ek : g2 2 1 = tK (h 3) n p := by rw [eg]; rfl
        have es : g2 2 2 = tS (h 3) n p := by rw [eg]; exact z2
        have ee : g2 2 3 = tS (h 3) n p := by rw [eg]; exact z2
        have ev : g2 2 4 = 0 := by rw [eg]; rfl
        have fr : ∀ a k, ¬ (a = 2 ∧ (k = 1 ∨ k = 2 ∨ k = 3 ∨ k = 4)) → g2 a k = h a k := fun a k z => by
          rw [eg]
          show upH _ 2 1 _ a k = _
          unfold upH
          rw [if_neg (by omega), if_neg (by omega), if_neg (by omega)]
          exact y a k (by omega)
        have e3 : g2 3 = h 3 := funext fun j => fr 3 j (by omega)
        have tr := tK_r (b := h 3) hp.2
        have fl : (1 : Int) = (if tK (h 3) n p = 1 ∨ tK (h 3) n p = 2 then 1 else 0) := (if_pos (by omega)).symm
        refine r_eqL (L' := [some (.inr (.inr 2)), some (.inl (if tK (h 3) n p = 1 ∨ tK (h 3) n p = 2 then 1 else 0))]) (by rw [← fl]) ?_
        refine lp_step2 (h := g2) (n := n) (s := tS (h 3) n p) (k0 := tK (h 3) n p) (by omega) ⟨(fr 2 5 (by decide)).trans hn.1, hn.2⟩ (by rw [e3]; exact hb) ⟨ek, by omega, by omega⟩ es (fun z => by rw [e3]; exact (if_pos z).symm) (fun g3 e x0 x1 x2 x3 x4 => ?_) 501 (tS (h 3) n p) g2 (by omega) (fun _ _ _ => rfl) ee (by rw [ev, Nat.sub_self]; split <;> rfl) (fun j a c => by omega) (fun _ => by omega) (by omega)
        rw [e3] at x2 x3
        have x5 : g3 3 = h 3 := funext fun j => (x0 3 j (by omega)).trans (fr 3 j (by omega))
        have e4 : e = tE (h 3) n p := by
          unfold tE
          by_cases c : tS (h 3) n p < n
          · rw [if_pos c]
            by_cases c2 : tK (h 3) n p = 1 ∨ tK (h 3) n p = 2
            · rw [if_pos c2]
              exact rnF_eq ((x3 c).1 c2)
            · rw [if_neg c2]
              exact (x3 c).2 c2
          · rw [if_neg c]
            exact x4 c
        subst e4
        refine k g3 (fun a q z => (x0 a q (by omega)).trans (fr a q z)) ⟨?_, ?_, ?_, ?_⟩
        · rw [x0 2 1 (by decide), x5]; exact ek
        · rw [x0 2 2 (by decide), x5]; exact es
        · rw [x5]; exact x1
        · rw [x5]; exact x2
  · have cN : tS (h 3) n p < n := by omega
    have hbs := hb (tS (h 3) n p) (by omega)
    have hv : g 3 (g 2 2).toNat = h 3 (tS (h 3) n p) := by rw [e0, y3]
    have kr := kd_r (h 3 (tS (h 3) n p))
    refine r_aload_n dX8_step_73 rfl rfl ?_
    refine r_getR dX8_step_74 fl_X8_28 sh_2 rfl ?_
    refine r_aload_n dX8_step_77 rfl rfl ?_
    refine r_getI dX8_step_78 fl_X8_16 sh_2 rfl ?_
    refine r_eqI (((up_nk (by decide)).trans (up_nk (by decide)))) ?_
    refine r_bald dX8_step_81 sh_3 (by decide) (by omega) ?_
    refine r_eqI (((up_nc (by decide)).trans (up_nc (by decide)))) ?_
    refine r_callSI (av := [_]) (M' := mX8_kindOf) dX8_step_82 sX8_kindOf ml_X8_44 rfl rfl (by simp [wtA]) (sp_X8_kindOf (by omega) (by omega) ?_)
    refine r_goto (tgt := 89) dX8_step_85 rfl ?_
    refine r_eqI (y := tK (h 3) n p) ?_ ?_
    · first
        | (rw [hv]; exact (if_pos (by omega)).symm)
        | exact (if_neg (by omega)).symm
    have tr := tK_r (b := h 3) hp.2
    refine r_putI dX8_step_89 fl_X8_13 sh_2 rfl ?_
    refine r_aload_n dX8_step_92 rfl rfl ?_
    refine r_getI dX8_step_93 fl_X8_13 sh_2 rfl ?_
    refine r_eqI (up_s _ _ _ _) ?_
    refine r_iconst dX8_step_96 ?_
    refine r_icmp_eq (tgt := 108) dX8_step_97 rfl (by omega) ⟨by decide, by decide⟩ (fun c_97 => ?_) (fun c_97 => ?_)
    · refine r_iconst dX8_step_108 ?_
      refine r_goto (tgt := 113) dX8_step_109 rfl ?_
      refine r_istore_n (L' := [_, _]) dX8_step_113 rfl rfl (by decide) rfl ?_
      refine r_gh (fun g2 eg => ?_)
      have ek : g2 2 1 = tK (h 3) n p := by rw [eg]; rfl
      have es : g2 2 2 = tS (h 3) n p := by rw [eg]; exact z2
      have ee : g2 2 3 = tS (h 3) n p := by rw [eg]; exact z2
      have ev : g2 2 4 = 0 := by rw [eg]; rfl
      have fr : ∀ a k, ¬ (a = 2 ∧ (k = 1 ∨ k = 2 ∨ k = 3 ∨ k = 4)) → g2 a k = h a k := fun a k z => by
        rw [eg]
        show upH _ 2 1 _ a k = _
        unfold upH
        rw [if_neg (by omega), if_neg (by omega), if_neg (by omega)]
        exact y a k (by omega)
      have e3 : g2 3 = h 3 := funext fun j => fr 3 j (by omega)
      have tr := tK_r (b := h 3) hp.2
      have fl : (1 : Int) = (if tK (h 3) n p = 1 ∨ tK (h 3) n p = 2 then 1 else 0) := (if_pos (by omega)).symm
      refine r_eqL (L' := [some (.inr (.inr 2)), some (.inl (if tK (h 3) n p = 1 ∨ tK (h 3) n p = 2 then 1 else 0))]) (by rw [← fl]) ?_
      refine lp_step2 (h := g2) (n := n) (s := tS (h 3) n p) (k0 := tK (h 3) n p) (by omega) ⟨(fr 2 5 (by decide)).trans hn.1, hn.2⟩ (by rw [e3]; exact hb) ⟨ek, by omega, by omega⟩ es (fun z => by rw [e3]; exact (if_pos z).symm) (fun g3 e x0 x1 x2 x3 x4 => ?_) 501 (tS (h 3) n p) g2 (by omega) (fun _ _ _ => rfl) ee (by rw [ev, Nat.sub_self]; split <;> rfl) (fun j a c => by omega) (fun _ => by omega) (by omega)
      rw [e3] at x2 x3
      have x5 : g3 3 = h 3 := funext fun j => (x0 3 j (by omega)).trans (fr 3 j (by omega))
      have e4 : e = tE (h 3) n p := by
        unfold tE
        by_cases c : tS (h 3) n p < n
        · rw [if_pos c]
          by_cases c2 : tK (h 3) n p = 1 ∨ tK (h 3) n p = 2
          · rw [if_pos c2]
            exact rnF_eq ((x3 c).1 c2)
          · rw [if_neg c2]
            exact (x3 c).2 c2
        · rw [if_neg c]
          exact x4 c
      subst e4
      refine k g3 (fun a q z => (x0 a q (by omega)).trans (fr a q z)) ⟨?_, ?_, ?_, ?_⟩
      · rw [x0 2 1 (by decide), x5]; exact ek
      · rw [x0 2 2 (by decide), x5]; exact es
      · rw [x5]; exact x1
      · rw [x5]; exact x2
    · refine r_aload_n dX8_step_100 rfl rfl ?_
      refine r_getI dX8_step_101 fl_X8_13 sh_2 rfl ?_
      refine r_eqI (up_s _ _ _ _) ?_
      refine r_iconst dX8_step_104 ?_
      refine r_icmp_ne (tgt := 112) dX8_step_105 rfl (by omega) ⟨by decide, by decide⟩ (fun c_105 => ?_) (fun c_105 => ?_)
      · refine r_iconst dX8_step_112 ?_
        refine r_istore_n (L' := [_, _]) dX8_step_113 rfl rfl (by decide) rfl ?_
        refine r_gh (fun g2 eg => ?_)
        have ek : g2 2 1 = tK (h 3) n p := by rw [eg]; rfl
        have es : g2 2 2 = tS (h 3) n p := by rw [eg]; exact z2
        have ee : g2 2 3 = tS (h 3) n p := by rw [eg]; exact z2
        have ev : g2 2 4 = 0 := by rw [eg]; rfl
        have fr : ∀ a k, ¬ (a = 2 ∧ (k = 1 ∨ k = 2 ∨ k = 3 ∨ k = 4)) → g2 a k = h a k := fun a k z => by
          rw [eg]
          show upH _ 2 1 _ a k = _
          unfold upH
          rw [if_neg (by omega), if_neg (by omega), if_neg (by omega)]
          exact y a k (by omega)
        have e3 : g2 3 = h 3 := funext fun j => fr 3 j (by omega)
        have tr := tK_r (b := h 3) hp.2
        have fl : (0 : Int) = (if tK (h 3) n p = 1 ∨ tK (h 3) n p = 2 then 1 else 0) := (if_neg (by omega)).symm
        refine r_eqL (L' := [some (.inr (.inr 2)), some (.inl (if tK (h 3) n p = 1 ∨ tK (h 3) n p = 2 then 1 else 0))]) (by rw [← fl]) ?_
        refine lp_step2 (h := g2) (n := n) (s := tS (h 3) n p) (k0 := tK (h 3) n p) (by omega) ⟨(fr 2 5 (by decide)).trans hn.1, hn.2⟩ (by rw [e3]; exact hb) ⟨ek, by omega, by omega⟩ es (fun z => by rw [e3]; exact (if_pos z).symm) (fun g3 e x0 x1 x2 x3 x4 => ?_) 501 (tS (h 3) n p) g2 (by omega) (fun _ _ _ => rfl) ee (by rw [ev, Nat.sub_self]; split <;> rfl) (fun j a c => by omega) (fun _ => by omega) (by omega)
        rw [e3] at x2 x3
        have x5 : g3 3 = h 3 := funext fun j => (x0 3 j (by omega)).trans (fr 3 j (by omega))
        have e4 : e = tE (h 3) n p := by
          unfold tE
          by_cases c : tS (h 3) n p < n
          · rw [if_pos c]
            by_cases c2 : tK (h 3) n p = 1 ∨ tK (h 3) n p = 2
            · rw [if_pos c2]
              exact rnF_eq ((x3 c).1 c2)
            · rw [if_neg c2]
              exact (x3 c).2 c2
          · rw [if_neg c]
            exact x4 c
        subst e4
        refine k g3 (fun a q z => (x0 a q (by omega)).trans (fr a q z)) ⟨?_, ?_, ?_, ?_⟩
        · rw [x0 2 1 (by decide), x5]; exact ek
        · rw [x0 2 2 (by decide), x5]; exact es
        · rw [x5]; exact x1
        · rw [x5]; exact x2
      · refine r_iconst dX8_step_108 ?_
        refine r_goto (tgt := 113) dX8_step_109 rfl ?_
        refine r_istore_n (L' := [_, _]) dX8_step_113 rfl rfl (by decide) rfl ?_
        refine r_gh (fun g2 eg => ?_)
        have ek : g2 2 1 = tK (h 3) n p := by rw [eg]; rfl
        have es : g2 2 2 = tS (h 3) n p := by rw [eg]; exact z2
        have ee : g2 2 3 = tS (h 3) n p := by rw [eg]; exact z2
        have ev : g2 2 4 = 0 := by rw [eg]; rfl
        have fr : ∀ a k, ¬ (a = 2 ∧ (k = 1 ∨ k = 2 ∨ k = 3 ∨ k = 4)) → g2 a k = h a k := fun a k z => by
          rw [eg]
          show upH _ 2 1 _ a k = _
          unfold upH
          rw [if_neg (by omega), if_neg (by omega), if_neg (by omega)]
          exact y a k (by omega)
        have e3 : g2 3 = h 3 := funext fun j => fr 3 j (by omega)
        have tr := tK_r (b := h 3) hp.2
        have fl : (1 : Int) = (if tK (h 3) n p = 1 ∨ tK (h 3) n p = 2 then 1 else 0) := (if_pos (by omega)).symm
        refine r_eqL (L' := [some (.inr (.inr 2)), some (.inl (if tK (h 3) n p = 1 ∨ tK (h 3) n p = 2 then 1 else 0))]) (by rw [← fl]) ?_
        refine lp_step2 (h := g2) (n := n) (s := tS (h 3) n p) (k0 := tK (h 3) n p) (by omega) ⟨(fr 2 5 (by decide)).trans hn.1, hn.2⟩ (by rw [e3]; exact hb) ⟨ek, by omega, by omega⟩ es (fun z => by rw [e3]; exact (if_pos z).symm) (fun g3 e x0 x1 x2 x3 x4 => ?_) 501 (tS (h 3) n p) g2 (by omega) (fun _ _ _ => rfl) ee (by rw [ev, Nat.sub_self]; split <;> rfl) (fun j a c => by omega) (fun _ => by omega) (by omega)
        rw [e3] at x2 x3
        have x5 : g3 3 = h 3 := funext fun j => (x0 3 j (by omega)).trans (fr 3 j (by omega))
        have e4 : e = tE (h 3) n p := by
          unfold tE
          by_cases c : tS (h 3) n p < n
          · rw [if_pos c]
            by_cases c2 : tK (h 3) n p = 1 ∨ tK (h 3) n p = 2
            · rw [if_pos c2]
              exact rnF_eq ((x3 c).1 c2)
            · rw [if_neg c2]
              exact (x3 c).2 c2
          · rw [if_neg c]
            exact x4 c
        subst e4
        refine k g3 (fun a q z => (x0 a q (by omega)).trans (fr a q z)) ⟨?_, ?_, ?_, ?_⟩
        · rw [x0 2 1 (by decide), x5]; exact ek
        · rw [x0 2 2 (by decide), x5]; exact es
        · rw [x5]; exact x1
        · rw [x5]; exact x2
set_option maxRecDepth 20000 in
set_option maxHeartbeats 400000 in
theorem sp_X8_open {d : Nat} (hd : 3 ≤ d) {m : Int} {h : Hp} {n : Nat} (hm : m = n) (hs : (n : Int) ≤ h 2 0 ∧ h 2 0 ≤ 500) (hb : BY (h 3)) {P : Hp → Prop} (k : ∀ h' : Hp, (∀ a k, ¬ (a = 2 ∧ (k = 1 ∨ k = 2 ∨ k = 3 ∨ k = 4 ∨ k = 5)) → h' a k = h a k) → (h' 2 5 = n) → (TKs h' n 0) → P h') : Cl d mX8_open [.inr (.inr 2), .inl m] h (pV P) := by
  refine Cl.of (L := [some (.inr (.inr 2)), some (.inl m)]) (by decide +kernel) (Nat.le_of_ble_eq_true rfl) rfl ?_
  obtain ⟨d, rfl⟩ : ∃ q, d = q + 1 := ⟨d - 1, by omega⟩
  refine r_aload_n dX8_open_0 rfl rfl ?_
  refine r_iload_n dX8_open_1 rfl rfl ?_
  refine r_iconst dX8_open_2 ?_
  refine r_mmax (by omega) ⟨by decide, by decide⟩ dX8_open_3 ml_X8_32 (by simp [wtA]) ?_
  refine r_aload_n dX8_open_6 rfl rfl ?_
  refine r_getI dX8_open_7 fl_X8_7 sh_2 rfl ?_
  refine r_mmin (by omega) (by omega) dX8_open_10 ml_X8_38 (by simp [wtA]) ?_
  refine r_putI dX8_open_13 fl_X8_25 sh_2 rfl ?_
  refine r_aload_n dX8_open_16 rfl rfl ?_
  refine r_iconst dX8_open_17 ?_
  refine r_putI dX8_open_18 fl_X8_19 sh_2 rfl ?_
  refine r_gh (fun g eg => ?_)
  have g5 : g 2 5 = n := by rw [eg, up_nk (by decide), up_s]; omega
  have g3 : g 2 3 = 0 := by rw [eg]; exact up_s _ _ _ _
  have gf : ∀ a k, ¬ (a = 2 ∧ (k = 3 ∨ k = 5)) → g a k = h a k := fun a k z => by
    rw [eg]
    unfold upH
    rw [if_neg (by omega), if_neg (by omega)]
  refine r_aload_n dX8_open_21 rfl rfl ?_
  refine r_callVU (av := []) (M' := mX8_step) dX8_open_22 vX8_step ml_X8_41 sh_2 (by decide) rfl rfl rfl rfl (by simp [wtA]) (sp_X8_step (by omega) (n := n) (p := 0) (by omega) (by omega) (by rw [show g 3 = h 3 from funext fun j => gf 3 j (by omega)]; exact hb) (fun h_22 f0_22 f1_22 => ?_))
  refine r_vret dX8_open_25 rfl ?_
  exact ⟨rfl, k _ (fun a q z => (f0_22 a q (by omega)).trans (gf a q (by omega))) ((f0_22 2 5 (by decide)).trans g5) f1_22⟩
