/-! A CUT OF A LINE: p, q along the side's axis, r, t across -/
def cuA (s sd p : Int) : Int := if (p - sd) * s < 0 then sd else p
def cuB (s sd p q r t : Int) : Int := if (p - sd) * s < 0 then r + ((t - r) * (sd - p)).tdiv (q - p) else r
abbrev cuN (s sd p q : Int) : Prop := (p - sd) * s < 0 ∧ (q - sd) * s < 0
theorem mulAB {a b A B : Int} (ha : -A ≤ a ∧ a ≤ A) (hb : -B ≤ b ∧ b ≤ B) : -(A * B) ≤ a * b ∧ a * b ≤ A * B := by
  rcases Int.le_total 0 a with pa | pa <;> rcases Int.le_total 0 b with pb | pb
  · have := mulR (A := A) (B := B) ⟨pa, ha.2⟩ ⟨pb, hb.2⟩
    omega
  · have := mulR (a := a) (b := -b) (A := A) (B := B) ⟨pa, ha.2⟩ ⟨by omega, by omega⟩
    rw [Int.mul_neg] at this
    omega
  · have := mulR (a := -a) (b := b) (A := A) (B := B) ⟨by omega, by omega⟩ ⟨pb, hb.2⟩
    rw [Int.neg_mul] at this
    omega
  · have := mulR (a := -a) (b := -b) (A := A) (B := B) ⟨by omega, by omega⟩ ⟨by omega, by omega⟩
    rw [Int.neg_mul_neg] at this
    omega
theorem td_p {d a n : Int} (ha : 0 < a ∧ a ≤ n) (hd : 0 ≤ d) : 0 ≤ (d * a).tdiv n ∧ (d * a).tdiv n ≤ d := by
  have h1 : 0 ≤ d * a := Int.mul_nonneg hd (by omega)
  exact ⟨(tdivNN h1 (by omega)).1, tdiv_le h1 (by omega) (Int.mul_le_mul_of_nonneg_left ha.2 hd)⟩
/-- a step towards the other end stays between the ends -/
theorem td_in {d a n : Int} (h : (0 < a ∧ a ≤ n) ∨ (n ≤ a ∧ a < 0)) : (0 ≤ d → 0 ≤ (d * a).tdiv n ∧ (d * a).tdiv n ≤ d) ∧ (d ≤ 0 → d ≤ (d * a).tdiv n ∧ (d * a).tdiv n ≤ 0) := by
  have key : ∀ a n : Int, (0 < a ∧ a ≤ n) → (0 ≤ d → 0 ≤ (d * a).tdiv n ∧ (d * a).tdiv n ≤ d) ∧ (d ≤ 0 → d ≤ (d * a).tdiv n ∧ (d * a).tdiv n ≤ 0) := fun a n h => by
    refine ⟨fun z => td_p h z, fun z => ?_⟩
    have := td_p (d := -d) h (by omega)
    rw [Int.neg_mul, Int.neg_tdiv] at this
    omega
  rcases h with h | h
  · exact key a n h
  · have := key (-a) (-n) (by omega)
    rw [Int.mul_neg, Int.neg_tdiv, Int.tdiv_neg, Int.neg_neg] at this
    exact this
theorem cu_s {s sd p : Int} (hs : s = 1 ∨ s = -1) : ((p - sd) * s < 0 ↔ (s = 1 ∧ p < sd) ∨ (s = -1 ∧ sd < p)) := by
  rcases hs with e | e <;> subst e <;> omega
theorem cu_bt {s sd p q r t : Int} (hs : s = 1 ∨ s = -1) (h1 : (p - sd) * s < 0) (h2 : ¬ (q - sd) * s < 0) : (0 < sd - p ∧ sd - p ≤ q - p) ∨ (q - p ≤ sd - p ∧ sd - p < 0) := by
  rw [cu_s hs] at h1 h2
  omega
theorem cuB_in {s sd p q r t lo hi : Int} (hs : s = 1 ∨ s = -1) (h2 : ¬ cuN s sd p q) (hr : lo ≤ r ∧ r ≤ hi) (ht : lo ≤ t ∧ t ≤ hi) : lo ≤ cuB s sd p q r t ∧ cuB s sd p q r t ≤ hi := by
  unfold cuB
  by_cases c : (p - sd) * s < 0
  · rw [if_pos c]
    have b := td_in (d := t - r) (cu_bt (r := r) (t := t) hs c (fun z => h2 ⟨c, z⟩))
    clear c h2
    omega
  · rw [if_neg c]
    exact hr
theorem cuA_in {s sd p q lo hi : Int} (hs : s = 1 ∨ s = -1) (h2 : ¬ cuN s sd p q) (hp : lo ≤ p ∧ p ≤ hi) (hq : lo ≤ q ∧ q ≤ hi) : lo ≤ cuA s sd p ∧ cuA s sd p ≤ hi := by
  unfold cuA
  by_cases c : (p - sd) * s < 0
  · rw [if_pos c]
    have b := cu_bt (r := 0) (t := 0) hs c (fun z => h2 ⟨c, z⟩)
    clear c h2
    omega
  · rw [if_neg c]
    exact hp
theorem cuA_ok {s sd p : Int} : ¬ (cuA s sd p - sd) * s < 0 := by
  unfold cuA
  by_cases c : (p - sd) * s < 0
  · rw [if_pos c, Int.sub_self, Int.zero_mul]
    decide
  · rw [if_neg c]
    exact c
/-- the bounds of a line that is cut -/
abbrev LnB (p r q t : Int) : Prop := (-600000 ≤ p ∧ p ≤ 600000) ∧ (-600000 ≤ q ∧ q ≤ 600000) ∧ (-600000 ≤ r ∧ r ≤ 600000) ∧ (-600000 ≤ t ∧ t ≤ 600000) ∧ (-20000 ≤ p - q ∧ p - q ≤ 20000) ∧ (-20000 ≤ r - t ∧ r - t ≤ 20000)
theorem cuN_sw {s sd p q : Int} (h : ¬ cuN s sd p q) : ¬ cuN s sd q p := fun z => h ⟨z.2, z.1⟩
theorem LnB.cut {s sd p r q t : Int} (b : LnB p r q t) (hs : s = 1 ∨ s = -1) (h : ¬ cuN s sd p q) : LnB (cuA s sd p) (cuB s sd p q r t) (cuA s sd q) (cuB s sd q p t r) := by
  have a1 := cuA_in (lo := min p q) (hi := max p q) hs h (by omega) (by omega)
  have a2 := cuA_in (lo := min p q) (hi := max p q) hs (cuN_sw h) (by omega) (by omega)
  have b1 := cuB_in (lo := min r t) (hi := max r t) (r := r) (t := t) hs h (by omega) (by omega)
  have b2 := cuB_in (lo := min r t) (hi := max r t) (r := t) (t := r) hs (cuN_sw h) (by omega) (by omega)
  clear h
  omega
theorem LnB.sw {p r q t : Int} (b : LnB p r q t) : LnB r p t q := by omega
theorem cu_m {s sd p r q t : Int} (b : LnB p r q t) (hs : s = 1 ∨ s = -1) (h1 : (p - sd) * s < 0) (h2 : ¬ (q - sd) * s < 0) : q - p ≠ 0 ∧ (-400000000 ≤ (t - r) * (sd - p) ∧ (t - r) * (sd - p) ≤ 400000000) ∧ (-600000 ≤ r + ((t - r) * (sd - p)).tdiv (q - p) ∧ r + ((t - r) * (sd - p)).tdiv (q - p) ≤ 600000) := by
  have c := cu_bt (r := r) (t := t) hs h1 h2
  have m := mulAB (a := t - r) (b := sd - p) (A := 20000) (B := 20000) (by omega) (by omega)
  have d := td_in (d := t - r) c
  clear h1 h2
  omega
set_option maxRecDepth 20000 in
set_option maxHeartbeats 400000 in
theorem sp_bring_0_0 {d : Nat} (hd : 1 ≤ d) {sd : Int} {h : Hp}  (hz : (h 31 2) - (h 31 0) ≠ 0) (hb : R32 ((h 31 2) - (h 31 0)) ∧ R32 (((h 31 3) - (h 31 1)) * (sd - (h 31 0)))) {P : Hp → Prop} (k : P (upH (upH h 31 1 ((h 31 1) + (((h 31 3) - (h 31 1)) * (sd - (h 31 0))).tdiv ((h 31 2) - (h 31 0)))) 31 0 sd)) : Cl d mX5_bringToSide [.inr (.inr 30), .inl 0, .inl 2, .inl 0, .inl sd] h (pV P) := by
  refine Cl.of (L := [some (.inr (.inr 30)), some (.inl 0), some (.inl 2), some (.inl 0), some (.inl sd), none, none, none]) (by decide +kernel) (Nat.le_of_ble_eq_true rfl) rfl ?_
  refine r_iconst dX5_bringToSide_0 ?_
  refine r_iload_n dX5_bringToSide_1 rfl rfl ?_
  refine r_isub dX5_bringToSide_2 ?_
  refine r_istore (L' := [_, _, _, _, _, _, _, _]) dX5_bringToSide_3 rfl (by decide) rfl ?_
  refine r_aload_n dX5_bringToSide_5 rfl rfl ?_
  refine r_getR dX5_bringToSide_6 fl_X5_35 sh_30 rfl ?_
  refine r_iload_n dX5_bringToSide_9 rfl rfl ?_
  refine r_iload_n dX5_bringToSide_10 rfl rfl ?_
  refine r_iadd dX5_bringToSide_11 ?_
  refine r_iald dX5_bringToSide_12 sh_31 (by decide) ⟨by decide, by decide⟩ ?_
  refine r_aload_n dX5_bringToSide_13 rfl rfl ?_
  refine r_getR dX5_bringToSide_14 fl_X5_35 sh_30 rfl ?_
  refine r_iload_n dX5_bringToSide_17 rfl rfl ?_
  refine r_iload_n dX5_bringToSide_18 rfl rfl ?_
  refine r_iadd dX5_bringToSide_19 ?_
  refine r_iald dX5_bringToSide_20 sh_31 (by decide) ⟨by decide, by decide⟩ ?_
  refine r_isub dX5_bringToSide_21 ?_
  refine r_istore (L' := [_, _, _, _, _, _, _, _]) dX5_bringToSide_22 rfl (by decide) rfl ?_
  refine r_iload dX5_bringToSide_24 rfl ?_
  refine r_if_ne (tgt := 30) dX5_bringToSide_26 rfl hb.1 (fun c_26 => ?_) (fun c_26 => absurd c_26 hz)
  refine r_aload_n dX5_bringToSide_30 rfl rfl ?_
  refine r_getR dX5_bringToSide_31 fl_X5_35 sh_30 rfl ?_
  refine r_iload_n dX5_bringToSide_34 rfl rfl ?_
  refine r_iload dX5_bringToSide_35 rfl ?_
  refine r_iadd dX5_bringToSide_37 ?_
  refine r_iald dX5_bringToSide_38 sh_31 (by decide) ⟨by decide, by decide⟩ ?_
  refine r_aload_n dX5_bringToSide_39 rfl rfl ?_
  refine r_getR dX5_bringToSide_40 fl_X5_35 sh_30 rfl ?_
  refine r_iload_n dX5_bringToSide_43 rfl rfl ?_
  refine r_iload dX5_bringToSide_44 rfl ?_
  refine r_iadd dX5_bringToSide_46 ?_
  refine r_iald dX5_bringToSide_47 sh_31 (by decide) ⟨by decide, by decide⟩ ?_
  refine r_isub dX5_bringToSide_48 ?_
  refine r_istore (L' := [_, _, _, _, _, _, _, _]) dX5_bringToSide_49 rfl (by decide) rfl ?_
  refine r_aload_n dX5_bringToSide_51 rfl rfl ?_
  refine r_getR dX5_bringToSide_52 fl_X5_35 sh_30 rfl ?_
  refine r_iload_n dX5_bringToSide_55 rfl rfl ?_
  refine r_iload dX5_bringToSide_56 rfl ?_
  refine r_iadd dX5_bringToSide_58 ?_
  refine r_dup2 dX5_bringToSide_59 ?_
  refine r_iald dX5_bringToSide_60 sh_31 (by decide) ⟨by decide, by decide⟩ ?_
  refine r_iload dX5_bringToSide_61 rfl ?_
  refine r_iload dX5_bringToSide_63 rfl ?_
  refine r_aload_n dX5_bringToSide_65 rfl rfl ?_
  refine r_getR dX5_bringToSide_66 fl_X5_35 sh_30 rfl ?_
  refine r_iload_n dX5_bringToSide_69 rfl rfl ?_
  refine r_iload_n dX5_bringToSide_70 rfl rfl ?_
  refine r_iadd dX5_bringToSide_71 ?_
  refine r_iald dX5_bringToSide_72 sh_31 (by decide) ⟨by decide, by decide⟩ ?_
  refine r_isub dX5_bringToSide_73 ?_
  refine r_imul dX5_bringToSide_74 ?_
  refine r_iload dX5_bringToSide_75 rfl ?_
  refine r_idiv dX5_bringToSide_77 hb.2 hb.1 hz ?_
  refine r_iadd dX5_bringToSide_78 ?_
  refine r_iast dX5_bringToSide_79 sh_31 (by decide) ⟨by decide, by decide⟩ ?_
  refine r_aload_n dX5_bringToSide_80 rfl rfl ?_
  refine r_getR dX5_bringToSide_81 fl_X5_35 sh_30 rfl ?_
  refine r_iload_n dX5_bringToSide_84 rfl rfl ?_
  refine r_iload_n dX5_bringToSide_85 rfl rfl ?_
  refine r_iadd dX5_bringToSide_86 ?_
  refine r_iload dX5_bringToSide_87 rfl ?_
  refine r_iast dX5_bringToSide_89 sh_31 (by decide) ⟨by decide, by decide⟩ ?_
  refine r_vret dX5_bringToSide_90 rfl ?_
  exact ⟨rfl, k⟩
set_option maxRecDepth 20000 in
set_option maxHeartbeats 400000 in
theorem sp_bring_0_1 {d : Nat} (hd : 1 ≤ d) {sd : Int} {h : Hp}  (hz : (h 31 3) - (h 31 1) ≠ 0) (hb : R32 ((h 31 3) - (h 31 1)) ∧ R32 (((h 31 2) - (h 31 0)) * (sd - (h 31 1)))) {P : Hp → Prop} (k : P (upH (upH h 31 0 ((h 31 0) + (((h 31 2) - (h 31 0)) * (sd - (h 31 1))).tdiv ((h 31 3) - (h 31 1)))) 31 1 sd)) : Cl d mX5_bringToSide [.inr (.inr 30), .inl 0, .inl 2, .inl 1, .inl sd] h (pV P) := by
  refine Cl.of (L := [some (.inr (.inr 30)), some (.inl 0), some (.inl 2), some (.inl 1), some (.inl sd), none, none, none]) (by decide +kernel) (Nat.le_of_ble_eq_true rfl) rfl ?_
  refine r_iconst dX5_bringToSide_0 ?_
  refine r_iload_n dX5_bringToSide_1 rfl rfl ?_
  refine r_isub dX5_bringToSide_2 ?_
  refine r_istore (L' := [_, _, _, _, _, _, _, _]) dX5_bringToSide_3 rfl (by decide) rfl ?_
  refine r_aload_n dX5_bringToSide_5 rfl rfl ?_
  refine r_getR dX5_bringToSide_6 fl_X5_35 sh_30 rfl ?_
  refine r_iload_n dX5_bringToSide_9 rfl rfl ?_
  refine r_iload_n dX5_bringToSide_10 rfl rfl ?_
  refine r_iadd dX5_bringToSide_11 ?_
  refine r_iald dX5_bringToSide_12 sh_31 (by decide) ⟨by decide, by decide⟩ ?_
  refine r_aload_n dX5_bringToSide_13 rfl rfl ?_
  refine r_getR dX5_bringToSide_14 fl_X5_35 sh_30 rfl ?_
  refine r_iload_n dX5_bringToSide_17 rfl rfl ?_
  refine r_iload_n dX5_bringToSide_18 rfl rfl ?_
  refine r_iadd dX5_bringToSide_19 ?_
  refine r_iald dX5_bringToSide_20 sh_31 (by decide) ⟨by decide, by decide⟩ ?_
  refine r_isub dX5_bringToSide_21 ?_
  refine r_istore (L' := [_, _, _, _, _, _, _, _]) dX5_bringToSide_22 rfl (by decide) rfl ?_
  refine r_iload dX5_bringToSide_24 rfl ?_
  refine r_if_ne (tgt := 30) dX5_bringToSide_26 rfl hb.1 (fun c_26 => ?_) (fun c_26 => absurd c_26 hz)
  refine r_aload_n dX5_bringToSide_30 rfl rfl ?_
  refine r_getR dX5_bringToSide_31 fl_X5_35 sh_30 rfl ?_
  refine r_iload_n dX5_bringToSide_34 rfl rfl ?_
  refine r_iload dX5_bringToSide_35 rfl ?_
  refine r_iadd dX5_bringToSide_37 ?_
  refine r_iald dX5_bringToSide_38 sh_31 (by decide) ⟨by decide, by decide⟩ ?_
  refine r_aload_n dX5_bringToSide_39 rfl rfl ?_
  refine r_getR dX5_bringToSide_40 fl_X5_35 sh_30 rfl ?_
  refine r_iload_n dX5_bringToSide_43 rfl rfl ?_
  refine r_iload dX5_bringToSide_44 rfl ?_
  refine r_iadd dX5_bringToSide_46 ?_
  refine r_iald dX5_bringToSide_47 sh_31 (by decide) ⟨by decide, by decide⟩ ?_
  refine r_isub dX5_bringToSide_48 ?_
  refine r_istore (L' := [_, _, _, _, _, _, _, _]) dX5_bringToSide_49 rfl (by decide) rfl ?_
  refine r_aload_n dX5_bringToSide_51 rfl rfl ?_
  refine r_getR dX5_bringToSide_52 fl_X5_35 sh_30 rfl ?_
  refine r_iload_n dX5_bringToSide_55 rfl rfl ?_
  refine r_iload dX5_bringToSide_56 rfl ?_
  refine r_iadd dX5_bringToSide_58 ?_
  refine r_dup2 dX5_bringToSide_59 ?_
  refine r_iald dX5_bringToSide_60 sh_31 (by decide) ⟨by decide, by decide⟩ ?_
  refine r_iload dX5_bringToSide_61 rfl ?_
  refine r_iload dX5_bringToSide_63 rfl ?_
  refine r_aload_n dX5_bringToSide_65 rfl rfl ?_
  refine r_getR dX5_bringToSide_66 fl_X5_35 sh_30 rfl ?_
  refine r_iload_n dX5_bringToSide_69 rfl rfl ?_
  refine r_iload_n dX5_bringToSide_70 rfl rfl ?_
  refine r_iadd dX5_bringToSide_71 ?_
  refine r_iald dX5_bringToSide_72 sh_31 (by decide) ⟨by decide, by decide⟩ ?_
  refine r_isub dX5_bringToSide_73 ?_
  refine r_imul dX5_bringToSide_74 ?_
  refine r_iload dX5_bringToSide_75 rfl ?_
  refine r_idiv dX5_bringToSide_77 hb.2 hb.1 hz ?_
  refine r_iadd dX5_bringToSide_78 ?_
  refine r_iast dX5_bringToSide_79 sh_31 (by decide) ⟨by decide, by decide⟩ ?_
  refine r_aload_n dX5_bringToSide_80 rfl rfl ?_
  refine r_getR dX5_bringToSide_81 fl_X5_35 sh_30 rfl ?_
  refine r_iload_n dX5_bringToSide_84 rfl rfl ?_
  refine r_iload_n dX5_bringToSide_85 rfl rfl ?_
  refine r_iadd dX5_bringToSide_86 ?_
  refine r_iload dX5_bringToSide_87 rfl ?_
  refine r_iast dX5_bringToSide_89 sh_31 (by decide) ⟨by decide, by decide⟩ ?_
  refine r_vret dX5_bringToSide_90 rfl ?_
  exact ⟨rfl, k⟩
set_option maxRecDepth 20000 in
set_option maxHeartbeats 400000 in
theorem sp_bring_2_0 {d : Nat} (hd : 1 ≤ d) {sd : Int} {h : Hp}  (hz : (h 31 0) - (h 31 2) ≠ 0) (hb : R32 ((h 31 0) - (h 31 2)) ∧ R32 (((h 31 1) - (h 31 3)) * (sd - (h 31 2)))) {P : Hp → Prop} (k : P (upH (upH h 31 3 ((h 31 3) + (((h 31 1) - (h 31 3)) * (sd - (h 31 2))).tdiv ((h 31 0) - (h 31 2)))) 31 2 sd)) : Cl d mX5_bringToSide [.inr (.inr 30), .inl 2, .inl 0, .inl 0, .inl sd] h (pV P) := by
  refine Cl.of (L := [some (.inr (.inr 30)), some (.inl 2), some (.inl 0), some (.inl 0), some (.inl sd), none, none, none]) (by decide +kernel) (Nat.le_of_ble_eq_true rfl) rfl ?_
  refine r_iconst dX5_bringToSide_0 ?_
  refine r_iload_n dX5_bringToSide_1 rfl rfl ?_
  refine r_isub dX5_bringToSide_2 ?_
  refine r_istore (L' := [_, _, _, _, _, _, _, _]) dX5_bringToSide_3 rfl (by decide) rfl ?_
  refine r_aload_n dX5_bringToSide_5 rfl rfl ?_
  refine r_getR dX5_bringToSide_6 fl_X5_35 sh_30 rfl ?_
  refine r_iload_n dX5_bringToSide_9 rfl rfl ?_
  refine r_iload_n dX5_bringToSide_10 rfl rfl ?_
  refine r_iadd dX5_bringToSide_11 ?_
  refine r_iald dX5_bringToSide_12 sh_31 (by decide) ⟨by decide, by decide⟩ ?_
  refine r_aload_n dX5_bringToSide_13 rfl rfl ?_
  refine r_getR dX5_bringToSide_14 fl_X5_35 sh_30 rfl ?_
  refine r_iload_n dX5_bringToSide_17 rfl rfl ?_
  refine r_iload_n dX5_bringToSide_18 rfl rfl ?_
  refine r_iadd dX5_bringToSide_19 ?_
  refine r_iald dX5_bringToSide_20 sh_31 (by decide) ⟨by decide, by decide⟩ ?_
  refine r_isub dX5_bringToSide_21 ?_
  refine r_istore (L' := [_, _, _, _, _, _, _, _]) dX5_bringToSide_22 rfl (by decide) rfl ?_
  refine r_iload dX5_bringToSide_24 rfl ?_
  refine r_if_ne (tgt := 30) dX5_bringToSide_26 rfl hb.1 (fun c_26 => ?_) (fun c_26 => absurd c_26 hz)
  refine r_aload_n dX5_bringToSide_30 rfl rfl ?_
  refine r_getR dX5_bringToSide_31 fl_X5_35 sh_30 rfl ?_
  refine r_iload_n dX5_bringToSide_34 rfl rfl ?_
  refine r_iload dX5_bringToSide_35 rfl ?_
  refine r_iadd dX5_bringToSide_37 ?_
  refine r_iald dX5_bringToSide_38 sh_31 (by decide) ⟨by decide, by decide⟩ ?_
  refine r_aload_n dX5_bringToSide_39 rfl rfl ?_
  refine r_getR dX5_bringToSide_40 fl_X5_35 sh_30 rfl ?_
  refine r_iload_n dX5_bringToSide_43 rfl rfl ?_
  refine r_iload dX5_bringToSide_44 rfl ?_
  refine r_iadd dX5_bringToSide_46 ?_
  refine r_iald dX5_bringToSide_47 sh_31 (by decide) ⟨by decide, by decide⟩ ?_
  refine r_isub dX5_bringToSide_48 ?_
  refine r_istore (L' := [_, _, _, _, _, _, _, _]) dX5_bringToSide_49 rfl (by decide) rfl ?_
  refine r_aload_n dX5_bringToSide_51 rfl rfl ?_
  refine r_getR dX5_bringToSide_52 fl_X5_35 sh_30 rfl ?_
  refine r_iload_n dX5_bringToSide_55 rfl rfl ?_
  refine r_iload dX5_bringToSide_56 rfl ?_
  refine r_iadd dX5_bringToSide_58 ?_
  refine r_dup2 dX5_bringToSide_59 ?_
  refine r_iald dX5_bringToSide_60 sh_31 (by decide) ⟨by decide, by decide⟩ ?_
  refine r_iload dX5_bringToSide_61 rfl ?_
  refine r_iload dX5_bringToSide_63 rfl ?_
  refine r_aload_n dX5_bringToSide_65 rfl rfl ?_
  refine r_getR dX5_bringToSide_66 fl_X5_35 sh_30 rfl ?_
  refine r_iload_n dX5_bringToSide_69 rfl rfl ?_
  refine r_iload_n dX5_bringToSide_70 rfl rfl ?_
  refine r_iadd dX5_bringToSide_71 ?_
  refine r_iald dX5_bringToSide_72 sh_31 (by decide) ⟨by decide, by decide⟩ ?_
  refine r_isub dX5_bringToSide_73 ?_
  refine r_imul dX5_bringToSide_74 ?_
  refine r_iload dX5_bringToSide_75 rfl ?_
  refine r_idiv dX5_bringToSide_77 hb.2 hb.1 hz ?_
  refine r_iadd dX5_bringToSide_78 ?_
  refine r_iast dX5_bringToSide_79 sh_31 (by decide) ⟨by decide, by decide⟩ ?_
  refine r_aload_n dX5_bringToSide_80 rfl rfl ?_
  refine r_getR dX5_bringToSide_81 fl_X5_35 sh_30 rfl ?_
  refine r_iload_n dX5_bringToSide_84 rfl rfl ?_
  refine r_iload_n dX5_bringToSide_85 rfl rfl ?_
  refine r_iadd dX5_bringToSide_86 ?_
  refine r_iload dX5_bringToSide_87 rfl ?_
  refine r_iast dX5_bringToSide_89 sh_31 (by decide) ⟨by decide, by decide⟩ ?_
  refine r_vret dX5_bringToSide_90 rfl ?_
  exact ⟨rfl, k⟩
set_option maxRecDepth 20000 in
set_option maxHeartbeats 400000 in
theorem sp_bring_2_1 {d : Nat} (hd : 1 ≤ d) {sd : Int} {h : Hp}  (hz : (h 31 1) - (h 31 3) ≠ 0) (hb : R32 ((h 31 1) - (h 31 3)) ∧ R32 (((h 31 0) - (h 31 2)) * (sd - (h 31 3)))) {P : Hp → Prop} (k : P (upH (upH h 31 2 ((h 31 2) + (((h 31 0) - (h 31 2)) * (sd - (h 31 3))).tdiv ((h 31 1) - (h 31 3)))) 31 3 sd)) : Cl d mX5_bringToSide [.inr (.inr 30), .inl 2, .inl 0, .inl 1, .inl sd] h (pV P) := by
  refine Cl.of (L := [some (.inr (.inr 30)), some (.inl 2), some (.inl 0), some (.inl 1), some (.inl sd), none, none, none]) (by decide +kernel) (Nat.le_of_ble_eq_true rfl) rfl ?_
  refine r_iconst dX5_bringToSide_0 ?_
  refine r_iload_n dX5_bringToSide_1 rfl rfl ?_
  refine r_isub dX5_bringToSide_2 ?_
  refine r_istore (L' := [_, _, _, _, _, _, _, _]) dX5_bringToSide_3 rfl (by decide) rfl ?_
  refine r_aload_n dX5_bringToSide_5 rfl rfl ?_
  refine r_getR dX5_bringToSide_6 fl_X5_35 sh_30 rfl ?_
  refine r_iload_n dX5_bringToSide_9 rfl rfl ?_
  refine r_iload_n dX5_bringToSide_10 rfl rfl ?_
  refine r_iadd dX5_bringToSide_11 ?_
  refine r_iald dX5_bringToSide_12 sh_31 (by decide) ⟨by decide, by decide⟩ ?_
  refine r_aload_n dX5_bringToSide_13 rfl rfl ?_
  refine r_getR dX5_bringToSide_14 fl_X5_35 sh_30 rfl ?_
  refine r_iload_n dX5_bringToSide_17 rfl rfl ?_
  refine r_iload_n dX5_bringToSide_18 rfl rfl ?_
  refine r_iadd dX5_bringToSide_19 ?_
  refine r_iald dX5_bringToSide_20 sh_31 (by decide) ⟨by decide, by decide⟩ ?_
  refine r_isub dX5_bringToSide_21 ?_
  refine r_istore (L' := [_, _, _, _, _, _, _, _]) dX5_bringToSide_22 rfl (by decide) rfl ?_
  refine r_iload dX5_bringToSide_24 rfl ?_
  refine r_if_ne (tgt := 30) dX5_bringToSide_26 rfl hb.1 (fun c_26 => ?_) (fun c_26 => absurd c_26 hz)
  refine r_aload_n dX5_bringToSide_30 rfl rfl ?_
  refine r_getR dX5_bringToSide_31 fl_X5_35 sh_30 rfl ?_
  refine r_iload_n dX5_bringToSide_34 rfl rfl ?_
  refine r_iload dX5_bringToSide_35 rfl ?_
  refine r_iadd dX5_bringToSide_37 ?_
  refine r_iald dX5_bringToSide_38 sh_31 (by decide) ⟨by decide, by decide⟩ ?_
  refine r_aload_n dX5_bringToSide_39 rfl rfl ?_
  refine r_getR dX5_bringToSide_40 fl_X5_35 sh_30 rfl ?_
  refine r_iload_n dX5_bringToSide_43 rfl rfl ?_
  refine r_iload dX5_bringToSide_44 rfl ?_
  refine r_iadd dX5_bringToSide_46 ?_
  refine r_iald dX5_bringToSide_47 sh_31 (by decide) ⟨by decide, by decide⟩ ?_
  refine r_isub dX5_bringToSide_48 ?_
  refine r_istore (L' := [_, _, _, _, _, _, _, _]) dX5_bringToSide_49 rfl (by decide) rfl ?_
  refine r_aload_n dX5_bringToSide_51 rfl rfl ?_
  refine r_getR dX5_bringToSide_52 fl_X5_35 sh_30 rfl ?_
  refine r_iload_n dX5_bringToSide_55 rfl rfl ?_
  refine r_iload dX5_bringToSide_56 rfl ?_
  refine r_iadd dX5_bringToSide_58 ?_
  refine r_dup2 dX5_bringToSide_59 ?_
  refine r_iald dX5_bringToSide_60 sh_31 (by decide) ⟨by decide, by decide⟩ ?_
  refine r_iload dX5_bringToSide_61 rfl ?_
  refine r_iload dX5_bringToSide_63 rfl ?_
  refine r_aload_n dX5_bringToSide_65 rfl rfl ?_
  refine r_getR dX5_bringToSide_66 fl_X5_35 sh_30 rfl ?_
  refine r_iload_n dX5_bringToSide_69 rfl rfl ?_
  refine r_iload_n dX5_bringToSide_70 rfl rfl ?_
  refine r_iadd dX5_bringToSide_71 ?_
  refine r_iald dX5_bringToSide_72 sh_31 (by decide) ⟨by decide, by decide⟩ ?_
  refine r_isub dX5_bringToSide_73 ?_
  refine r_imul dX5_bringToSide_74 ?_
  refine r_iload dX5_bringToSide_75 rfl ?_
  refine r_idiv dX5_bringToSide_77 hb.2 hb.1 hz ?_
  refine r_iadd dX5_bringToSide_78 ?_
  refine r_iast dX5_bringToSide_79 sh_31 (by decide) ⟨by decide, by decide⟩ ?_
  refine r_aload_n dX5_bringToSide_80 rfl rfl ?_
  refine r_getR dX5_bringToSide_81 fl_X5_35 sh_30 rfl ?_
  refine r_iload_n dX5_bringToSide_84 rfl rfl ?_
  refine r_iload_n dX5_bringToSide_85 rfl rfl ?_
  refine r_iadd dX5_bringToSide_86 ?_
  refine r_iload dX5_bringToSide_87 rfl ?_
  refine r_iast dX5_bringToSide_89 sh_31 (by decide) ⟨by decide, by decide⟩ ?_
  refine r_vret dX5_bringToSide_90 rfl ?_
  exact ⟨rfl, k⟩
set_option maxRecDepth 20000 in
set_option maxHeartbeats 400000 in
theorem sp_cut_0_l {d : Nat} (hd : 2 ≤ d) {sd : Int} {h : Hp}  (hb : LnB (h 31 0) (h 31 1) (h 31 2) (h 31 3)) (hs : -2000 ≤ sd ∧ sd ≤ 2000) {P : Int → Hp → Prop} (k0 : (cuN 1 sd (h 31 0) (h 31 2)) → P (0) h) (k1 : ∀ h' : Hp, (∀ a k, a ≠ 31 → h' a k = h a k) → (h' 31 0 = cuA 1 sd (h 31 0) ∧ h' 31 2 = cuA 1 sd (h 31 2) ∧ h' 31 1 = cuB 1 sd (h 31 0) (h 31 2) (h 31 1) (h 31 3) ∧ h' 31 3 = cuB 1 sd (h 31 2) (h 31 0) (h 31 3) (h 31 1)) → (¬ cuN 1 sd (h 31 0) (h 31 2)) → P (1) h') : Cl d mX5_cut [.inr (.inr 30), .inl 0, .inl sd, .inl 1] h (pI P) := by
  refine Cl.of (L := [some (.inr (.inr 30)), some (.inl 0), some (.inl sd), some (.inl 1), none, none]) (by decide +kernel) (Nat.le_of_ble_eq_true rfl) rfl ?_
  obtain ⟨d, rfl⟩ : ∃ q, d = q + 1 := ⟨d - 1, by omega⟩
  have LnBr : LnB (h 31 2) (h 31 3) (h 31 0) (h 31 1) := by omega
  refine r_aload_n dX5_cut_0 rfl rfl ?_
  refine r_getR dX5_cut_1 fl_X5_35 sh_30 rfl ?_
  refine r_iload_n dX5_cut_4 rfl rfl ?_
  refine r_iald dX5_cut_5 sh_31 (by decide) ⟨by decide, by decide⟩ ?_
  refine r_eqI (y := h 31 0) rfl ?_
  refine r_iload_n dX5_cut_6 rfl rfl ?_
  refine r_isub dX5_cut_7 ?_
  refine r_iload_n dX5_cut_8 rfl rfl ?_
  refine r_imul dX5_cut_9 ?_
  refine r_if_ge (tgt := 17) dX5_cut_10 rfl (by omega) (fun c_10 => ?_) (fun c_10 => ?_)
  · refine r_iconst dX5_cut_17 ?_
    refine r_istore (L' := [_, _, _, _, _, _]) dX5_cut_18 rfl (by decide) rfl ?_
    refine r_aload_n dX5_cut_20 rfl rfl ?_
    refine r_getR dX5_cut_21 fl_X5_35 sh_30 rfl ?_
    refine r_iload_n dX5_cut_24 rfl rfl ?_
    refine r_iconst dX5_cut_25 ?_
    refine r_iadd dX5_cut_26 ?_
    refine r_iald dX5_cut_27 sh_31 (by decide) ⟨by decide, by decide⟩ ?_
    refine r_eqI (y := h 31 2) rfl ?_
    refine r_iload_n dX5_cut_28 rfl rfl ?_
    refine r_isub dX5_cut_29 ?_
    refine r_iload_n dX5_cut_30 rfl rfl ?_
    refine r_imul dX5_cut_31 ?_
    refine r_if_ge (tgt := 39) dX5_cut_32 rfl (by omega) (fun c_32 => ?_) (fun c_32 => ?_)
    · refine r_iconst dX5_cut_39 ?_
      refine r_istore (L' := [_, _, _, _, _, _]) dX5_cut_40 rfl (by decide) rfl ?_
      refine r_iload dX5_cut_42 rfl ?_
      refine r_if_eq (tgt := 54) dX5_cut_44 rfl ⟨by decide, by decide⟩ (fun c_44 => ?_) (fun c_44 => absurd c_44 (by decide))
      refine r_iload dX5_cut_54 rfl ?_
      refine r_if_eq (tgt := 70) dX5_cut_56 rfl ⟨by decide, by decide⟩ (fun c_56 => ?_) (fun c_56 => absurd c_56 (by decide))
      refine r_iload dX5_cut_70 rfl ?_
      refine r_if_eq (tgt := 83) dX5_cut_72 rfl ⟨by decide, by decide⟩ (fun c_72 => ?_) (fun c_72 => absurd c_72 (by decide))
      refine r_iconst dX5_cut_83 ?_
      refine r_zret dX5_cut_84 rfl (.inr rfl) ?_
      have c1 : ¬ ((h 31 0) - sd) * 1 < 0 := by omega
      have c2 : ¬ ((h 31 2) - sd) * 1 < 0 := by omega
      refine ⟨_, rfl, k1 _ (fun a k z => ?_) ⟨?_, ?_, ?_, ?_⟩ (fun z => c1 z.1)⟩
      · rfl
      · unfold cuA
        rw [if_neg c1]
      · unfold cuA
        rw [if_neg c2]
      · unfold cuB
        rw [if_neg c1]
      · unfold cuB
        rw [if_neg c2]
    · refine r_iconst dX5_cut_35 ?_
      refine r_goto (tgt := 40) dX5_cut_36 rfl ?_
      refine r_istore (L' := [_, _, _, _, _, _]) dX5_cut_40 rfl (by decide) rfl ?_
      refine r_iload dX5_cut_42 rfl ?_
      refine r_if_eq (tgt := 54) dX5_cut_44 rfl ⟨by decide, by decide⟩ (fun c_44 => ?_) (fun c_44 => absurd c_44 (by decide))
      refine r_iload dX5_cut_54 rfl ?_
      refine r_if_eq (tgt := 70) dX5_cut_56 rfl ⟨by decide, by decide⟩ (fun c_56 => ?_) (fun c_56 => absurd c_56 (by decide))
      refine r_iload dX5_cut_70 rfl ?_
      refine r_if_eq (tgt := 83) dX5_cut_72 rfl ⟨by decide, by decide⟩ (fun c_72 => absurd c_72 (by decide)) (fun c_72 => ?_)
      have c1 : ¬ ((h 31 0) - sd) * 1 < 0 := by omega
      have c2 : ((h 31 2) - sd) * 1 < 0 := by omega
      have cm := cu_m LnBr (Or.inl rfl) c2 c1
      refine r_aload_n dX5_cut_75 rfl rfl ?_
      refine r_iconst dX5_cut_76 ?_
      refine r_iconst dX5_cut_77 ?_
      refine r_iload_n dX5_cut_78 rfl rfl ?_
      refine r_iload_n dX5_cut_79 rfl rfl ?_
      refine r_callVU (av := [_, _, _, _]) (M' := mX5_bringToSide) dX5_cut_80 vX5_bringToSide ml_X5_141 sh_30 (by decide) rfl rfl rfl rfl (by simp [wtA]) (sp_bring_2_0 (by omega) cm.1 ⟨by omega, by omega⟩ ?_)
      refine r_iconst dX5_cut_83 ?_
      refine r_zret dX5_cut_84 rfl (.inr rfl) ?_
      have c1 : ¬ ((h 31 0) - sd) * 1 < 0 := by omega
      have c2 : ((h 31 2) - sd) * 1 < 0 := by omega
      refine ⟨_, rfl, k1 _ (fun a k z => ?_) ⟨?_, ?_, ?_, ?_⟩ (fun z => c1 z.1)⟩
      · rw [up_nc z, up_nc z]
      · unfold cuA
        rw [if_neg c1]
        rfl
      · unfold cuA
        rw [if_pos c2]
        rfl
      · unfold cuB
        rw [if_neg c1]
        rfl
      · unfold cuB
        rw [if_pos c2]
        rfl
  · refine r_iconst dX5_cut_13 ?_
    refine r_goto (tgt := 18) dX5_cut_14 rfl ?_
    refine r_istore (L' := [_, _, _, _, _, _]) dX5_cut_18 rfl (by decide) rfl ?_
    refine r_aload_n dX5_cut_20 rfl rfl ?_
    refine r_getR dX5_cut_21 fl_X5_35 sh_30 rfl ?_
    refine r_iload_n dX5_cut_24 rfl rfl ?_
    refine r_iconst dX5_cut_25 ?_
    refine r_iadd dX5_cut_26 ?_
    refine r_iald dX5_cut_27 sh_31 (by decide) ⟨by decide, by decide⟩ ?_
    refine r_eqI (y := h 31 2) rfl ?_
    refine r_iload_n dX5_cut_28 rfl rfl ?_
    refine r_isub dX5_cut_29 ?_
    refine r_iload_n dX5_cut_30 rfl rfl ?_
    refine r_imul dX5_cut_31 ?_
    refine r_if_ge (tgt := 39) dX5_cut_32 rfl (by omega) (fun c_32 => ?_) (fun c_32 => ?_)
    · refine r_iconst dX5_cut_39 ?_
      refine r_istore (L' := [_, _, _, _, _, _]) dX5_cut_40 rfl (by decide) rfl ?_
      refine r_iload dX5_cut_42 rfl ?_
      refine r_if_eq (tgt := 54) dX5_cut_44 rfl ⟨by decide, by decide⟩ (fun c_44 => absurd c_44 (by decide)) (fun c_44 => ?_)
      refine r_iload dX5_cut_47 rfl ?_
      refine r_if_eq (tgt := 54) dX5_cut_49 rfl ⟨by decide, by decide⟩ (fun c_49 => ?_) (fun c_49 => absurd c_49 (by decide))
      refine r_iload dX5_cut_54 rfl ?_
      refine r_if_eq (tgt := 70) dX5_cut_56 rfl ⟨by decide, by decide⟩ (fun c_56 => absurd c_56 (by decide)) (fun c_56 => ?_)
      have c1 : ((h 31 0) - sd) * 1 < 0 := by omega
      have c2 : ¬ ((h 31 2) - sd) * 1 < 0 := by omega
      have cm := cu_m hb (Or.inl rfl) c1 c2
      refine r_aload_n dX5_cut_59 rfl rfl ?_
      refine r_iconst dX5_cut_60 ?_
      refine r_iconst dX5_cut_61 ?_
      refine r_iload_n dX5_cut_62 rfl rfl ?_
      refine r_iload_n dX5_cut_63 rfl rfl ?_
      refine r_callVU (av := [_, _, _, _]) (M' := mX5_bringToSide) dX5_cut_64 vX5_bringToSide ml_X5_141 sh_30 (by decide) rfl rfl rfl rfl (by simp [wtA]) (sp_bring_0_0 (by omega) cm.1 ⟨by omega, by omega⟩ ?_)
      refine r_goto (tgt := 83) dX5_cut_67 rfl ?_
      refine r_iconst dX5_cut_83 ?_
      refine r_zret dX5_cut_84 rfl (.inr rfl) ?_
      have c1 : ((h 31 0) - sd) * 1 < 0 := by omega
      have c2 : ¬ ((h 31 2) - sd) * 1 < 0 := by omega
      refine ⟨_, rfl, k1 _ (fun a k z => ?_) ⟨?_, ?_, ?_, ?_⟩ (fun z => c2 z.2)⟩
      · rw [up_nc z, up_nc z]
      · unfold cuA
        rw [if_pos c1]
        rfl
      · unfold cuA
        rw [if_neg c2]
        rfl
      · unfold cuB
        rw [if_pos c1]
        rfl
      · unfold cuB
        rw [if_neg c2]
        rfl
    · refine r_iconst dX5_cut_35 ?_
      refine r_goto (tgt := 40) dX5_cut_36 rfl ?_
      refine r_istore (L' := [_, _, _, _, _, _]) dX5_cut_40 rfl (by decide) rfl ?_
      refine r_iload dX5_cut_42 rfl ?_
      refine r_if_eq (tgt := 54) dX5_cut_44 rfl ⟨by decide, by decide⟩ (fun c_44 => absurd c_44 (by decide)) (fun c_44 => ?_)
      refine r_iload dX5_cut_47 rfl ?_
      refine r_if_eq (tgt := 54) dX5_cut_49 rfl ⟨by decide, by decide⟩ (fun c_49 => absurd c_49 (by decide)) (fun c_49 => ?_)
      refine r_iconst dX5_cut_52 ?_
      refine r_zret dX5_cut_53 rfl (.inl rfl) ?_
      exact ⟨_, rfl, k0 ⟨by omega, by omega⟩⟩
set_option maxRecDepth 20000 in
set_option maxHeartbeats 400000 in
theorem sp_cut_0_h {d : Nat} (hd : 2 ≤ d) {sd : Int} {h : Hp}  (hb : LnB (h 31 0) (h 31 1) (h 31 2) (h 31 3)) (hs : -2000 ≤ sd ∧ sd ≤ 2000) {P : Int → Hp → Prop} (k0 : (cuN (-1) sd (h 31 0) (h 31 2)) → P (0) h) (k1 : ∀ h' : Hp, (∀ a k, a ≠ 31 → h' a k = h a k) → (h' 31 0 = cuA (-1) sd (h 31 0) ∧ h' 31 2 = cuA (-1) sd (h 31 2) ∧ h' 31 1 = cuB (-1) sd (h 31 0) (h 31 2) (h 31 1) (h 31 3) ∧ h' 31 3 = cuB (-1) sd (h 31 2) (h 31 0) (h 31 3) (h 31 1)) → (¬ cuN (-1) sd (h 31 0) (h 31 2)) → P (1) h') : Cl d mX5_cut [.inr (.inr 30), .inl 0, .inl sd, .inl (-1)] h (pI P) := by
  refine Cl.of (L := [some (.inr (.inr 30)), some (.inl 0), some (.inl sd), some (.inl (-1)), none, none]) (by decide +kernel) (Nat.le_of_ble_eq_true rfl) rfl ?_
  obtain ⟨d, rfl⟩ : ∃ q, d = q + 1 := ⟨d - 1, by omega⟩
  have LnBr : LnB (h 31 2) (h 31 3) (h 31 0) (h 31 1) := by omega
  refine r_aload_n dX5_cut_0 rfl rfl ?_
  refine r_getR dX5_cut_1 fl_X5_35 sh_30 rfl ?_
  refine r_iload_n dX5_cut_4 rfl rfl ?_
  refine r_iald dX5_cut_5 sh_31 (by decide) ⟨by decide, by decide⟩ ?_
  refine r_eqI (y := h 31 0) rfl ?_
  refine r_iload_n dX5_cut_6 rfl rfl ?_
  refine r_isub dX5_cut_7 ?_
  refine r_iload_n dX5_cut_8 rfl rfl ?_
  refine r_imul dX5_cut_9 ?_
  refine r_if_ge (tgt := 17) dX5_cut_10 rfl (by omega) (fun c_10 => ?_) (fun c_10 => ?_)
  · refine r_iconst dX5_cut_17 ?_
    refine r_istore (L' := [_, _, _, _, _, _]) dX5_cut_18 rfl (by decide) rfl ?_
    refine r_aload_n dX5_cut_20 rfl rfl ?_
    refine r_getR dX5_cut_21 fl_X5_35 sh_30 rfl ?_
    refine r_iload_n dX5_cut_24 rfl rfl ?_
    refine r_iconst dX5_cut_25 ?_
    refine r_iadd dX5_cut_26 ?_
    refine r_iald dX5_cut_27 sh_31 (by decide) ⟨by decide, by decide⟩ ?_
    refine r_eqI (y := h 31 2) rfl ?_
    refine r_iload_n dX5_cut_28 rfl rfl ?_
    refine r_isub dX5_cut_29 ?_
    refine r_iload_n dX5_cut_30 rfl rfl ?_
    refine r_imul dX5_cut_31 ?_
    refine r_if_ge (tgt := 39) dX5_cut_32 rfl (by omega) (fun c_32 => ?_) (fun c_32 => ?_)
    · refine r_iconst dX5_cut_39 ?_
      refine r_istore (L' := [_, _, _, _, _, _]) dX5_cut_40 rfl (by decide) rfl ?_
      refine r_iload dX5_cut_42 rfl ?_
      refine r_if_eq (tgt := 54) dX5_cut_44 rfl ⟨by decide, by decide⟩ (fun c_44 => ?_) (fun c_44 => absurd c_44 (by decide))
      refine r_iload dX5_cut_54 rfl ?_
      refine r_if_eq (tgt := 70) dX5_cut_56 rfl ⟨by decide, by decide⟩ (fun c_56 => ?_) (fun c_56 => absurd c_56 (by decide))
      refine r_iload dX5_cut_70 rfl ?_
      refine r_if_eq (tgt := 83) dX5_cut_72 rfl ⟨by decide, by decide⟩ (fun c_72 => ?_) (fun c_72 => absurd c_72 (by decide))
      refine r_iconst dX5_cut_83 ?_
      refine r_zret dX5_cut_84 rfl (.inr rfl) ?_
      have c1 : ¬ ((h 31 0) - sd) * (-1) < 0 := by omega
      have c2 : ¬ ((h 31 2) - sd) * (-1) < 0 := by omega
      refine ⟨_, rfl, k1 _ (fun a k z => ?_) ⟨?_, ?_, ?_, ?_⟩ (fun z => c1 z.1)⟩
      · rfl
      · unfold cuA
        rw [if_neg c1]
      · unfold cuA
        rw [if_neg c2]
      · unfold cuB
        rw [if_neg c1]
      · unfold cuB
        rw [if_neg c2]
    · refine r_iconst dX5_cut_35 ?_
      refine r_goto (tgt := 40) dX5_cut_36 rfl ?_
      refine r_istore (L' := [_, _, _, _, _, _]) dX5_cut_40 rfl (by decide) rfl ?_
      refine r_iload dX5_cut_42 rfl ?_
      refine r_if_eq (tgt := 54) dX5_cut_44 rfl ⟨by decide, by decide⟩ (fun c_44 => ?_) (fun c_44 => absurd c_44 (by decide))
      refine r_iload dX5_cut_54 rfl ?_
      refine r_if_eq (tgt := 70) dX5_cut_56 rfl ⟨by decide, by decide⟩ (fun c_56 => ?_) (fun c_56 => absurd c_56 (by decide))
      refine r_iload dX5_cut_70 rfl ?_
      refine r_if_eq (tgt := 83) dX5_cut_72 rfl ⟨by decide, by decide⟩ (fun c_72 => absurd c_72 (by decide)) (fun c_72 => ?_)
      have c1 : ¬ ((h 31 0) - sd) * (-1) < 0 := by omega
      have c2 : ((h 31 2) - sd) * (-1) < 0 := by omega
      have cm := cu_m LnBr (Or.inr rfl) c2 c1
      refine r_aload_n dX5_cut_75 rfl rfl ?_
      refine r_iconst dX5_cut_76 ?_
      refine r_iconst dX5_cut_77 ?_
      refine r_iload_n dX5_cut_78 rfl rfl ?_
      refine r_iload_n dX5_cut_79 rfl rfl ?_
      refine r_callVU (av := [_, _, _, _]) (M' := mX5_bringToSide) dX5_cut_80 vX5_bringToSide ml_X5_141 sh_30 (by decide) rfl rfl rfl rfl (by simp [wtA]) (sp_bring_2_0 (by omega) cm.1 ⟨by omega, by omega⟩ ?_)
      refine r_iconst dX5_cut_83 ?_
      refine r_zret dX5_cut_84 rfl (.inr rfl) ?_
      have c1 : ¬ ((h 31 0) - sd) * (-1) < 0 := by omega
      have c2 : ((h 31 2) - sd) * (-1) < 0 := by omega
      refine ⟨_, rfl, k1 _ (fun a k z => ?_) ⟨?_, ?_, ?_, ?_⟩ (fun z => c1 z.1)⟩
      · rw [up_nc z, up_nc z]
      · unfold cuA
        rw [if_neg c1]
        rfl
      · unfold cuA
        rw [if_pos c2]
        rfl
      · unfold cuB
        rw [if_neg c1]
        rfl
      · unfold cuB
        rw [if_pos c2]
        rfl
  · refine r_iconst dX5_cut_13 ?_
    refine r_goto (tgt := 18) dX5_cut_14 rfl ?_
    refine r_istore (L' := [_, _, _, _, _, _]) dX5_cut_18 rfl (by decide) rfl ?_
    refine r_aload_n dX5_cut_20 rfl rfl ?_
    refine r_getR dX5_cut_21 fl_X5_35 sh_30 rfl ?_
    refine r_iload_n dX5_cut_24 rfl rfl ?_
    refine r_iconst dX5_cut_25 ?_
    refine r_iadd dX5_cut_26 ?_
    refine r_iald dX5_cut_27 sh_31 (by decide) ⟨by decide, by decide⟩ ?_
    refine r_eqI (y := h 31 2) rfl ?_
    refine r_iload_n dX5_cut_28 rfl rfl ?_
    refine r_isub dX5_cut_29 ?_
    refine r_iload_n dX5_cut_30 rfl rfl ?_
    refine r_imul dX5_cut_31 ?_
    refine r_if_ge (tgt := 39) dX5_cut_32 rfl (by omega) (fun c_32 => ?_) (fun c_32 => ?_)
    · refine r_iconst dX5_cut_39 ?_
      refine r_istore (L' := [_, _, _, _, _, _]) dX5_cut_40 rfl (by decide) rfl ?_
      refine r_iload dX5_cut_42 rfl ?_
      refine r_if_eq (tgt := 54) dX5_cut_44 rfl ⟨by decide, by decide⟩ (fun c_44 => absurd c_44 (by decide)) (fun c_44 => ?_)
      refine r_iload dX5_cut_47 rfl ?_
      refine r_if_eq (tgt := 54) dX5_cut_49 rfl ⟨by decide, by decide⟩ (fun c_49 => ?_) (fun c_49 => absurd c_49 (by decide))
      refine r_iload dX5_cut_54 rfl ?_
      refine r_if_eq (tgt := 70) dX5_cut_56 rfl ⟨by decide, by decide⟩ (fun c_56 => absurd c_56 (by decide)) (fun c_56 => ?_)
      have c1 : ((h 31 0) - sd) * (-1) < 0 := by omega
      have c2 : ¬ ((h 31 2) - sd) * (-1) < 0 := by omega
      have cm := cu_m hb (Or.inr rfl) c1 c2
      refine r_aload_n dX5_cut_59 rfl rfl ?_
      refine r_iconst dX5_cut_60 ?_
      refine r_iconst dX5_cut_61 ?_
      refine r_iload_n dX5_cut_62 rfl rfl ?_
      refine r_iload_n dX5_cut_63 rfl rfl ?_
      refine r_callVU (av := [_, _, _, _]) (M' := mX5_bringToSide) dX5_cut_64 vX5_bringToSide ml_X5_141 sh_30 (by decide) rfl rfl rfl rfl (by simp [wtA]) (sp_bring_0_0 (by omega) cm.1 ⟨by omega, by omega⟩ ?_)
      refine r_goto (tgt := 83) dX5_cut_67 rfl ?_
      refine r_iconst dX5_cut_83 ?_
      refine r_zret dX5_cut_84 rfl (.inr rfl) ?_
      have c1 : ((h 31 0) - sd) * (-1) < 0 := by omega
      have c2 : ¬ ((h 31 2) - sd) * (-1) < 0 := by omega
      refine ⟨_, rfl, k1 _ (fun a k z => ?_) ⟨?_, ?_, ?_, ?_⟩ (fun z => c2 z.2)⟩
      · rw [up_nc z, up_nc z]
      · unfold cuA
        rw [if_pos c1]
        rfl
      · unfold cuA
        rw [if_neg c2]
        rfl
      · unfold cuB
        rw [if_pos c1]
        rfl
      · unfold cuB
        rw [if_neg c2]
        rfl
    · refine r_iconst dX5_cut_35 ?_
      refine r_goto (tgt := 40) dX5_cut_36 rfl ?_
      refine r_istore (L' := [_, _, _, _, _, _]) dX5_cut_40 rfl (by decide) rfl ?_
      refine r_iload dX5_cut_42 rfl ?_
      refine r_if_eq (tgt := 54) dX5_cut_44 rfl ⟨by decide, by decide⟩ (fun c_44 => absurd c_44 (by decide)) (fun c_44 => ?_)
      refine r_iload dX5_cut_47 rfl ?_
      refine r_if_eq (tgt := 54) dX5_cut_49 rfl ⟨by decide, by decide⟩ (fun c_49 => absurd c_49 (by decide)) (fun c_49 => ?_)
      refine r_iconst dX5_cut_52 ?_
      refine r_zret dX5_cut_53 rfl (.inl rfl) ?_
      exact ⟨_, rfl, k0 ⟨by omega, by omega⟩⟩
set_option maxRecDepth 20000 in
set_option maxHeartbeats 400000 in
theorem sp_cut_1_l {d : Nat} (hd : 2 ≤ d) {sd : Int} {h : Hp}  (hb : LnB (h 31 0) (h 31 1) (h 31 2) (h 31 3)) (hs : -2000 ≤ sd ∧ sd ≤ 2000) {P : Int → Hp → Prop} (k0 : (cuN 1 sd (h 31 1) (h 31 3)) → P (0) h) (k1 : ∀ h' : Hp, (∀ a k, a ≠ 31 → h' a k = h a k) → (h' 31 1 = cuA 1 sd (h 31 1) ∧ h' 31 3 = cuA 1 sd (h 31 3) ∧ h' 31 0 = cuB 1 sd (h 31 1) (h 31 3) (h 31 0) (h 31 2) ∧ h' 31 2 = cuB 1 sd (h 31 3) (h 31 1) (h 31 2) (h 31 0)) → (¬ cuN 1 sd (h 31 1) (h 31 3)) → P (1) h') : Cl d mX5_cut [.inr (.inr 30), .inl 1, .inl sd, .inl 1] h (pI P) := by
  refine Cl.of (L := [some (.inr (.inr 30)), some (.inl 1), some (.inl sd), some (.inl 1), none, none]) (by decide +kernel) (Nat.le_of_ble_eq_true rfl) rfl ?_
  obtain ⟨d, rfl⟩ : ∃ q, d = q + 1 := ⟨d - 1, by omega⟩
  have LnBr : LnB (h 31 3) (h 31 2) (h 31 1) (h 31 0) := by omega
  refine r_aload_n dX5_cut_0 rfl rfl ?_
  refine r_getR dX5_cut_1 fl_X5_35 sh_30 rfl ?_
  refine r_iload_n dX5_cut_4 rfl rfl ?_
  refine r_iald dX5_cut_5 sh_31 (by decide) ⟨by decide, by decide⟩ ?_
  refine r_eqI (y := h 31 1) rfl ?_
  refine r_iload_n dX5_cut_6 rfl rfl ?_
  refine r_isub dX5_cut_7 ?_
  refine r_iload_n dX5_cut_8 rfl rfl ?_
  refine r_imul dX5_cut_9 ?_
  refine r_if_ge (tgt := 17) dX5_cut_10 rfl (by omega) (fun c_10 => ?_) (fun c_10 => ?_)
  · refine r_iconst dX5_cut_17 ?_
    refine r_istore (L' := [_, _, _, _, _, _]) dX5_cut_18 rfl (by decide) rfl ?_
    refine r_aload_n dX5_cut_20 rfl rfl ?_
    refine r_getR dX5_cut_21 fl_X5_35 sh_30 rfl ?_
    refine r_iload_n dX5_cut_24 rfl rfl ?_
    refine r_iconst dX5_cut_25 ?_
    refine r_iadd dX5_cut_26 ?_
    refine r_iald dX5_cut_27 sh_31 (by decide) ⟨by decide, by decide⟩ ?_
    refine r_eqI (y := h 31 3) rfl ?_
    refine r_iload_n dX5_cut_28 rfl rfl ?_
    refine r_isub dX5_cut_29 ?_
    refine r_iload_n dX5_cut_30 rfl rfl ?_
    refine r_imul dX5_cut_31 ?_
    refine r_if_ge (tgt := 39) dX5_cut_32 rfl (by omega) (fun c_32 => ?_) (fun c_32 => ?_)
    · refine r_iconst dX5_cut_39 ?_
      refine r_istore (L' := [_, _, _, _, _, _]) dX5_cut_40 rfl (by decide) rfl ?_
      refine r_iload dX5_cut_42 rfl ?_
      refine r_if_eq (tgt := 54) dX5_cut_44 rfl ⟨by decide, by decide⟩ (fun c_44 => ?_) (fun c_44 => absurd c_44 (by decide))
      refine r_iload dX5_cut_54 rfl ?_
      refine r_if_eq (tgt := 70) dX5_cut_56 rfl ⟨by decide, by decide⟩ (fun c_56 => ?_) (fun c_56 => absurd c_56 (by decide))
      refine r_iload dX5_cut_70 rfl ?_
      refine r_if_eq (tgt := 83) dX5_cut_72 rfl ⟨by decide, by decide⟩ (fun c_72 => ?_) (fun c_72 => absurd c_72 (by decide))
      refine r_iconst dX5_cut_83 ?_
      refine r_zret dX5_cut_84 rfl (.inr rfl) ?_
      have c1 : ¬ ((h 31 1) - sd) * 1 < 0 := by omega
      have c2 : ¬ ((h 31 3) - sd) * 1 < 0 := by omega
      refine ⟨_, rfl, k1 _ (fun a k z => ?_) ⟨?_, ?_, ?_, ?_⟩ (fun z => c1 z.1)⟩
      · rfl
      · unfold cuA
        rw [if_neg c1]
      · unfold cuA
        rw [if_neg c2]
      · unfold cuB
        rw [if_neg c1]
      · unfold cuB
        rw [if_neg c2]
    · refine r_iconst dX5_cut_35 ?_
      refine r_goto (tgt := 40) dX5_cut_36 rfl ?_
      refine r_istore (L' := [_, _, _, _, _, _]) dX5_cut_40 rfl (by decide) rfl ?_
      refine r_iload dX5_cut_42 rfl ?_
      refine r_if_eq (tgt := 54) dX5_cut_44 rfl ⟨by decide, by decide⟩ (fun c_44 => ?_) (fun c_44 => absurd c_44 (by decide))
      refine r_iload dX5_cut_54 rfl ?_
      refine r_if_eq (tgt := 70) dX5_cut_56 rfl ⟨by decide, by decide⟩ (fun c_56 => ?_) (fun c_56 => absurd c_56 (by decide))
      refine r_iload dX5_cut_70 rfl ?_
      refine r_if_eq (tgt := 83) dX5_cut_72 rfl ⟨by decide, by decide⟩ (fun c_72 => absurd c_72 (by decide)) (fun c_72 => ?_)
      have c1 : ¬ ((h 31 1) - sd) * 1 < 0 := by omega
      have c2 : ((h 31 3) - sd) * 1 < 0 := by omega
      have cm := cu_m LnBr (Or.inl rfl) c2 c1
      refine r_aload_n dX5_cut_75 rfl rfl ?_
      refine r_iconst dX5_cut_76 ?_
      refine r_iconst dX5_cut_77 ?_
      refine r_iload_n dX5_cut_78 rfl rfl ?_
      refine r_iload_n dX5_cut_79 rfl rfl ?_
      refine r_callVU (av := [_, _, _, _]) (M' := mX5_bringToSide) dX5_cut_80 vX5_bringToSide ml_X5_141 sh_30 (by decide) rfl rfl rfl rfl (by simp [wtA]) (sp_bring_2_1 (by omega) cm.1 ⟨by omega, by omega⟩ ?_)
      refine r_iconst dX5_cut_83 ?_
      refine r_zret dX5_cut_84 rfl (.inr rfl) ?_
      have c1 : ¬ ((h 31 1) - sd) * 1 < 0 := by omega
      have c2 : ((h 31 3) - sd) * 1 < 0 := by omega
      refine ⟨_, rfl, k1 _ (fun a k z => ?_) ⟨?_, ?_, ?_, ?_⟩ (fun z => c1 z.1)⟩
      · rw [up_nc z, up_nc z]
      · unfold cuA
        rw [if_neg c1]
        rfl
      · unfold cuA
        rw [if_pos c2]
        rfl
      · unfold cuB
        rw [if_neg c1]
        rfl
      · unfold cuB
        rw [if_pos c2]
        rfl
  · refine r_iconst dX5_cut_13 ?_
    refine r_goto (tgt := 18) dX5_cut_14 rfl ?_
    refine r_istore (L' := [_, _, _, _, _, _]) dX5_cut_18 rfl (by decide) rfl ?_
    refine r_aload_n dX5_cut_20 rfl rfl ?_
    refine r_getR dX5_cut_21 fl_X5_35 sh_30 rfl ?_
    refine r_iload_n dX5_cut_24 rfl rfl ?_
    refine r_iconst dX5_cut_25 ?_
    refine r_iadd dX5_cut_26 ?_
    refine r_iald dX5_cut_27 sh_31 (by decide) ⟨by decide, by decide⟩ ?_
    refine r_eqI (y := h 31 3) rfl ?_
    refine r_iload_n dX5_cut_28 rfl rfl ?_
    refine r_isub dX5_cut_29 ?_
    refine r_iload_n dX5_cut_30 rfl rfl ?_
    refine r_imul dX5_cut_31 ?_
    refine r_if_ge (tgt := 39) dX5_cut_32 rfl (by omega) (fun c_32 => ?_) (fun c_32 => ?_)
    · refine r_iconst dX5_cut_39 ?_
      refine r_istore (L' := [_, _, _, _, _, _]) dX5_cut_40 rfl (by decide) rfl ?_
      refine r_iload dX5_cut_42 rfl ?_
      refine r_if_eq (tgt := 54) dX5_cut_44 rfl ⟨by decide, by decide⟩ (fun c_44 => absurd c_44 (by decide)) (fun c_44 => ?_)
      refine r_iload dX5_cut_47 rfl ?_
      refine r_if_eq (tgt := 54) dX5_cut_49 rfl ⟨by decide, by decide⟩ (fun c_49 => ?_) (fun c_49 => absurd c_49 (by decide))
      refine r_iload dX5_cut_54 rfl ?_
      refine r_if_eq (tgt := 70) dX5_cut_56 rfl ⟨by decide, by decide⟩ (fun c_56 => absurd c_56 (by decide)) (fun c_56 => ?_)
      have c1 : ((h 31 1) - sd) * 1 < 0 := by omega
      have c2 : ¬ ((h 31 3) - sd) * 1 < 0 := by omega
      have cm := cu_m hb.sw (Or.inl rfl) c1 c2
      refine r_aload_n dX5_cut_59 rfl rfl ?_
      refine r_iconst dX5_cut_60 ?_
      refine r_iconst dX5_cut_61 ?_
      refine r_iload_n dX5_cut_62 rfl rfl ?_
      refine r_iload_n dX5_cut_63 rfl rfl ?_
      refine r_callVU (av := [_, _, _, _]) (M' := mX5_bringToSide) dX5_cut_64 vX5_bringToSide ml_X5_141 sh_30 (by decide) rfl rfl rfl rfl (by simp [wtA]) (sp_bring_0_1 (by omega) cm.1 ⟨by omega, by omega⟩ ?_)
      refine r_goto (tgt := 83) dX5_cut_67 rfl ?_
      refine r_iconst dX5_cut_83 ?_
      refine r_zret dX5_cut_84 rfl (.inr rfl) ?_
      have c1 : ((h 31 1) - sd) * 1 < 0 := by omega
      have c2 : ¬ ((h 31 3) - sd) * 1 < 0 := by omega
      refine ⟨_, rfl, k1 _ (fun a k z => ?_) ⟨?_, ?_, ?_, ?_⟩ (fun z => c2 z.2)⟩
      · rw [up_nc z, up_nc z]
      · unfold cuA
        rw [if_pos c1]
        rfl
      · unfold cuA
        rw [if_neg c2]
        rfl
      · unfold cuB
        rw [if_pos c1]
        rfl
      · unfold cuB
        rw [if_neg c2]
        rfl
    · refine r_iconst dX5_cut_35 ?_
      refine r_goto (tgt := 40) dX5_cut_36 rfl ?_
      refine r_istore (L' := [_, _, _, _, _, _]) dX5_cut_40 rfl (by decide) rfl ?_
      refine r_iload dX5_cut_42 rfl ?_
      refine r_if_eq (tgt := 54) dX5_cut_44 rfl ⟨by decide, by decide⟩ (fun c_44 => absurd c_44 (by decide)) (fun c_44 => ?_)
      refine r_iload dX5_cut_47 rfl ?_
      refine r_if_eq (tgt := 54) dX5_cut_49 rfl ⟨by decide, by decide⟩ (fun c_49 => absurd c_49 (by decide)) (fun c_49 => ?_)
      refine r_iconst dX5_cut_52 ?_
      refine r_zret dX5_cut_53 rfl (.inl rfl) ?_
      exact ⟨_, rfl, k0 ⟨by omega, by omega⟩⟩
set_option maxRecDepth 20000 in
set_option maxHeartbeats 400000 in
theorem sp_cut_1_h {d : Nat} (hd : 2 ≤ d) {sd : Int} {h : Hp}  (hb : LnB (h 31 0) (h 31 1) (h 31 2) (h 31 3)) (hs : -2000 ≤ sd ∧ sd ≤ 2000) {P : Int → Hp → Prop} (k0 : (cuN (-1) sd (h 31 1) (h 31 3)) → P (0) h) (k1 : ∀ h' : Hp, (∀ a k, a ≠ 31 → h' a k = h a k) → (h' 31 1 = cuA (-1) sd (h 31 1) ∧ h' 31 3 = cuA (-1) sd (h 31 3) ∧ h' 31 0 = cuB (-1) sd (h 31 1) (h 31 3) (h 31 0) (h 31 2) ∧ h' 31 2 = cuB (-1) sd (h 31 3) (h 31 1) (h 31 2) (h 31 0)) → (¬ cuN (-1) sd (h 31 1) (h 31 3)) → P (1) h') : Cl d mX5_cut [.inr (.inr 30), .inl 1, .inl sd, .inl (-1)] h (pI P) := by
  refine Cl.of (L := [some (.inr (.inr 30)), some (.inl 1), some (.inl sd), some (.inl (-1)), none, none]) (by decide +kernel) (Nat.le_of_ble_eq_true rfl) rfl ?_
  obtain ⟨d, rfl⟩ : ∃ q, d = q + 1 := ⟨d - 1, by omega⟩
  have LnBr : LnB (h 31 3) (h 31 2) (h 31 1) (h 31 0) := by omega
  refine r_aload_n dX5_cut_0 rfl rfl ?_
  refine r_getR dX5_cut_1 fl_X5_35 sh_30 rfl ?_
  refine r_iload_n dX5_cut_4 rfl rfl ?_
  refine r_iald dX5_cut_5 sh_31 (by decide) ⟨by decide, by decide⟩ ?_
  refine r_eqI (y := h 31 1) rfl ?_
  refine r_iload_n dX5_cut_6 rfl rfl ?_
  refine r_isub dX5_cut_7 ?_
  refine r_iload_n dX5_cut_8 rfl rfl ?_
  refine r_imul dX5_cut_9 ?_
  refine r_if_ge (tgt := 17) dX5_cut_10 rfl (by omega) (fun c_10 => ?_) (fun c_10 => ?_)
  · refine r_iconst dX5_cut_17 ?_
    refine r_istore (L' := [_, _, _, _, _, _]) dX5_cut_18 rfl (by decide) rfl ?_
    refine r_aload_n dX5_cut_20 rfl rfl ?_
    refine r_getR dX5_cut_21 fl_X5_35 sh_30 rfl ?_
    refine r_iload_n dX5_cut_24 rfl rfl ?_
    refine r_iconst dX5_cut_25 ?_
    refine r_iadd dX5_cut_26 ?_
    refine r_iald dX5_cut_27 sh_31 (by decide) ⟨by decide, by decide⟩ ?_
    refine r_eqI (y := h 31 3) rfl ?_
    refine r_iload_n dX5_cut_28 rfl rfl ?_
    refine r_isub dX5_cut_29 ?_
    refine r_iload_n dX5_cut_30 rfl rfl ?_
    refine r_imul dX5_cut_31 ?_
    refine r_if_ge (tgt := 39) dX5_cut_32 rfl (by omega) (fun c_32 => ?_) (fun c_32 => ?_)
    · refine r_iconst dX5_cut_39 ?_
      refine r_istore (L' := [_, _, _, _, _, _]) dX5_cut_40 rfl (by decide) rfl ?_
      refine r_iload dX5_cut_42 rfl ?_
      refine r_if_eq (tgt := 54) dX5_cut_44 rfl ⟨by decide, by decide⟩ (fun c_44 => ?_) (fun c_44 => absurd c_44 (by decide))
      refine r_iload dX5_cut_54 rfl ?_
      refine r_if_eq (tgt := 70) dX5_cut_56 rfl ⟨by decide, by decide⟩ (fun c_56 => ?_) (fun c_56 => absurd c_56 (by decide))
      refine r_iload dX5_cut_70 rfl ?_
      refine r_if_eq (tgt := 83) dX5_cut_72 rfl ⟨by decide, by decide⟩ (fun c_72 => ?_) (fun c_72 => absurd c_72 (by decide))
      refine r_iconst dX5_cut_83 ?_
      refine r_zret dX5_cut_84 rfl (.inr rfl) ?_
      have c1 : ¬ ((h 31 1) - sd) * (-1) < 0 := by omega
      have c2 : ¬ ((h 31 3) - sd) * (-1) < 0 := by omega
      refine ⟨_, rfl, k1 _ (fun a k z => ?_) ⟨?_, ?_, ?_, ?_⟩ (fun z => c1 z.1)⟩
      · rfl
      · unfold cuA
        rw [if_neg c1]
      · unfold cuA
        rw [if_neg c2]
      · unfold cuB
        rw [if_neg c1]
      · unfold cuB
        rw [if_neg c2]
    · refine r_iconst dX5_cut_35 ?_
      refine r_goto (tgt := 40) dX5_cut_36 rfl ?_
      refine r_istore (L' := [_, _, _, _, _, _]) dX5_cut_40 rfl (by decide) rfl ?_
      refine r_iload dX5_cut_42 rfl ?_
      refine r_if_eq (tgt := 54) dX5_cut_44 rfl ⟨by decide, by decide⟩ (fun c_44 => ?_) (fun c_44 => absurd c_44 (by decide))
      refine r_iload dX5_cut_54 rfl ?_
      refine r_if_eq (tgt := 70) dX5_cut_56 rfl ⟨by decide, by decide⟩ (fun c_56 => ?_) (fun c_56 => absurd c_56 (by decide))
      refine r_iload dX5_cut_70 rfl ?_
      refine r_if_eq (tgt := 83) dX5_cut_72 rfl ⟨by decide, by decide⟩ (fun c_72 => absurd c_72 (by decide)) (fun c_72 => ?_)
      have c1 : ¬ ((h 31 1) - sd) * (-1) < 0 := by omega
      have c2 : ((h 31 3) - sd) * (-1) < 0 := by omega
      have cm := cu_m LnBr (Or.inr rfl) c2 c1
      refine r_aload_n dX5_cut_75 rfl rfl ?_
      refine r_iconst dX5_cut_76 ?_
      refine r_iconst dX5_cut_77 ?_
      refine r_iload_n dX5_cut_78 rfl rfl ?_
      refine r_iload_n dX5_cut_79 rfl rfl ?_
      refine r_callVU (av := [_, _, _, _]) (M' := mX5_bringToSide) dX5_cut_80 vX5_bringToSide ml_X5_141 sh_30 (by decide) rfl rfl rfl rfl (by simp [wtA]) (sp_bring_2_1 (by omega) cm.1 ⟨by omega, by omega⟩ ?_)
      refine r_iconst dX5_cut_83 ?_
      refine r_zret dX5_cut_84 rfl (.inr rfl) ?_
      have c1 : ¬ ((h 31 1) - sd) * (-1) < 0 := by omega
      have c2 : ((h 31 3) - sd) * (-1) < 0 := by omega
      refine ⟨_, rfl, k1 _ (fun a k z => ?_) ⟨?_, ?_, ?_, ?_⟩ (fun z => c1 z.1)⟩
      · rw [up_nc z, up_nc z]
      · unfold cuA
        rw [if_neg c1]
        rfl
      · unfold cuA
        rw [if_pos c2]
        rfl
      · unfold cuB
        rw [if_neg c1]
        rfl
      · unfold cuB
        rw [if_pos c2]
        rfl
  · refine r_iconst dX5_cut_13 ?_
    refine r_goto (tgt := 18) dX5_cut_14 rfl ?_
    refine r_istore (L' := [_, _, _, _, _, _]) dX5_cut_18 rfl (by decide) rfl ?_
    refine r_aload_n dX5_cut_20 rfl rfl ?_
    refine r_getR dX5_cut_21 fl_X5_35 sh_30 rfl ?_
    refine r_iload_n dX5_cut_24 rfl rfl ?_
    refine r_iconst dX5_cut_25 ?_
    refine r_iadd dX5_cut_26 ?_
    refine r_iald dX5_cut_27 sh_31 (by decide) ⟨by decide, by decide⟩ ?_
    refine r_eqI (y := h 31 3) rfl ?_
    refine r_iload_n dX5_cut_28 rfl rfl ?_
    refine r_isub dX5_cut_29 ?_
    refine r_iload_n dX5_cut_30 rfl rfl ?_
    refine r_imul dX5_cut_31 ?_
    refine r_if_ge (tgt := 39) dX5_cut_32 rfl (by omega) (fun c_32 => ?_) (fun c_32 => ?_)
    · refine r_iconst dX5_cut_39 ?_
      refine r_istore (L' := [_, _, _, _, _, _]) dX5_cut_40 rfl (by decide) rfl ?_
      refine r_iload dX5_cut_42 rfl ?_
      refine r_if_eq (tgt := 54) dX5_cut_44 rfl ⟨by decide, by decide⟩ (fun c_44 => absurd c_44 (by decide)) (fun c_44 => ?_)
      refine r_iload dX5_cut_47 rfl ?_
      refine r_if_eq (tgt := 54) dX5_cut_49 rfl ⟨by decide, by decide⟩ (fun c_49 => ?_) (fun c_49 => absurd c_49 (by decide))
      refine r_iload dX5_cut_54 rfl ?_
      refine r_if_eq (tgt := 70) dX5_cut_56 rfl ⟨by decide, by decide⟩ (fun c_56 => absurd c_56 (by decide)) (fun c_56 => ?_)
      have c1 : ((h 31 1) - sd) * (-1) < 0 := by omega
      have c2 : ¬ ((h 31 3) - sd) * (-1) < 0 := by omega
      have cm := cu_m hb.sw (Or.inr rfl) c1 c2
      refine r_aload_n dX5_cut_59 rfl rfl ?_
      refine r_iconst dX5_cut_60 ?_
      refine r_iconst dX5_cut_61 ?_
      refine r_iload_n dX5_cut_62 rfl rfl ?_
      refine r_iload_n dX5_cut_63 rfl rfl ?_
      refine r_callVU (av := [_, _, _, _]) (M' := mX5_bringToSide) dX5_cut_64 vX5_bringToSide ml_X5_141 sh_30 (by decide) rfl rfl rfl rfl (by simp [wtA]) (sp_bring_0_1 (by omega) cm.1 ⟨by omega, by omega⟩ ?_)
      refine r_goto (tgt := 83) dX5_cut_67 rfl ?_
      refine r_iconst dX5_cut_83 ?_
      refine r_zret dX5_cut_84 rfl (.inr rfl) ?_
      have c1 : ((h 31 1) - sd) * (-1) < 0 := by omega
      have c2 : ¬ ((h 31 3) - sd) * (-1) < 0 := by omega
      refine ⟨_, rfl, k1 _ (fun a k z => ?_) ⟨?_, ?_, ?_, ?_⟩ (fun z => c2 z.2)⟩
      · rw [up_nc z, up_nc z]
      · unfold cuA
        rw [if_pos c1]
        rfl
      · unfold cuA
        rw [if_neg c2]
        rfl
      · unfold cuB
        rw [if_pos c1]
        rfl
      · unfold cuB
        rw [if_neg c2]
        rfl
    · refine r_iconst dX5_cut_35 ?_
      refine r_goto (tgt := 40) dX5_cut_36 rfl ?_
      refine r_istore (L' := [_, _, _, _, _, _]) dX5_cut_40 rfl (by decide) rfl ?_
      refine r_iload dX5_cut_42 rfl ?_
      refine r_if_eq (tgt := 54) dX5_cut_44 rfl ⟨by decide, by decide⟩ (fun c_44 => absurd c_44 (by decide)) (fun c_44 => ?_)
      refine r_iload dX5_cut_47 rfl ?_
      refine r_if_eq (tgt := 54) dX5_cut_49 rfl ⟨by decide, by decide⟩ (fun c_49 => absurd c_49 (by decide)) (fun c_49 => ?_)
      refine r_iconst dX5_cut_52 ?_
      refine r_zret dX5_cut_53 rfl (.inl rfl) ?_
      exact ⟨_, rfl, k0 ⟨by omega, by omega⟩⟩
