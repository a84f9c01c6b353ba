/-! TOGETHER: the fewest ticks (100000000: no way) -/
noncomputable def iteP (p : Prop) (a b : Int) : Int := @ite Int p (Classical.propDecidable p) a b
theorem iteP_t {p : Prop} {a b : Int} (h : p) : iteP p a b = a := by unfold iteP; exact if_pos h
theorem iteP_f {p : Prop} {a b : Int} (h : ¬ p) : iteP p a b = b := by unfold iteP; exact if_neg h
def ad (x t : Int) : Int := if x < 100000000 then x + t else 100000000
noncomputable def tgR (c : Nat → Prop) (bs A C t2 : Nat → Int) : Nat → Int
  | 0 => iteP (c 0) (min (min (min (bs 0) (A 0)) 100000000) (C 0)) 100000000
  | k + 1 => iteP (c (k + 1)) (min (min (min (bs (k + 1)) (A (k + 1))) (ad (tgR c bs A C t2 k) (t2 k))) (C (k + 1))) 100000000
noncomputable def tgF (c : Nat → Nat → Prop) (t1 t2 : Nat → Int) : Nat → Nat → Int
  | 0 => tgR (c 0) (fun k => if k = 0 then 0 else 100000000) (fun _ => 100000000) (fun _ => 100000000) t2
  | i + 1 => tgR (c (i + 1)) (fun _ => 100000000) (fun k => ad (tgF c t1 t2 i k) (t1 i)) (fun k => if k = 0 then 100000000 else ad (tgF c t1 t2 i (k - 1)) (max (t1 i) (t2 (k - 1)))) t2
noncomputable def tgA (c : Nat → Nat → Prop) (t1 t2 : Nat → Int) (i k : Nat) : Int := if i = 0 then 100000000 else ad (tgF c t1 t2 (i - 1) k) (t1 (i - 1))
noncomputable def tgB (c : Nat → Nat → Prop) (t1 t2 : Nat → Int) (i k : Nat) : Int := if k = 0 then 100000000 else ad (tgF c t1 t2 i (k - 1)) (t2 (k - 1))
noncomputable def tgC (c : Nat → Nat → Prop) (t1 t2 : Nat → Int) (i k : Nat) : Int := if i = 0 ∨ k = 0 then 100000000 else ad (tgF c t1 t2 (i - 1) (k - 1)) (max (t1 (i - 1)) (t2 (k - 1)))
def tgZ (i k : Nat) : Int := if i = 0 ∧ k = 0 then 0 else 100000000
theorem tgF_eq (c : Nat → Nat → Prop) (t1 t2 : Nat → Int) (i k : Nat) : tgF c t1 t2 i k = iteP (c i k) (min (min (min (tgZ i k) (tgA c t1 t2 i k)) (tgB c t1 t2 i k)) (tgC c t1 t2 i k)) 100000000 := by
  unfold tgZ tgA tgB tgC
  cases i with
  | zero =>
    cases k with
    | zero => rfl
    | succ k =>
      rw [if_neg (by omega), if_pos rfl, if_neg (by omega), if_pos (by omega)]
      rfl
  | succ i =>
    cases k with
    | zero =>
      rw [if_neg (by omega), if_neg (by omega), if_pos rfl, if_pos (by omega)]
      rfl
    | succ k =>
      rw [if_neg (by omega), if_neg (by omega), if_neg (by omega), if_neg (by omega)]
      rfl
def tgQ (x : Int) (n : Nat) : Prop := x = 100000000 ∨ (0 ≤ x ∧ x ≤ 5660 * (n : Int))
theorem tgQ_ad {x t : Int} {n m : Nat} (h : tgQ x n) (ht : 0 ≤ t ∧ t ≤ 5660) (hn : n + 1 ≤ m) (hm : m ≤ 300) : tgQ (ad x t) m := by
  unfold tgQ ad at *
  split <;> omega
theorem tgF_r {c : Nat → Nat → Prop} {t1 t2 : Nat → Int} {n1 n2 : Nat} (h1 : ∀ i : Nat, i < n1 → 0 ≤ t1 i ∧ t1 i ≤ 5660) (h2 : ∀ i : Nat, i < n2 → 0 ≤ t2 i ∧ t2 i ≤ 5660) (hn : n1 ≤ 150 ∧ n2 ≤ 150) : ∀ i : Nat, i ≤ n1 → ∀ k : Nat, k ≤ n2 → tgQ (tgF c t1 t2 i k) (i + k) ∧ tgQ (tgA c t1 t2 i k) (i + k) ∧ tgQ (tgB c t1 t2 i k) (i + k) ∧ tgQ (tgC c t1 t2 i k) (i + k) := by
  have key : ∀ i k : Nat, i ≤ n1 → k ≤ n2 → (0 < i → ∀ j : Nat, j ≤ n2 → tgQ (tgF c t1 t2 (i - 1) j) (i - 1 + j)) → (0 < k → tgQ (tgF c t1 t2 i (k - 1)) (i + (k - 1))) → tgQ (tgF c t1 t2 i k) (i + k) ∧ tgQ (tgA c t1 t2 i k) (i + k) ∧ tgQ (tgB c t1 t2 i k) (i + k) ∧ tgQ (tgC c t1 t2 i k) (i + k) := by
    intro i k hi hk ha hb
    have a : tgQ (tgA c t1 t2 i k) (i + k) := by
      unfold tgA
      split
      · exact Or.inl rfl
      · exact tgQ_ad (ha (by omega) k hk) (h1 _ (by omega)) (by omega) (by omega)
    have b : tgQ (tgB c t1 t2 i k) (i + k) := by
      unfold tgB
      split
      · exact Or.inl rfl
      · exact tgQ_ad (hb (by omega)) (h2 _ (by omega)) (by omega) (by omega)
    have d : tgQ (tgC c t1 t2 i k) (i + k) := by
      unfold tgC
      split
      · exact Or.inl rfl
      · have p1 := h1 (i - 1) (by omega)
        have p2 := h2 (k - 1) (by omega)
        exact tgQ_ad (ha (by omega) (k - 1) (by omega)) (by omega) (by omega) (by omega)
    refine ⟨?_, a, b, d⟩
    rw [tgF_eq]
    by_cases q : c i k
    · rw [iteP_t q]
      have z : tgZ i k = 0 ∨ tgZ i k = 100000000 := by unfold tgZ; split <;> omega
      unfold tgQ at a b d ⊢
      omega
    · rw [iteP_f q]
      exact Or.inl rfl
  intro i
  induction i with
  | zero =>
    intro _ k
    induction k with
    | zero => intro hk; exact key 0 0 (by omega) hk (fun z => by omega) (fun z => by omega)
    | succ k ih => intro hk; exact key 0 (k + 1) (by omega) hk (fun z => by omega) (fun _ => (ih (by omega)).1)
  | succ i hi =>
    intro hn1 k
    have pr : 0 < i + 1 → ∀ j : Nat, j ≤ n2 → tgQ (tgF c t1 t2 (i + 1 - 1) j) (i + 1 - 1 + j) := fun _ j hj => (hi (by omega) j hj).1
    induction k with
    | zero => intro hk; exact key (i + 1) 0 hn1 hk pr (fun z => by omega)
    | succ k ih => intro hk; exact key (i + 1) (k + 1) hn1 hk pr (fun _ => (ih (by omega)).1)
/-- the class's number for it -/
def cv (x : Int) : Int := if x < 100000000 then x else 1000000000
theorem cv_ad {x t : Int} {n : Nat} (h : tgQ x n) (hn : n ≤ 300) (ht : 0 ≤ t ∧ t ≤ 5660) : (ad x t < 100000000 ∧ cv x + t = ad x t ∧ 0 ≤ ad x t) ∨ (ad x t = 100000000 ∧ 1000000000 ≤ cv x + t) := by
  unfold tgQ at h
  unfold cv ad
  split <;> omega
theorem cv_r {x : Int} {n : Nat} (h : tgQ x n) (hn : n ≤ 300) : (x < 100000000 ∧ cv x = x ∧ 0 ≤ x ∧ x ≤ 1698000) ∨ (x = 100000000 ∧ cv x = 1000000000) := by
  unfold tgQ at h
  unfold cv
  split <;> omega
theorem ft_main {i k nA nB nC : Nat} {asl ab b0 b1 b2 b3 f t1 t2 TA TB TC : Int} (qA : 0 < i → tgQ TA nA ∧ nA ≤ 300 ∧ ab = cv TA) (qB : 0 < k → tgQ TB nB ∧ nB ≤ 300 ∧ f = cv TB) (qC : 0 < i → 0 < k → tgQ TC nC ∧ nC ≤ 300 ∧ asl = cv TC) (h1 : 0 < i → 0 ≤ t1 ∧ t1 ≤ 5660) (h2 : 0 < k → 0 ≤ t2 ∧ t2 ≤ 5660)
    (eb0 : b0 = if i = 0 ∧ k = 0 then 0 else 1000000000) (eb1 : b1 = if i = 0 then b0 else min b0 (ab + t1)) (eb2 : b2 = if k = 0 then b1 else min b1 (f + t2)) (eb3 : b3 = if i = 0 ∨ k = 0 then b2 else min b2 (asl + max t1 t2)) {A B C : Int} (eA : A = if i = 0 then 100000000 else ad TA t1) (eB : B = if k = 0 then 100000000 else ad TB t2) (eC : C = if i = 0 ∨ k = 0 then 100000000 else ad TC (max t1 t2)) :
    (b3 < 1000000000 ↔ min (min (min (tgZ i k) A) B) C < 100000000) ∧ (b3 < 1000000000 → b3 = min (min (min (tgZ i k) A) B) C) := by
  have eZ : tgZ i k = if i = 0 ∧ k = 0 then 0 else 100000000 := rfl
  by_cases zi : i = 0 <;> by_cases zk : k = 0
  · clear qA qB qC h1 h2
    rw [if_pos zi] at eb1 eA
    rw [if_pos zk] at eb2 eB
    rw [if_pos (Or.inl zi)] at eb3 eC
    rw [if_pos ⟨zi, zk⟩] at eb0 eZ
    omega
  · obtain ⟨T, T0, T1⟩ := qB (by omega)
    have rB := cv_ad T T0 (h2 (by omega))
    clear qA qB qC h1 h2
    rw [if_pos zi] at eb1 eA
    rw [if_neg zk] at eb2 eB
    rw [if_pos (Or.inl zi)] at eb3 eC
    rw [if_neg (fun z => zk z.2)] at eb0 eZ
    omega
  · obtain ⟨T, T0, T1⟩ := qA (by omega)
    have rA := cv_ad T T0 (h1 (by omega))
    clear qA qB qC h1 h2
    rw [if_neg zi] at eb1 eA
    rw [if_pos zk] at eb2 eB
    rw [if_pos (Or.inr zk)] at eb3 eC
    rw [if_neg (fun z => zi z.1)] at eb0 eZ
    omega
  · obtain ⟨T, T0, T1⟩ := qA (by omega)
    have rA := cv_ad T T0 (h1 (by omega))
    obtain ⟨U, U0, U1⟩ := qB (by omega)
    have rB := cv_ad U U0 (h2 (by omega))
    obtain ⟨V, V0, V1⟩ := qC (by omega) (by omega)
    have rC := cv_ad V V0 (t := max t1 t2) (by have := h1 (by omega); have := h2 (by omega); omega)
    clear qA qB qC h1 h2
    have no : ¬ (i = 0 ∨ k = 0) := by omega
    rw [if_neg zi] at eb1 eA
    rw [if_neg zk] at eb2 eB
    rw [if_neg no] at eb3 eC
    rw [if_neg (fun z => zi z.1)] at eb0 eZ
    clear T U V T0 U0 V0 no zi zk
    omega
theorem cv_lr {x : Int} {n : Nat} (h : tgQ x n) (hn : n ≤ 300) : 0 ≤ cv x ∧ cv x ≤ 1000000000 := by
  have := cv_r h hn
  omega
noncomputable def fnTog (n1 n2 : Nat) (c : Nat → Nat → Prop) (t1 t2 : Nat → Int) : Int := if tgF c t1 t2 n1 n2 < 100000000 then tgF c t1 t2 n1 n2 else -2
set_option maxRecDepth 20000 in
set_option maxHeartbeats 400000 in
theorem sg_ft32 {d : Nat} (hd : 4 ≤ d) {post : Pst} {g : Hp} {v d0 asl : Int} {i k : Nat} {o7 : Option AV} (hi : i ≤ 150) (hk : k ≤ 150) (K : ∀ z : Int, z = (if i = 0 then 1000000000 else g 42 k) → WW mX1_fewestTicks (d + 1) post 50 [some (.inr (.inr 41)), some (.inl v), some (.inl d0), some (.inl (i : Int)), some (.inl asl), some (.inl (k : Int)), some (.inl z), o7] [] g) : ∀ (nn : Nat) (o6 : Option AV), (True) → 0 < nn → WW mX1_fewestTicks (d + 1) post 32 [some (.inr (.inr 41)), some (.inl v), some (.inl d0), some (.inl (i : Int)), some (.inl asl), some (.inl (k : Int)), o6, o7] [] g := by
  intro nn
  induction nn with
  | zero => intro o6 hu; intros; omega
  | succ nn ih =>
    intro o6 hu hmu
    refine r_iload_n dX1_fewestTicks_32 rfl rfl ?_
    refine r_if_le (tgt := 46) dX1_fewestTicks_33 rfl (by omega) (fun c_33 => ?_) (fun c_33 => ?_)
    · refine r_ldc (z := 1000000000) dX1_fewestTicks_46 kc_X1_65 (by decide +kernel) ?_
      refine r_istore (L' := [_, _, _, _, _, _, _, _]) dX1_fewestTicks_48 rfl (by decide) rfl ?_
      refine K _ ?_
      first
        | (rw [if_pos (by omega)])
        | (rw [if_neg (by omega), Int.toNat_natCast])
    · refine r_aload_n dX1_fewestTicks_36 rfl rfl ?_
      refine r_getR dX1_fewestTicks_37 fl_X1_24 sh_41 rfl ?_
      refine r_iload dX1_fewestTicks_40 rfl ?_
      refine r_iald dX1_fewestTicks_42 sh_42 (by decide) (by omega) ?_
      refine r_goto (tgt := 48) dX1_fewestTicks_43 rfl ?_
      refine r_istore (L' := [_, _, _, _, _, _, _, _]) dX1_fewestTicks_48 rfl (by decide) rfl ?_
      refine K _ ?_
      first
        | (rw [if_pos (by omega)])
        | (rw [if_neg (by omega), Int.toNat_natCast])
set_option maxRecDepth 20000 in
set_option maxHeartbeats 400000 in
theorem sg_ft50 {d : Nat} (hd : 4 ≤ d) {post : Pst} {g : Hp} {v d0 asl : Int} {i k : Nat} {ab : Int} (hi : i ≤ 150) (hk : k ≤ 150) (K : ∀ z : Int, z = (if i = 0 ∧ k = 0 then 0 else 1000000000) → WW mX1_fewestTicks (d + 1) post 67 [some (.inr (.inr 41)), some (.inl v), some (.inl d0), some (.inl (i : Int)), some (.inl asl), some (.inl (k : Int)), some (.inl ab), some (.inl z)] [] g) : ∀ (nn : Nat) (o7 : Option AV), (True) → 0 < nn → WW mX1_fewestTicks (d + 1) post 50 [some (.inr (.inr 41)), some (.inl v), some (.inl d0), some (.inl (i : Int)), some (.inl asl), some (.inl (k : Int)), some (.inl ab), o7] [] g := by
  intro nn
  induction nn with
  | zero => intro o7 hu; intros; omega
  | succ nn ih =>
    intro o7 hu hmu
    refine r_iload_n dX1_fewestTicks_50 rfl rfl ?_
    refine r_if_ne (tgt := 63) dX1_fewestTicks_51 rfl (by omega) (fun c_51 => ?_) (fun c_51 => ?_)
    · refine r_ldc (z := 1000000000) dX1_fewestTicks_63 kc_X1_65 (by decide +kernel) ?_
      refine r_istore (L' := [_, _, _, _, _, _, _, _]) dX1_fewestTicks_65 rfl (by decide) rfl ?_
      refine K _ ?_
      first
        | (rw [if_pos (by omega)])
        | (rw [if_neg (by omega)])
    · refine r_iload dX1_fewestTicks_54 rfl ?_
      refine r_if_ne (tgt := 63) dX1_fewestTicks_56 rfl (by omega) (fun c_56 => ?_) (fun c_56 => ?_)
      · refine r_ldc (z := 1000000000) dX1_fewestTicks_63 kc_X1_65 (by decide +kernel) ?_
        refine r_istore (L' := [_, _, _, _, _, _, _, _]) dX1_fewestTicks_65 rfl (by decide) rfl ?_
        refine K _ ?_
        first
          | (rw [if_pos (by omega)])
          | (rw [if_neg (by omega)])
      · refine r_iconst dX1_fewestTicks_59 ?_
        refine r_goto (tgt := 65) dX1_fewestTicks_60 rfl ?_
        refine r_istore (L' := [_, _, _, _, _, _, _, _]) dX1_fewestTicks_65 rfl (by decide) rfl ?_
        refine K _ ?_
        first
          | (rw [if_pos (by omega)])
          | (rw [if_neg (by omega)])
set_option maxRecDepth 20000 in
set_option maxHeartbeats 400000 in
theorem sg_ft67 {d : Nat} (hd : 4 ≤ d) {post : Pst} {g : Hp} {v d0 asl : Int} {i k : Nat} {ab b : Int} (ha : R32 (ab + 5660) ∧ R32 ab) (hb : R32 b) {n1 n2 : Nat} (q1 : LR (g 20) (g 21) n1) (q2 : LR (g 27) (g 28) n2) (hn : n1 ≤ 150 ∧ n2 ≤ 150) (hi : i ≤ n1) (hk : k ≤ n2)  (K : ∀ z : Int, z = (if i = 0 then b else min b (ab + (tkF (g 20) (g 21) (i - 1)))) → WW mX1_fewestTicks (d + 1) post 91 [some (.inr (.inr 41)), some (.inl v), some (.inl d0), some (.inl (i : Int)), some (.inl asl), some (.inl (k : Int)), some (.inl ab), some (.inl z)] [] g) : ∀ (nn : Nat) (u : Unit), (True) → 0 < nn → WW mX1_fewestTicks (d + 1) post 67 [some (.inr (.inr 41)), some (.inl v), some (.inl d0), some (.inl (i : Int)), some (.inl asl), some (.inl (k : Int)), some (.inl ab), some (.inl b)] [] g := by
  intro nn
  induction nn with
  | zero => intro u hu; intros; omega
  | succ nn ih =>
    intro u hu hmu
    refine r_iload_n dX1_fewestTicks_67 rfl rfl ?_
    refine r_if_le (tgt := 91) dX1_fewestTicks_68 rfl (by omega) (fun c_68 => ?_) (fun c_68 => ?_)
    · refine K _ ?_
      first
        | (rw [if_pos (by omega)])
        | (rw [if_neg (by omega)])
    · refine r_iload dX1_fewestTicks_71 rfl ?_
      refine r_iload dX1_fewestTicks_73 rfl ?_
      refine r_aload_n dX1_fewestTicks_75 rfl rfl ?_
      refine r_getR dX1_fewestTicks_76 fl_X1_38 sh_41 rfl ?_
      refine r_iload_n dX1_fewestTicks_79 rfl rfl ?_
      refine r_iconst dX1_fewestTicks_80 ?_
      refine r_isub dX1_fewestTicks_81 ?_
      rw [show (i : Int) - 1 = ((i - 1 : Nat) : Int) by omega]
      have tk := tkF_r q1 (m := i - 1) (by omega)
      refine r_callVI (av := [_]) (M' := mX2_ticksOf) dX1_fewestTicks_82 vX2_ticksOf ml_X1_66 sh_16 (by decide) rfl rfl rfl rfl (by simp [wtA]) (sp_X2_ticksOf_16 (by omega) (n := n1) (by omega) (by omega) q1 ?_)
      rw [Int.toNat_natCast]
      refine r_iadd dX1_fewestTicks_85 ?_
      refine r_mmin (by omega) (by omega) dX1_fewestTicks_86 ml_X1_70 (by simp [wtA]) ?_
      refine r_istore (L' := [_, _, _, _, _, _, _, _]) dX1_fewestTicks_89 rfl (by decide) rfl ?_
      refine K _ ?_
      first
        | (rw [if_pos (by omega)])
        | (rw [if_neg (by omega)])
set_option maxRecDepth 20000 in
set_option maxHeartbeats 400000 in
theorem sg_ft91 {d : Nat} (hd : 4 ≤ d) {post : Pst} {g : Hp} {v d0 asl : Int} {i k : Nat} {ab b : Int} (hf : 0 < k → R32 (g 42 (k - 1) + 5660) ∧ R32 (g 42 (k - 1))) (hb : R32 b) {n1 n2 : Nat} (q1 : LR (g 20) (g 21) n1) (q2 : LR (g 27) (g 28) n2) (hn : n1 ≤ 150 ∧ n2 ≤ 150) (hi : i ≤ n1) (hk : k ≤ n2)  (K : ∀ z : Int, z = (if k = 0 then b else min b (g 42 (k - 1) + (tkF (g 27) (g 28) (k - 1)))) → WW mX1_fewestTicks (d + 1) post 124 [some (.inr (.inr 41)), some (.inl v), some (.inl d0), some (.inl (i : Int)), some (.inl asl), some (.inl (k : Int)), some (.inl ab), some (.inl z)] [] g) : ∀ (nn : Nat) (u : Unit), (True) → 0 < nn → WW mX1_fewestTicks (d + 1) post 91 [some (.inr (.inr 41)), some (.inl v), some (.inl d0), some (.inl (i : Int)), some (.inl asl), some (.inl (k : Int)), some (.inl ab), some (.inl b)] [] g := by
  intro nn
  induction nn with
  | zero => intro u hu; intros; omega
  | succ nn ih =>
    intro u hu hmu
    refine r_iload dX1_fewestTicks_91 rfl ?_
    refine r_if_le (tgt := 124) dX1_fewestTicks_93 rfl (by omega) (fun c_93 => ?_) (fun c_93 => ?_)
    · refine K _ ?_
      first
        | (rw [if_pos (by omega)])
        | (rw [if_neg (by omega)])
    · refine r_iload dX1_fewestTicks_96 rfl ?_
      have hf := hf (by omega)
      refine r_aload_n dX1_fewestTicks_98 rfl rfl ?_
      refine r_getR dX1_fewestTicks_99 fl_X1_24 sh_41 rfl ?_
      refine r_iload dX1_fewestTicks_102 rfl ?_
      refine r_iconst dX1_fewestTicks_104 ?_
      refine r_isub dX1_fewestTicks_105 ?_
      refine r_iald dX1_fewestTicks_106 sh_42 (by decide) (by omega) ?_
      rw [show ((k : Int) - 1).toNat = k - 1 by omega]
      refine r_aload_n dX1_fewestTicks_107 rfl rfl ?_
      refine r_getR dX1_fewestTicks_108 fl_X1_42 sh_41 rfl ?_
      refine r_iload dX1_fewestTicks_111 rfl ?_
      refine r_iconst dX1_fewestTicks_113 ?_
      refine r_isub dX1_fewestTicks_114 ?_
      rw [show (k : Int) - 1 = ((k - 1 : Nat) : Int) by omega]
      have tk := tkF_r q2 (m := k - 1) (by omega)
      refine r_callVI (av := [_]) (M' := mX2_ticksOf) dX1_fewestTicks_115 vX2_ticksOf ml_X1_66 sh_23 (by decide) rfl rfl rfl rfl (by simp [wtA]) (sp_X2_ticksOf_23 (by omega) (n := n2) (by omega) (by omega) q2 ?_)
      rw [Int.toNat_natCast]
      refine r_iadd dX1_fewestTicks_118 ?_
      refine r_mmin (by omega) (by omega) dX1_fewestTicks_119 ml_X1_70 (by simp [wtA]) ?_
      refine r_istore (L' := [_, _, _, _, _, _, _, _]) dX1_fewestTicks_122 rfl (by decide) rfl ?_
      refine K _ ?_
      first
        | (rw [if_pos (by omega)])
        | (rw [if_neg (by omega)])
set_option maxRecDepth 20000 in
set_option maxHeartbeats 400000 in
theorem sg_ft124 {d : Nat} (hd : 4 ≤ d) {post : Pst} {g : Hp} {v d0 asl : Int} {i k : Nat} {ab b : Int} (ha : R32 (asl + 5660) ∧ R32 asl) (hb : R32 b) {n1 n2 : Nat} (q1 : LR (g 20) (g 21) n1) (q2 : LR (g 27) (g 28) n2) (hn : n1 ≤ 150 ∧ n2 ≤ 150) (hi : i ≤ n1) (hk : k ≤ n2)  (K : ∀ z : Int, z = (if i = 0 ∨ k = 0 then b else min b (asl + max (tkF (g 20) (g 21) (i - 1)) (tkF (g 27) (g 28) (k - 1)))) → WW mX1_fewestTicks (d + 1) post 167 [some (.inr (.inr 41)), some (.inl v), some (.inl d0), some (.inl (i : Int)), some (.inl asl), some (.inl (k : Int)), some (.inl ab), some (.inl z)] [] g) : ∀ (nn : Nat) (u : Unit), (True) → 0 < nn → WW mX1_fewestTicks (d + 1) post 124 [some (.inr (.inr 41)), some (.inl v), some (.inl d0), some (.inl (i : Int)), some (.inl asl), some (.inl (k : Int)), some (.inl ab), some (.inl b)] [] g := by
  intro nn
  induction nn with
  | zero => intro u hu; intros; omega
  | succ nn ih =>
    intro u hu hmu
    refine r_iload_n dX1_fewestTicks_124 rfl rfl ?_
    refine r_if_le (tgt := 167) dX1_fewestTicks_125 rfl (by omega) (fun c_125 => ?_) (fun c_125 => ?_)
    · refine K _ ?_
      first
        | (rw [if_pos (by omega)])
        | (rw [if_neg (by omega)])
    · refine r_iload dX1_fewestTicks_128 rfl ?_
      refine r_if_le (tgt := 167) dX1_fewestTicks_130 rfl (by omega) (fun c_130 => ?_) (fun c_130 => ?_)
      · refine K _ ?_
        first
          | (rw [if_pos (by omega)])
          | (rw [if_neg (by omega)])
      · refine r_iload dX1_fewestTicks_133 rfl ?_
        refine r_iload dX1_fewestTicks_135 rfl ?_
        refine r_aload_n dX1_fewestTicks_137 rfl rfl ?_
        refine r_getR dX1_fewestTicks_138 fl_X1_38 sh_41 rfl ?_
        refine r_iload_n dX1_fewestTicks_141 rfl rfl ?_
        refine r_iconst dX1_fewestTicks_142 ?_
        refine r_isub dX1_fewestTicks_143 ?_
        rw [show (i : Int) - 1 = ((i - 1 : Nat) : Int) by omega]
        have tk := tkF_r q1 (m := i - 1) (by omega)
        refine r_callVI (av := [_]) (M' := mX2_ticksOf) dX1_fewestTicks_144 vX2_ticksOf ml_X1_66 sh_16 (by decide) rfl rfl rfl rfl (by simp [wtA]) (sp_X2_ticksOf_16 (by omega) (n := n1) (by omega) (by omega) q1 ?_)
        rw [Int.toNat_natCast]
        refine r_aload_n dX1_fewestTicks_147 rfl rfl ?_
        refine r_getR dX1_fewestTicks_148 fl_X1_42 sh_41 rfl ?_
        refine r_iload dX1_fewestTicks_151 rfl ?_
        refine r_iconst dX1_fewestTicks_153 ?_
        refine r_isub dX1_fewestTicks_154 ?_
        rw [show (k : Int) - 1 = ((k - 1 : Nat) : Int) by omega]
        have tk2 := tkF_r q2 (m := k - 1) (by omega)
        refine r_callVI (av := [_]) (M' := mX2_ticksOf) dX1_fewestTicks_155 vX2_ticksOf ml_X1_66 sh_23 (by decide) rfl rfl rfl rfl (by simp [wtA]) (sp_X2_ticksOf_23 (by omega) (n := n2) (by omega) (by omega) q2 ?_)
        rw [Int.toNat_natCast]
        refine r_mmax (by omega) (by omega) dX1_fewestTicks_158 ml_X1_76 (by simp [wtA]) ?_
        refine r_iadd dX1_fewestTicks_161 ?_
        refine r_mmin (by omega) (by omega) dX1_fewestTicks_162 ml_X1_70 (by simp [wtA]) ?_
        refine r_istore (L' := [_, _, _, _, _, _, _, _]) dX1_fewestTicks_165 rfl (by decide) rfl ?_
        refine K _ ?_
        first
          | (rw [if_pos (by omega)])
          | (rw [if_neg (by omega)])
set_option maxRecDepth 20000 in
set_option maxHeartbeats 400000 in
theorem sg_ft167 {d : Nat} (hd : 4 ≤ d) {post : Pst} {g : Hp} {v d0 asl : Int} {i k : Nat} {n1 n2 : Nat} {ab b : Int} (gw : WOK g) (hb : R32 b) (hv : 1 ≤ v ∧ v ≤ (g 1 0)) (hd0 : 0 ≤ d0 ∧ d0 ≤ 50) (hn : n1 ≤ 150 ∧ n2 ≤ 150) (hi : i ≤ n1) (hk : k ≤ n2) (hx : XY (g 1 0) (g 1 1) (g 17) (g 18) n1) (hx2 : XY (g 1 0) (g 1 1) (g 24) (g 25) n2) (K : ∀ (z : Int) (o : Option AV), (b < 1000000000 ∧ clP (g 1 0) v d0 (g 17) (g 18) (g 24) (g 25) i k → z = b) → (¬ (b < 1000000000 ∧ clP (g 1 0) v d0 (g 17) (g 18) (g 24) (g 25) i k) → z = 1000000000) → WW mX1_fewestTicks (d + 1) post 20 [some (.inr (.inr 41)), some (.inl v), some (.inl d0), some (.inl (i : Int)), some (.inl ab), some (.inl ((k + 1 : Nat) : Int)), some (.inl ab), o] [] (upH g 42 k z)) : ∀ (nn : Nat) (u : Unit), (True) → 0 < nn → WW mX1_fewestTicks (d + 1) post 167 [some (.inr (.inr 41)), some (.inl v), some (.inl d0), some (.inl (i : Int)), some (.inl asl), some (.inl (k : Int)), some (.inl ab), some (.inl b)] [] g := by
  intro nn
  induction nn with
  | zero => intro u hu; intros; omega
  | succ nn ih =>
    intro u hu hmu
    refine r_aload_n dX1_fewestTicks_167 rfl rfl ?_
    refine r_getR dX1_fewestTicks_168 fl_X1_24 sh_41 rfl ?_
    refine r_iload dX1_fewestTicks_171 rfl ?_
    refine r_iload dX1_fewestTicks_173 rfl ?_
    refine r_ldc (z := 1000000000) dX1_fewestTicks_175 kc_X1_65 (by decide +kernel) ?_
    refine r_icmp_ge (tgt := 197) dX1_fewestTicks_177 rfl (by omega) ⟨by decide, by decide⟩ (fun c_177 => ?_) (fun c_177 => ?_)
    · refine r_ldc (z := 1000000000) dX1_fewestTicks_197 kc_X1_65 (by decide +kernel) ?_
      refine r_iast dX1_fewestTicks_199 sh_42 (by decide) (by omega) ?_
      refine r_iload dX1_fewestTicks_200 rfl ?_
      refine r_istore (L' := [_, _, _, _, _, _, _, _]) dX1_fewestTicks_202 rfl (by decide) rfl ?_
      refine r_iinc (L' := [_, _, _, _, _, _, _, _]) dX1_fewestTicks_204 rfl rfl (by decide) rfl ?_
      refine r_goto (tgt := 20) dX1_fewestTicks_207 rfl ?_
      rw [Int.toNat_natCast]
      first
        | exact K _ _ (fun _ => rfl) (fun z => absurd ⟨by omega, by rw [Int.toNat_natCast, Int.toNat_natCast] at b_186; exact b_186⟩ z)
        | exact K _ _ (fun z => absurd z.2 (by rw [Int.toNat_natCast, Int.toNat_natCast] at b_186; exact b_186)) (fun _ => rfl)
        | exact K _ _ (fun z => absurd z.1 (by omega)) (fun _ => rfl)
    · refine r_aload_n dX1_fewestTicks_180 rfl rfl ?_
      refine r_iload_n dX1_fewestTicks_181 rfl rfl ?_
      refine r_iload_n dX1_fewestTicks_182 rfl rfl ?_
      refine r_iload_n dX1_fewestTicks_183 rfl rfl ?_
      refine r_iload dX1_fewestTicks_184 rfl ?_
      refine r_callVI (av := [_, _, _, _]) (M' := mX1_isClear) dX1_fewestTicks_186 vX1_isClear ml_X1_79 sh_41 (by decide) rfl rfl rfl rfl (by simp [wtA]) (sp_X1_isClear (by omega) gw (by omega) (by omega) (n := n1) (by omega) (n2 := n2) (by omega) (by omega) hx hx2 (fun b_186 => ?_) (fun b_186 => ?_))
      · refine r_if_eq (tgt := 197) dX1_fewestTicks_189 rfl ⟨by decide, by decide⟩ (fun c_189 => absurd c_189 (by decide)) (fun c_189 => ?_)
        refine r_iload dX1_fewestTicks_192 rfl ?_
        refine r_goto (tgt := 199) dX1_fewestTicks_194 rfl ?_
        refine r_iast dX1_fewestTicks_199 sh_42 (by decide) (by omega) ?_
        refine r_iload dX1_fewestTicks_200 rfl ?_
        refine r_istore (L' := [_, _, _, _, _, _, _, _]) dX1_fewestTicks_202 rfl (by decide) rfl ?_
        refine r_iinc (L' := [_, _, _, _, _, _, _, _]) dX1_fewestTicks_204 rfl rfl (by decide) rfl ?_
        refine r_goto (tgt := 20) dX1_fewestTicks_207 rfl ?_
        rw [Int.toNat_natCast]
        first
          | exact K _ _ (fun _ => rfl) (fun z => absurd ⟨by omega, by rw [Int.toNat_natCast, Int.toNat_natCast] at b_186; exact b_186⟩ z)
          | exact K _ _ (fun z => absurd z.2 (by rw [Int.toNat_natCast, Int.toNat_natCast] at b_186; exact b_186)) (fun _ => rfl)
          | exact K _ _ (fun z => absurd z.1 (by omega)) (fun _ => rfl)
      · refine r_if_eq (tgt := 197) dX1_fewestTicks_189 rfl ⟨by decide, by decide⟩ (fun c_189 => ?_) (fun c_189 => absurd c_189 (by decide))
        refine r_ldc (z := 1000000000) dX1_fewestTicks_197 kc_X1_65 (by decide +kernel) ?_
        refine r_iast dX1_fewestTicks_199 sh_42 (by decide) (by omega) ?_
        refine r_iload dX1_fewestTicks_200 rfl ?_
        refine r_istore (L' := [_, _, _, _, _, _, _, _]) dX1_fewestTicks_202 rfl (by decide) rfl ?_
        refine r_iinc (L' := [_, _, _, _, _, _, _, _]) dX1_fewestTicks_204 rfl rfl (by decide) rfl ?_
        refine r_goto (tgt := 20) dX1_fewestTicks_207 rfl ?_
        rw [Int.toNat_natCast]
        first
          | exact K _ _ (fun _ => rfl) (fun z => absurd ⟨by omega, by rw [Int.toNat_natCast, Int.toNat_natCast] at b_186; exact b_186⟩ z)
          | exact K _ _ (fun z => absurd z.2 (by rw [Int.toNat_natCast, Int.toNat_natCast] at b_186; exact b_186)) (fun _ => rfl)
          | exact K _ _ (fun z => absurd z.1 (by omega)) (fun _ => rfl)
set_option maxRecDepth 20000 in
set_option maxHeartbeats 400000 in
theorem lp_ft2 {d : Nat} (hd : 4 ≤ d) {post : Pst} {h : Hp} {v d0 : Int} {i n1 n2 : Nat} (hw : WOK h) (hv : 1 ≤ v ∧ v ≤ (h 1 0)) (hd0 : 0 ≤ d0 ∧ d0 ≤ 50) (hn1 : (h 16 0) = n1) (hn2 : (h 23 0) = n2) (hn : n1 ≤ 150 ∧ n2 ≤ 150) (hi : i ≤ n1) (q1 : LR (h 20) (h 21) n1) (q2 : LR (h 27) (h 28) n2) (hx : XY (h 1 0) (h 1 1) (h 17) (h 18) n1) (hx2 : XY (h 1 0) (h 1 1) (h 24) (h 25) n2) (K : ∀ (g : Hp) (o4 o5 o6 o7 : Option AV), (∀ a j, a ≠ 42 → g a j = h a j) → (∀ j : Nat, j ≤ n2 → g 42 j = cv (tgF (clP (h 1 0) v d0 (h 17) (h 18) (h 24) (h 25)) (tkF (h 20) (h 21)) (tkF (h 27) (h 28)) i j)) → WW mX1_fewestTicks (d + 1) post 210 [some (.inr (.inr 41)), some (.inl v), some (.inl d0), some (.inl (i : Int)), o4, o5, o6, o7] [] g) : ∀ (nn : Nat) (k : Nat) (asl : Int) (g : Hp) (o6 o7 : Option AV), (k ≤ n2 + 1) → (∀ a j, a ≠ 42 → g a j = h a j) → (∀ j : Nat, j < k → g 42 j = cv (tgF (clP (h 1 0) v d0 (h 17) (h 18) (h 24) (h 25)) (tkF (h 20) (h 21)) (tkF (h 27) (h 28)) i j)) → (0 < i → ∀ j : Nat, k ≤ j → j ≤ n2 → g 42 j = cv (tgF (clP (h 1 0) v d0 (h 17) (h 18) (h 24) (h 25)) (tkF (h 20) (h 21)) (tkF (h 27) (h 28)) (i - 1) j)) → (asl = if i = 0 ∨ k = 0 then 1000000000 else cv (tgF (clP (h 1 0) v d0 (h 17) (h 18) (h 24) (h 25)) (tkF (h 20) (h 21)) (tkF (h 27) (h 28)) (i - 1) (k - 1))) → n2 + 1 - k < nn → WW mX1_fewestTicks (d + 1) post 20 [some (.inr (.inr 41)), some (.inl v), some (.inl d0), some (.inl (i : Int)), some (.inl asl), some (.inl (k : Int)), o6, o7] [] g := by
  intro nn
  induction nn with
  | zero => intro k asl g o6 o7 hk hg h1 h2 ha; intros; omega
  | succ nn ih =>
    intro k asl g o6 o7 hk hg h1 h2 ha hmu
    have w0 := hg 1 0 (by decide)
    have w1 := hg 1 1 (by decide)
    have w2 := hg 1 2 (by decide)
    have w3 := hg 1 3 (by decide)
    have w4 := hg 1 4 (by decide)
    have w5 := hg 1 5 (by decide)
    have w7 := hg 1 7 (by decide)
    have gw : WOK g := by omega
    have wn := hg 23 0 (by decide)
    have v17 : g 17 = h 17 := funext fun j => hg 17 j (by decide)
    have v18 : g 18 = h 18 := funext fun j => hg 18 j (by decide)
    have v20 : g 20 = h 20 := funext fun j => hg 20 j (by decide)
    have v21 : g 21 = h 21 := funext fun j => hg 21 j (by decide)
    have v24 : g 24 = h 24 := funext fun j => hg 24 j (by decide)
    have v25 : g 25 = h 25 := funext fun j => hg 25 j (by decide)
    have v27 : g 27 = h 27 := funext fun j => hg 27 j (by decide)
    have v28 : g 28 = h 28 := funext fun j => hg 28 j (by decide)
    refine r_iload dX1_fewestTicks_20 rfl ?_
    refine r_aload_n dX1_fewestTicks_22 rfl rfl ?_
    refine r_getR dX1_fewestTicks_23 fl_X1_42 sh_41 rfl ?_
    refine r_getI dX1_fewestTicks_26 fl_X1_62 sh_23 rfl ?_
    refine r_icmp_gt (tgt := 210) dX1_fewestTicks_29 rfl (by omega) (by omega) (fun c_29 => ?_) (fun c_29 => ?_)
    · have e : k = n2 + 1 := by omega
      subst e
      exact K g _ _ _ _ hg (fun j hj => h1 j (by omega))
    · have tr := tgF_r (c := (clP (h 1 0) v d0 (h 17) (h 18) (h 24) (h 25))) (t1 := (tkF (h 20) (h 21))) (t2 := (tkF (h 27) (h 28))) (n1 := n1) (n2 := n2) (fun i hi => tkF_r q1 (by omega)) (fun i hi => tkF_r q2 (by omega)) hn
      have G1 : LR (g 20) (g 21) n1 := by rw [v20, v21]; exact q1
      have G2 : LR (g 27) (g 28) n2 := by rw [v27, v28]; exact q2
      have ar : 0 ≤ asl ∧ asl ≤ 1000000000 := by
        rw [ha]
        split
        · decide
        · exact cv_lr (tr (i - 1) (by omega) (k - 1) (by omega)).1 (by omega)
      have qA : 0 < i → tgQ (tgF (clP (h 1 0) v d0 (h 17) (h 18) (h 24) (h 25)) (tkF (h 20) (h 21)) (tkF (h 27) (h 28)) (i - 1) k) (i - 1 + k) ∧ i - 1 + k ≤ 300 ∧ g 42 k = cv (tgF (clP (h 1 0) v d0 (h 17) (h 18) (h 24) (h 25)) (tkF (h 20) (h 21)) (tkF (h 27) (h 28)) (i - 1) k) := fun z => ⟨(tr (i - 1) (by omega) k (by omega)).1, by omega, h2 z k (Nat.le_refl k) (by omega)⟩
      have qB : 0 < k → tgQ (tgF (clP (h 1 0) v d0 (h 17) (h 18) (h 24) (h 25)) (tkF (h 20) (h 21)) (tkF (h 27) (h 28)) i (k - 1)) (i + (k - 1)) ∧ i + (k - 1) ≤ 300 ∧ g 42 (k - 1) = cv (tgF (clP (h 1 0) v d0 (h 17) (h 18) (h 24) (h 25)) (tkF (h 20) (h 21)) (tkF (h 27) (h 28)) i (k - 1)) := fun z => ⟨(tr i hi (k - 1) (by omega)).1, by omega, h1 (k - 1) (by omega)⟩
      have qC : 0 < i → 0 < k → tgQ (tgF (clP (h 1 0) v d0 (h 17) (h 18) (h 24) (h 25)) (tkF (h 20) (h 21)) (tkF (h 27) (h 28)) (i - 1) (k - 1)) (i - 1 + (k - 1)) ∧ i - 1 + (k - 1) ≤ 300 ∧ asl = cv (tgF (clP (h 1 0) v d0 (h 17) (h 18) (h 24) (h 25)) (tkF (h 20) (h 21)) (tkF (h 27) (h 28)) (i - 1) (k - 1)) := fun z y => ⟨(tr (i - 1) (by omega) (k - 1) (by omega)).1, by omega, by rw [ha, if_neg (by omega)]⟩
      have t1r : 0 < i → 0 ≤ tkF (g 20) (g 21) (i - 1) ∧ tkF (g 20) (g 21) (i - 1) ≤ 5660 := fun z => tkF_r G1 (by omega)
      have t2r : 0 < k → 0 ≤ tkF (g 27) (g 28) (k - 1) ∧ tkF (g 27) (g 28) (k - 1) ≤ 5660 := fun z => tkF_r G2 (by omega)
      refine sg_ft32 hd (by omega) (by omega) (fun ab eab => ?_) 1 _ trivial (by decide)
      have br : 0 ≤ ab ∧ ab ≤ 1000000000 := by
        rw [eab]
        split
        · decide
        · obtain ⟨T, T0, T1⟩ := qA (by omega)
          rw [T1]
          exact cv_lr T T0
      refine sg_ft50 hd (by omega) (by omega) (fun b0 eb0 => ?_) 1 _ trivial (by decide)
      have b0r : 0 ≤ b0 ∧ b0 ≤ 1000000000 := by rw [eb0]; split <;> decide
      refine sg_ft67 hd (by omega) (by omega) G1 G2 hn hi (by omega) (fun b1 eb1 => ?_) 1 () trivial (by decide)
      have b1r : 0 ≤ b1 ∧ b1 ≤ 1000000000 := by
        rw [eb1]
        split
        · exact b0r
        · have := t1r (by omega)
          omega
      refine sg_ft91 hd (fun z => by obtain ⟨T, T0, T1⟩ := qB z; have := cv_lr T T0; omega) (by omega) G1 G2 hn hi (by omega) (fun b2 eb2 => ?_) 1 () trivial (by decide)
      have b2r : 0 ≤ b2 ∧ b2 ≤ 1000000000 := by
        rw [eb2]
        split
        · exact b1r
        · obtain ⟨T, T0, T1⟩ := qB (by omega)
          have := cv_lr T T0
          have := t2r (by omega)
          omega
      refine sg_ft124 hd (by omega) (by omega) G1 G2 hn hi (by omega) (fun b3 eb3 => ?_) 1 () trivial (by decide)
      have b3r : 0 ≤ b3 ∧ b3 ≤ 1000000000 := by
        rw [eb3]
        split
        · exact b2r
        · have := t1r (by omega)
          have := t2r (by omega)
          omega
      have eab2 : 0 < i → ab = g 42 k := fun z => by rw [eab, if_neg (by omega)]
      have main := ft_main (A := tgA (clP (h 1 0) v d0 (h 17) (h 18) (h 24) (h 25)) (tkF (h 20) (h 21)) (tkF (h 27) (h 28)) i k) (B := tgB (clP (h 1 0) v d0 (h 17) (h 18) (h 24) (h 25)) (tkF (h 20) (h 21)) (tkF (h 27) (h 28)) i k) (C := tgC (clP (h 1 0) v d0 (h 17) (h 18) (h 24) (h 25)) (tkF (h 20) (h 21)) (tkF (h 27) (h 28)) i k) (fun z => by rw [eab2 z]; exact qA z) qB qC t1r t2r eb0 eb1 eb2 eb3 (by rw [v20, v21]; rfl) (by rw [v27, v28]; rfl) (by rw [v20, v21, v27, v28]; rfl)
      clear eb0 eb1 eb2 eb3 qA qB qC b0r b1r b2r tr
      refine sg_ft167 hd gw (by omega) (by omega) hd0 hn hi (by omega) (by rw [v17, v18, w0, w1]; exact hx) (by rw [v24, v25, w0, w1]; exact hx2) (fun z o z1 z2 => ?_) 1 () trivial (by decide)
      rw [v17, v18, v24, v25, w0] at z1 z2
      have ez : z = cv (tgF (clP (h 1 0) v d0 (h 17) (h 18) (h 24) (h 25)) (tkF (h 20) (h 21)) (tkF (h 27) (h 28)) i k) := by
        rw [tgF_eq]
        by_cases cl : clP (h 1 0) v d0 (h 17) (h 18) (h 24) (h 25) i k
        · rw [iteP_t cl]
          by_cases lt : b3 < 1000000000
          · rw [z1 ⟨lt, cl⟩, main.2 lt]
            unfold cv
            rw [if_pos (main.1.mp lt)]
          · rw [z2 (fun y => lt y.1)]
            unfold cv
            rw [if_neg (fun y => lt (main.1.mpr y))]
        · rw [iteP_f cl, z2 (fun y => cl y.2)]
          rfl
      clear main ar br b3r z1 z2
      refine ih (k + 1) ab _ _ _ (by omega) (fun a j y => by rw [up_nc y]; exact hg a j y) (fun j hj => ?_) (fun y j hj hj2 => ?_) ?_ (by omega)
      · by_cases e : j = k
        · rw [e, up_s]; exact ez
        · rw [up_nk e]; exact h1 j (by omega)
      · rw [up_nk (by omega)]; exact h2 y j (by omega) hj2
      · rw [eab]
        by_cases e : i = 0
        · rw [if_pos e, if_pos (Or.inl e)]
        · rw [if_neg e, if_neg (by omega), h2 (by omega) k (Nat.le_refl k) (by omega)]
          rfl
set_option maxRecDepth 20000 in
set_option maxHeartbeats 400000 in
theorem lp_ft1 {d : Nat} (hd : 4 ≤ d) {P : Int → Hp → Prop} {h : Hp} {v d0 : Int} {n1 n2 : Nat} (hw : WOK h) (hv : 1 ≤ v ∧ v ≤ (h 1 0)) (hd0 : 0 ≤ d0 ∧ d0 ≤ 50) (hn1 : (h 16 0) = n1) (hn2 : (h 23 0) = n2) (hn : n1 ≤ 150 ∧ n2 ≤ 150) (q1 : LR (h 20) (h 21) n1) (q2 : LR (h 27) (h 28) n2) (hx : XY (h 1 0) (h 1 1) (h 17) (h 18) n1) (hx2 : XY (h 1 0) (h 1 1) (h 24) (h 25) n2) (k : ∀ g : Hp, (∀ a j, a ≠ 42 → g a j = h a j) → P (fnTog n1 n2 (clP (h 1 0) v d0 (h 17) (h 18) (h 24) (h 25)) (tkF (h 20) (h 21)) (tkF (h 27) (h 28))) g) : ∀ (nn : Nat) (i : Nat) (g : Hp) (o4 o5 o6 o7 : Option AV), (i ≤ n1 + 1) → (∀ a j, a ≠ 42 → g a j = h a j) → (0 < i → ∀ j : Nat, j ≤ n2 → g 42 j = cv (tgF (clP (h 1 0) v d0 (h 17) (h 18) (h 24) (h 25)) (tkF (h 20) (h 21)) (tkF (h 27) (h 28)) (i - 1) j)) → n1 + 1 - i < nn → WW mX1_fewestTicks (d + 1) (pI P) 2 [some (.inr (.inr 41)), some (.inl v), some (.inl d0), some (.inl (i : Int)), o4, o5, o6, o7] [] g := by
  intro nn
  induction nn with
  | zero => intro i g o4 o5 o6 o7 hi hg h1; intros; omega
  | succ nn ih =>
    intro i g o4 o5 o6 o7 hi hg h1 hmu
    have wn1 := hg 16 0 (by decide)
    have wn2 := hg 23 0 (by decide)
    refine r_iload_n dX1_fewestTicks_2 rfl rfl ?_
    refine r_aload_n dX1_fewestTicks_3 rfl rfl ?_
    refine r_getR dX1_fewestTicks_4 fl_X1_38 sh_41 rfl ?_
    refine r_getI dX1_fewestTicks_7 fl_X1_62 sh_16 rfl ?_
    refine r_icmp_gt (tgt := 216) dX1_fewestTicks_10 rfl (by omega) (by omega) (fun c_10 => ?_) (fun c_10 => ?_)
    · have e : i = n1 + 1 := by omega
      subst e
      have f1 := h1 (by omega) n2 (Nat.le_refl _)
      have t := (tgF_r (c := (clP (h 1 0) v d0 (h 17) (h 18) (h 24) (h 25))) (t1 := (tkF (h 20) (h 21))) (t2 := (tkF (h 27) (h 28))) (n1 := n1) (n2 := n2) (fun i hi => tkF_r q1 (by omega)) (fun i hi => tkF_r q2 (by omega)) hn n1 (Nat.le_refl _) n2 (Nat.le_refl _)).1
      rw [show n1 + 1 - 1 = n1 by omega] at f1
      have en : (g 23 0).toNat = n2 := by omega
      have cr := cv_r t (by omega)
      rw [← en] at f1 cr
      refine r_aload_n dX1_fewestTicks_216 rfl rfl ?_
      refine r_getR dX1_fewestTicks_217 fl_X1_24 sh_41 rfl ?_
      refine r_aload_n dX1_fewestTicks_220 rfl rfl ?_
      refine r_getR dX1_fewestTicks_221 fl_X1_42 sh_41 rfl ?_
      refine r_getI dX1_fewestTicks_224 fl_X1_62 sh_23 rfl ?_
      refine r_iald dX1_fewestTicks_227 sh_42 (by decide) (by omega) ?_
      refine r_ldc (z := 1000000000) dX1_fewestTicks_228 kc_X1_65 (by decide +kernel) ?_
      refine r_icmp_ge (tgt := 248) dX1_fewestTicks_230 rfl (by omega) ⟨by decide, by decide⟩ (fun c_230 => ?_) (fun c_230 => ?_)
      · refine r_bipush dX1_fewestTicks_248 (by decide +kernel) ?_
        refine r_iret dX1_fewestTicks_250 rfl ?_
        refine ⟨_, rfl, eqP (k g hg) ?_⟩
        unfold fnTog
        rw [← en]
        first
          | (rw [if_pos (by omega)]; omega)
          | (rw [if_neg (by omega)])
      · refine r_aload_n dX1_fewestTicks_233 rfl rfl ?_
        refine r_getR dX1_fewestTicks_234 fl_X1_24 sh_41 rfl ?_
        refine r_aload_n dX1_fewestTicks_237 rfl rfl ?_
        refine r_getR dX1_fewestTicks_238 fl_X1_42 sh_41 rfl ?_
        refine r_getI dX1_fewestTicks_241 fl_X1_62 sh_23 rfl ?_
        refine r_iald dX1_fewestTicks_244 sh_42 (by decide) (by omega) ?_
        refine r_goto (tgt := 250) dX1_fewestTicks_245 rfl ?_
        refine r_iret dX1_fewestTicks_250 rfl ?_
        refine ⟨_, rfl, eqP (k g hg) ?_⟩
        unfold fnTog
        rw [← en]
        first
          | (rw [if_pos (by omega)]; omega)
          | (rw [if_neg (by omega)])
    · refine r_ldc (z := 1000000000) dX1_fewestTicks_13 kc_X1_65 (by decide +kernel) ?_
      refine r_istore (L' := [_, _, _, _, _, _, _, _]) dX1_fewestTicks_15 rfl (by decide) rfl ?_
      refine r_iconst dX1_fewestTicks_17 ?_
      refine r_istore (L' := [_, _, _, _, _, _, _, _]) dX1_fewestTicks_18 rfl (by decide) rfl ?_
      refine lp_ft2 hd (h := g) (i := i) (n1 := n1) (n2 := n2) ?_ (by rw [hg 1 0 (by decide)]; exact hv) hd0 (wn1.trans hn1) (wn2.trans hn2) hn (by omega) ?_ ?_ ?_ ?_ (fun g2 o4 o5 o6 o7 y0 y1 => ?_) 152 0 _ g _ _ (by omega) (fun _ _ _ => rfl) (fun j hj => absurd hj (Nat.not_lt_zero j)) (fun y j hj hj2 => ?_) ?_ (by omega)
      · have z0 := hg 1 0 (by decide)
        have z1 := hg 1 1 (by decide)
        have z2 := hg 1 2 (by decide)
        have z3 := hg 1 3 (by decide)
        have z4 := hg 1 4 (by decide)
        have z5 := hg 1 5 (by decide)
        have z7 := hg 1 7 (by decide)
        omega
      · rw [show g 20 = h 20 from funext fun j => hg 20 j (by decide), show g 21 = h 21 from funext fun j => hg 21 j (by decide)]; exact q1
      · rw [show g 27 = h 27 from funext fun j => hg 27 j (by decide), show g 28 = h 28 from funext fun j => hg 28 j (by decide)]; exact q2
      · rw [hg 1 0 (by decide), hg 1 1 (by decide), show g 17 = h 17 from funext fun j => hg 17 j (by decide), show g 18 = h 18 from funext fun j => hg 18 j (by decide)]; exact hx
      · rw [hg 1 0 (by decide), hg 1 1 (by decide), show g 24 = h 24 from funext fun j => hg 24 j (by decide), show g 25 = h 25 from funext fun j => hg 25 j (by decide)]; exact hx2
      · refine r_iinc (L' := [_, _, _, _, _, _, _, _]) dX1_fewestTicks_210 rfl rfl (by decide) rfl ?_
        refine r_goto (tgt := 2) dX1_fewestTicks_213 rfl ?_
        refine ih (i + 1) g2 _ _ _ _ (by omega) (fun a j z => (y0 a j z).trans (hg a j z)) (fun _ j hj => ?_) (by omega)
        rw [y1 j hj, show i + 1 - 1 = i by omega, hg 1 0 (by decide), show g 17 = h 17 from funext fun j => hg 17 j (by decide), show g 18 = h 18 from funext fun j => hg 18 j (by decide), show g 24 = h 24 from funext fun j => hg 24 j (by decide), show g 25 = h 25 from funext fun j => hg 25 j (by decide), show g 20 = h 20 from funext fun j => hg 20 j (by decide), show g 21 = h 21 from funext fun j => hg 21 j (by decide), show g 27 = h 27 from funext fun j => hg 27 j (by decide), show g 28 = h 28 from funext fun j => hg 28 j (by decide)]
      · rw [h1 y j hj2, hg 1 0 (by decide), show g 17 = h 17 from funext fun j => hg 17 j (by decide), show g 18 = h 18 from funext fun j => hg 18 j (by decide), show g 24 = h 24 from funext fun j => hg 24 j (by decide), show g 25 = h 25 from funext fun j => hg 25 j (by decide), show g 20 = h 20 from funext fun j => hg 20 j (by decide), show g 21 = h 21 from funext fun j => hg 21 j (by decide), show g 27 = h 27 from funext fun j => hg 27 j (by decide), show g 28 = h 28 from funext fun j => hg 28 j (by decide)]
      · rw [if_pos (Or.inr rfl)]
set_option maxRecDepth 20000 in
set_option maxHeartbeats 400000 in
theorem sp_X1_fewestTicks {d : Nat} (hd : 5 ≤ d) {v d0 : Int} {h : Hp} {n1 n2 : Nat} (hw : WOK h) (hv : 1 ≤ v ∧ v ≤ (h 1 0)) (hd0 : 0 ≤ d0 ∧ d0 ≤ 50) (hn1 : (h 16 0) = n1) (hn2 : (h 23 0) = n2) (hn : n1 ≤ 150 ∧ n2 ≤ 150) (q1 : LR (h 20) (h 21) n1) (q2 : LR (h 27) (h 28) n2) (hx : XY (h 1 0) (h 1 1) (h 17) (h 18) n1) (hx2 : XY (h 1 0) (h 1 1) (h 24) (h 25) n2) {P : Int → Hp → Prop} (k : ∀ h' : Hp, (∀ a j, a ≠ 42 → h' a j = h a j) → P (fnTog n1 n2 (clP (h 1 0) v d0 (h 17) (h 18) (h 24) (h 25)) (tkF (h 20) (h 21)) (tkF (h 27) (h 28))) h') : Cl d mX1_fewestTicks [.inr (.inr 41), .inl v, .inl d0] h (pI P) := by
  refine Cl.of (L := [some (.inr (.inr 41)), some (.inl v), some (.inl d0), none, none, none, none, none]) (by decide +kernel) (Nat.le_of_ble_eq_true rfl) rfl ?_
  obtain ⟨d, rfl⟩ : ∃ q, d = q + 1 := ⟨d - 1, by omega⟩
  refine r_iconst dX1_fewestTicks_0 ?_
  refine r_istore_n (L' := [_, _, _, _, _, _, _, _]) dX1_fewestTicks_1 rfl rfl (by decide) rfl ?_
  exact lp_ft1 (by omega) hw hv hd0 hn1 hn2 hn q1 q2 hx hx2 k 152 0 h _ _ _ _ (by omega) (fun _ _ _ => rfl) (fun z => absurd z (by omega)) (by omega)
set_option maxRecDepth 20000 in
set_option maxHeartbeats 400000 in
theorem sp_X11_together {d : Nat} (hd : 6 ≤ d) {v d0 : Int} {h : Hp} {n1 n2 : Nat} (hw : WOK h) (hv : R32 v) (hd0 : R32 d0) (hn1 : (h 16 0) = n1) (hn2 : (h 23 0) = n2) (hn : n1 ≤ 150 ∧ n2 ≤ 150) (q1 : LR (h 20) (h 21) n1) (q2 : LR (h 27) (h 28) n2) (hx : XY (h 1 0) (h 1 1) (h 17) (h 18) n1) (hx2 : XY (h 1 0) (h 1 1) (h 24) (h 25) n2) {P : Int → Hp → Prop} (k : ∀ h' : Hp, (FrC h h') → P (if (1 ≤ v ∧ v ≤ (h 1 0)) ∧ (0 ≤ d0 ∧ d0 ≤ 50) then fnTog n1 n2 (clP (h 1 0) v d0 (h 17) (h 18) (h 24) (h 25)) (tkF (h 20) (h 21)) (tkF (h 27) (h 28)) else -1) h') : Cl d mX11_together [.inr (.inr 0), .inl v, .inl d0] h (pI P) := by
  refine Cl.of (L := [some (.inr (.inr 0)), some (.inl v), some (.inl d0)]) (by decide +kernel) (Nat.le_of_ble_eq_true rfl) rfl ?_
  obtain ⟨d, rfl⟩ : ∃ q, d = q + 1 := ⟨d - 1, by omega⟩
  refine r_aload_n dX11_together_0 rfl rfl ?_
  refine r_iload_n dX11_together_1 rfl rfl ?_
  refine r_iload_n dX11_together_2 rfl rfl ?_
  refine r_callVI (av := [_, _]) (M' := mX11_isPairing) dX11_together_3 vX11_isPairing ml_X11_279 sh_0 (by decide) rfl rfl rfl rfl (by simp [wtA]) (sp_X11_isPairing (by omega) (by omega) (by omega) (by omega) (fun b_3 => ?_) (fun b_3 => ?_))
  · refine r_if_eq (tgt := 21) dX11_together_6 rfl ⟨by decide, by decide⟩ (fun c_6 => absurd c_6 (by decide)) (fun c_6 => ?_)
    refine r_aload_n dX11_together_9 rfl rfl ?_
    refine r_getR dX11_together_10 fl_X11_81 sh_0 rfl ?_
    refine r_iload_n dX11_together_13 rfl rfl ?_
    refine r_iload_n dX11_together_14 rfl rfl ?_
    refine r_callVI (av := [_, _]) (M' := mX1_fewestTicks) dX11_together_15 vX1_fewestTicks ml_X11_286 sh_41 (by decide) rfl rfl rfl rfl (by simp [wtA]) (sp_X1_fewestTicks (by omega) (by omega) (by omega) (by omega) hn1 hn2 hn q1 q2 hx hx2 (fun h_15 f0_15 => ?_))
    refine r_goto (tgt := 22) dX11_together_18 rfl ?_
    refine r_iret dX11_together_22 rfl ?_
    refine ⟨_, rfl, eqP (k _ ⟨fun a j z => f0_15 a j (by rintro rfl; cases z), by rw [f0_15 1 7 (by decide)]; omega⟩) ?_⟩
    rw [if_pos (by omega)]
  · refine r_if_eq (tgt := 21) dX11_together_6 rfl ⟨by decide, by decide⟩ (fun c_6 => ?_) (fun c_6 => absurd c_6 (by decide))
    refine r_iconst dX11_together_21 ?_
    refine r_iret dX11_together_22 rfl ?_
    refine ⟨_, rfl, eqP (k h (FrC.rf hw)) ?_⟩
    rw [if_neg (by omega)]
