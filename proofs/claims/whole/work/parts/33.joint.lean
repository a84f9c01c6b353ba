/-! JOINT: a list, last height first, and an array that holds it -/
def insR (v : Int) : List Int → List Int
  | [] => [v]
  | a :: t => if v < a then a :: insR v t else v :: a :: t
theorem insR_len (v : Int) : ∀ r : List Int, (insR v r).length = r.length + 1
  | [] => rfl
  | a :: t => by
    unfold insR
    split
    · simp only [List.length_cons, insR_len v t]
    · rfl
theorem insR_comm (v w : Int) : ∀ r : List Int, insR v (insR w r) = insR w (insR v r)
  | [] => by
    simp only [insR]
    by_cases p : v < w
    · rw [if_pos p, if_neg (by omega)]
    · by_cases q : w < v
      · rw [if_neg p, if_pos q]
      · have e : v = w := by omega
        rw [e]
  | a :: t => by
    by_cases p : v < a <;> by_cases q : w < a
    · simp only [insR, if_pos p, if_pos q, insR_comm v w t]
    · simp only [insR, if_pos p, if_neg q]
      rw [if_pos (by omega)]
    · simp only [insR, if_neg p, if_pos q]
      rw [if_pos (by omega)]
    · simp only [insR, if_neg p, if_neg q]
      by_cases y : v < w
      · rw [if_pos y, if_neg (by omega)]
      · by_cases z : w < v
        · rw [if_neg y, if_pos z]
        · have e : v = w := by omega
          rw [e]
def RV (f : Nat → Int) : List Int → Prop
  | [] => True
  | a :: t => f t.length = a ∧ RV f t
theorem RV.cg {f g : Nat → Int} : ∀ {r : List Int}, RV f r → (∀ k : Nat, k < r.length → g k = f k) → RV g r
  | [], _, _ => trivial
  | _ :: t, h, e => ⟨(e t.length (by simp only [List.length_cons]; omega)).trans h.1, RV.cg h.2 (fun k hk => e k (by simp only [List.length_cons]; omega))⟩
def LB (H : Int) (r : List Int) : Prop := ∀ z ∈ r, 0 ≤ z ∧ z ≤ H
theorem LB.ins {H v : Int} (hv : 0 ≤ v ∧ v ≤ H) : ∀ {r : List Int}, LB H r → LB H (insR v r)
  | [], _ => fun z hz => by
    rw [insR, List.mem_singleton] at hz
    omega
  | a :: t, h => by
    unfold insR
    split
    · intro z hz
      rcases List.mem_cons.mp hz with rfl | q
      · exact h _ (List.mem_cons_self ..)
      · exact LB.ins hv (fun z hz => h z (List.mem_cons_of_mem _ hz)) z q
    · intro z hz
      rcases List.mem_cons.mp hz with rfl | q
      · exact hv
      · exact h z q
set_option maxRecDepth 20000 in
set_option maxHeartbeats 400000 in
theorem lp_sortIn43 {d : Nat} {P : Hp → Prop} {m v : Int} (hv : 0 ≤ v ∧ v ≤ 400) : ∀ (nn : Nat) (r : List Int) (n : Nat) (g : Hp), (r.length = n) → (n ≤ 299) → (RV (g 43) r) → (LB 400 r) → (∀ g2 : Hp, (∀ a k, a ≠ 43 → g2 a k = g a k) → RV (g2 43) (insR v r) → (∀ k : Nat, n < k → g2 43 k = g 43 k) → P g2) → n < nn → WW mX1_sortIn d (pV P) 2 [some (.inr (.inr 43)), some (.inl m), some (.inl v), some (.inl (n : Int))] [] g := by
  intro nn
  induction nn with
  | zero => intro r n g hn hN hr hb hk; intros; omega
  | succ nn ih =>
    intro r n g hn hN hr hb hk hmu
    refine r_iload_n dX1_sortIn_2 rfl rfl ?_
    refine r_if_le (tgt := 29) dX1_sortIn_3 rfl (by omega) (fun c_3 => ?_) (fun c_3 => ?_)
    · refine r_aload_n dX1_sortIn_29 rfl rfl ?_
      refine r_iload_n dX1_sortIn_30 rfl rfl ?_
      refine r_iload_n dX1_sortIn_31 rfl rfl ?_
      refine r_iast dX1_sortIn_32 sh_43 (by decide) (by omega) ?_
      refine r_vret dX1_sortIn_33 rfl ?_
      refine ⟨rfl, hk _ (fun a k ha => ?_) ?_ (fun k hk => ?_)⟩
      · unfold upH
        rw [if_neg (by omega)]
      · have eu : ∀ k : Nat, k ≠ n → upH g 43 (n : Int).toNat v 43 k = g 43 k := fun k hk => by
          unfold upH
          rw [if_neg (by omega)]
        have ev : upH g 43 (n : Int).toNat v 43 n = v := by
          unfold upH
          rw [if_pos ⟨rfl, by omega⟩]
        first
          | (rw [insR, if_neg (by omega)]
             exact ⟨by rw [hn]; exact ev, hr.cg (fun k hk => eu k (by omega))⟩)
          | (have er : r = [] := List.length_eq_zero_iff.mp (by omega)
             subst er
             have n0 : n = 0 := by rw [← hn]; rfl
             rw [n0] at ev
             rw [n0]
             exact ⟨ev, trivial⟩)
      · unfold upH
        rw [if_neg (by omega)]
    · obtain ⟨a, t, rfl⟩ : ∃ a t, r = a :: t := by
        cases r with
        | nil => exact absurd hn (by simp only [List.length_nil]; omega)
        | cons a t => exact ⟨a, t, rfl⟩
      have ht : t.length + 1 = n := by rw [← hn]; rfl
      have ea : g 43 ((n : Int) - 1).toNat = a := by rw [show ((n : Int) - 1).toNat = t.length by omega]; exact hr.1
      have ba := hb a (List.mem_cons_self ..)
      refine r_aload_n dX1_sortIn_6 rfl rfl ?_
      refine r_iload_n dX1_sortIn_7 rfl rfl ?_
      refine r_iconst dX1_sortIn_8 ?_
      refine r_isub dX1_sortIn_9 ?_
      refine r_iald dX1_sortIn_10 sh_43 (by decide) (by omega) ?_
      refine r_iload_n dX1_sortIn_11 rfl rfl ?_
      refine r_icmp_le (tgt := 29) dX1_sortIn_12 rfl (by omega) (by omega) (fun c_12 => ?_) (fun c_12 => ?_)
      · refine r_aload_n dX1_sortIn_29 rfl rfl ?_
        refine r_iload_n dX1_sortIn_30 rfl rfl ?_
        refine r_iload_n dX1_sortIn_31 rfl rfl ?_
        refine r_iast dX1_sortIn_32 sh_43 (by decide) (by omega) ?_
        refine r_vret dX1_sortIn_33 rfl ?_
        refine ⟨rfl, hk _ (fun a k ha => ?_) ?_ (fun k hk => ?_)⟩
        · unfold upH
          rw [if_neg (by omega)]
        · have eu : ∀ k : Nat, k ≠ n → upH g 43 (n : Int).toNat v 43 k = g 43 k := fun k hk => by
            unfold upH
            rw [if_neg (by omega)]
          have ev : upH g 43 (n : Int).toNat v 43 n = v := by
            unfold upH
            rw [if_pos ⟨rfl, by omega⟩]
          first
            | (rw [insR, if_neg (by omega)]
               exact ⟨by rw [hn]; exact ev, hr.cg (fun k hk => eu k (by omega))⟩)
            | (have er : r = [] := List.length_eq_zero_iff.mp (by omega)
               subst er
               have n0 : n = 0 := by rw [← hn]; rfl
               rw [n0] at ev
               rw [n0]
               exact ⟨ev, trivial⟩)
        · unfold upH
          rw [if_neg (by omega)]
      · refine r_aload_n dX1_sortIn_15 rfl rfl ?_
        refine r_iload_n dX1_sortIn_16 rfl rfl ?_
        refine r_aload_n dX1_sortIn_17 rfl rfl ?_
        refine r_iload_n dX1_sortIn_18 rfl rfl ?_
        refine r_iconst dX1_sortIn_19 ?_
        refine r_isub dX1_sortIn_20 ?_
        refine r_iald dX1_sortIn_21 sh_43 (by decide) (by omega) ?_
        refine r_iast dX1_sortIn_22 sh_43 (by decide) (by omega) ?_
        refine r_iinc (L' := [_, _, _, _]) dX1_sortIn_23 rfl rfl (by decide) rfl ?_
        refine r_goto (tgt := 2) dX1_sortIn_26 rfl ?_
        have ev : upH g 43 (n : Int).toNat a 43 n = a := by
          unfold upH
          rw [if_pos ⟨rfl, by omega⟩]
        have eu : ∀ k : Nat, k ≠ n → upH g 43 (n : Int).toNat a 43 k = g 43 k := fun k hk => by
          unfold upH
          rw [if_neg (by omega)]
        rw [ea, show (n : Int) + -1 = ((n - 1 : Nat) : Int) by omega]
        refine ih t (n - 1) (upH g 43 (n : Int).toNat a) (by omega) (by omega) (hr.2.cg (fun k hk => eu k (by omega))) (fun z hz => hb z (List.mem_cons_of_mem _ hz)) (fun g2 z1 z2 z3 => ?_) (by omega)
        refine hk g2 (fun a2 k ha => (z1 a2 k ha).trans (by unfold upH; rw [if_neg (by omega)])) ?_ (fun k hk => (z3 k (by omega)).trans (eu k (by omega)))
        rw [insR, if_pos (by omega)]
        refine ⟨?_, z2⟩
        rw [insR_len, ht]
        exact (z3 n (by omega)).trans ev
set_option maxRecDepth 20000 in
set_option maxHeartbeats 400000 in
theorem sp_X1_sortIn_43 {d : Nat} (hd : 1 ≤ d) {m v : Int} {h : Hp} {r : List Int} (hm : m = r.length) (hN : r.length ≤ 299) (hr : RV (h 43) r) (hb : LB 400 r) (hv : 0 ≤ v ∧ v ≤ 400) {P : Hp → Prop} (k : ∀ h' : Hp, (∀ a k, a ≠ 43 → h' a k = h a k) → (RV (h' 43) (insR v r)) → P h') : Cl d mX1_sortIn [.inr (.inr 43), .inl m, .inl v] h (pV P) := by
  refine Cl.of (L := [some (.inr (.inr 43)), some (.inl m), some (.inl v), none]) (by decide +kernel) (Nat.le_of_ble_eq_true rfl) rfl ?_
  refine r_iload_n dX1_sortIn_0 rfl rfl ?_
  refine r_nmI (fun x3_1 e_x3_1 => ?_)
  refine r_istore_n (L' := [_, _, _, _]) dX1_sortIn_1 rfl rfl (by decide) rfl ?_
  rw [hm]
  exact lp_sortIn43 hv (r.length + 1) r _ h rfl hN hr hb (fun g2 z1 z2 _ => k g2 z1 z2) (by omega)
set_option maxRecDepth 20000 in
set_option maxHeartbeats 400000 in
theorem lp_sortIn44 {d : Nat} {P : Hp → Prop} {m v : Int} (hv : 0 ≤ v ∧ v ≤ 400) : ∀ (nn : Nat) (r : List Int) (n : Nat) (g : Hp), (r.length = n) → (n ≤ 299) → (RV (g 44) r) → (LB 400 r) → (∀ g2 : Hp, (∀ a k, a ≠ 44 → g2 a k = g a k) → RV (g2 44) (insR v r) → (∀ k : Nat, n < k → g2 44 k = g 44 k) → P g2) → n < nn → WW mX1_sortIn d (pV P) 2 [some (.inr (.inr 44)), some (.inl m), some (.inl v), some (.inl (n : Int))] [] g := by
  intro nn
  induction nn with
  | zero => intro r n g hn hN hr hb hk; intros; omega
  | succ nn ih =>
    intro r n g hn hN hr hb hk hmu
    refine r_iload_n dX1_sortIn_2 rfl rfl ?_
    refine r_if_le (tgt := 29) dX1_sortIn_3 rfl (by omega) (fun c_3 => ?_) (fun c_3 => ?_)
    · refine r_aload_n dX1_sortIn_29 rfl rfl ?_
      refine r_iload_n dX1_sortIn_30 rfl rfl ?_
      refine r_iload_n dX1_sortIn_31 rfl rfl ?_
      refine r_iast dX1_sortIn_32 sh_44 (by decide) (by omega) ?_
      refine r_vret dX1_sortIn_33 rfl ?_
      refine ⟨rfl, hk _ (fun a k ha => ?_) ?_ (fun k hk => ?_)⟩
      · unfold upH
        rw [if_neg (by omega)]
      · have eu : ∀ k : Nat, k ≠ n → upH g 44 (n : Int).toNat v 44 k = g 44 k := fun k hk => by
          unfold upH
          rw [if_neg (by omega)]
        have ev : upH g 44 (n : Int).toNat v 44 n = v := by
          unfold upH
          rw [if_pos ⟨rfl, by omega⟩]
        first
          | (rw [insR, if_neg (by omega)]
             exact ⟨by rw [hn]; exact ev, hr.cg (fun k hk => eu k (by omega))⟩)
          | (have er : r = [] := List.length_eq_zero_iff.mp (by omega)
             subst er
             have n0 : n = 0 := by rw [← hn]; rfl
             rw [n0] at ev
             rw [n0]
             exact ⟨ev, trivial⟩)
      · unfold upH
        rw [if_neg (by omega)]
    · obtain ⟨a, t, rfl⟩ : ∃ a t, r = a :: t := by
        cases r with
        | nil => exact absurd hn (by simp only [List.length_nil]; omega)
        | cons a t => exact ⟨a, t, rfl⟩
      have ht : t.length + 1 = n := by rw [← hn]; rfl
      have ea : g 44 ((n : Int) - 1).toNat = a := by rw [show ((n : Int) - 1).toNat = t.length by omega]; exact hr.1
      have ba := hb a (List.mem_cons_self ..)
      refine r_aload_n dX1_sortIn_6 rfl rfl ?_
      refine r_iload_n dX1_sortIn_7 rfl rfl ?_
      refine r_iconst dX1_sortIn_8 ?_
      refine r_isub dX1_sortIn_9 ?_
      refine r_iald dX1_sortIn_10 sh_44 (by decide) (by omega) ?_
      refine r_iload_n dX1_sortIn_11 rfl rfl ?_
      refine r_icmp_le (tgt := 29) dX1_sortIn_12 rfl (by omega) (by omega) (fun c_12 => ?_) (fun c_12 => ?_)
      · refine r_aload_n dX1_sortIn_29 rfl rfl ?_
        refine r_iload_n dX1_sortIn_30 rfl rfl ?_
        refine r_iload_n dX1_sortIn_31 rfl rfl ?_
        refine r_iast dX1_sortIn_32 sh_44 (by decide) (by omega) ?_
        refine r_vret dX1_sortIn_33 rfl ?_
        refine ⟨rfl, hk _ (fun a k ha => ?_) ?_ (fun k hk => ?_)⟩
        · unfold upH
          rw [if_neg (by omega)]
        · have eu : ∀ k : Nat, k ≠ n → upH g 44 (n : Int).toNat v 44 k = g 44 k := fun k hk => by
            unfold upH
            rw [if_neg (by omega)]
          have ev : upH g 44 (n : Int).toNat v 44 n = v := by
            unfold upH
            rw [if_pos ⟨rfl, by omega⟩]
          first
            | (rw [insR, if_neg (by omega)]
               exact ⟨by rw [hn]; exact ev, hr.cg (fun k hk => eu k (by omega))⟩)
            | (have er : r = [] := List.length_eq_zero_iff.mp (by omega)
               subst er
               have n0 : n = 0 := by rw [← hn]; rfl
               rw [n0] at ev
               rw [n0]
               exact ⟨ev, trivial⟩)
        · unfold upH
          rw [if_neg (by omega)]
      · refine r_aload_n dX1_sortIn_15 rfl rfl ?_
        refine r_iload_n dX1_sortIn_16 rfl rfl ?_
        refine r_aload_n dX1_sortIn_17 rfl rfl ?_
        refine r_iload_n dX1_sortIn_18 rfl rfl ?_
        refine r_iconst dX1_sortIn_19 ?_
        refine r_isub dX1_sortIn_20 ?_
        refine r_iald dX1_sortIn_21 sh_44 (by decide) (by omega) ?_
        refine r_iast dX1_sortIn_22 sh_44 (by decide) (by omega) ?_
        refine r_iinc (L' := [_, _, _, _]) dX1_sortIn_23 rfl rfl (by decide) rfl ?_
        refine r_goto (tgt := 2) dX1_sortIn_26 rfl ?_
        have ev : upH g 44 (n : Int).toNat a 44 n = a := by
          unfold upH
          rw [if_pos ⟨rfl, by omega⟩]
        have eu : ∀ k : Nat, k ≠ n → upH g 44 (n : Int).toNat a 44 k = g 44 k := fun k hk => by
          unfold upH
          rw [if_neg (by omega)]
        rw [ea, show (n : Int) + -1 = ((n - 1 : Nat) : Int) by omega]
        refine ih t (n - 1) (upH g 44 (n : Int).toNat a) (by omega) (by omega) (hr.2.cg (fun k hk => eu k (by omega))) (fun z hz => hb z (List.mem_cons_of_mem _ hz)) (fun g2 z1 z2 z3 => ?_) (by omega)
        refine hk g2 (fun a2 k ha => (z1 a2 k ha).trans (by unfold upH; rw [if_neg (by omega)])) ?_ (fun k hk => (z3 k (by omega)).trans (eu k (by omega)))
        rw [insR, if_pos (by omega)]
        refine ⟨?_, z2⟩
        rw [insR_len, ht]
        exact (z3 n (by omega)).trans ev
set_option maxRecDepth 20000 in
set_option maxHeartbeats 400000 in
theorem sp_X1_sortIn_44 {d : Nat} (hd : 1 ≤ d) {m v : Int} {h : Hp} {r : List Int} (hm : m = r.length) (hN : r.length ≤ 299) (hr : RV (h 44) r) (hb : LB 400 r) (hv : 0 ≤ v ∧ v ≤ 400) {P : Hp → Prop} (k : ∀ h' : Hp, (∀ a k, a ≠ 44 → h' a k = h a k) → (RV (h' 44) (insR v r)) → P h') : Cl d mX1_sortIn [.inr (.inr 44), .inl m, .inl v] h (pV P) := by
  refine Cl.of (L := [some (.inr (.inr 44)), some (.inl m), some (.inl v), none]) (by decide +kernel) (Nat.le_of_ble_eq_true rfl) rfl ?_
  refine r_iload_n dX1_sortIn_0 rfl rfl ?_
  refine r_nmI (fun x3_1 e_x3_1 => ?_)
  refine r_istore_n (L' := [_, _, _, _]) dX1_sortIn_1 rfl rfl (by decide) rfl ?_
  rw [hm]
  exact lp_sortIn44 hv (r.length + 1) r _ h rfl hN hr hb (fun g2 z1 z2 _ => k g2 z1 z2) (by omega)
def gs (x y : Nat → Int) (X : Int) (m : Nat) (r : List Int) : List Int := if x m = X then insR (y m) r else r
def gatL (x y c : Nat → Int) (X : Int) : Nat → List Int
  | 0 => []
  | m + 1 => if c (m + 1) = 0 then gatL x y c X m else gs x y X (m + 1) (gs x y X m (gatL x y c X m))
theorem gs_comm (x y : Nat → Int) (X : Int) (m n : Nat) (r : List Int) : gs x y X m (gs x y X n r) = gs x y X n (gs x y X m r) := by
  unfold gs
  by_cases p : x m = X <;> by_cases q : x n = X
  · simp only [if_pos p, if_pos q, insR_comm]
  · simp only [if_pos p, if_neg q]
  · simp only [if_neg p, if_pos q]
  · simp only [if_neg p, if_neg q]
theorem gs_len (x y : Nat → Int) (X : Int) (m : Nat) (r : List Int) : r.length ≤ (gs x y X m r).length ∧ (gs x y X m r).length ≤ r.length + 1 := by
  unfold gs
  split
  · rw [insR_len]
    omega
  · omega
theorem gatL_len (x y c : Nat → Int) (X : Int) : ∀ m : Nat, (gatL x y c X m).length ≤ 2 * m
  | 0 => Nat.le_refl _
  | m + 1 => by
    have i := gatL_len x y c X m
    rw [gatL]
    split
    · omega
    · have a := gs_len x y X m (gatL x y c X m)
      have b := gs_len x y X (m + 1) (gs x y X m (gatL x y c X m))
      omega
theorem gs_LB {x y : Nat → Int} {X H : Int} {m : Nat} {r : List Int} (hy : 0 ≤ y m ∧ y m ≤ H) (h : LB H r) : LB H (gs x y X m r) := by
  unfold gs
  split
  · exact LB.ins hy h
  · exact h
theorem gatL_LB {x y c : Nat → Int} {X H : Int} : ∀ {m : Nat}, (∀ k : Nat, k ≤ m → 0 ≤ y k ∧ y k ≤ H) → LB H (gatL x y c X m)
  | 0, _ => fun _ hz => absurd hz List.not_mem_nil
  | m + 1, h => by
    have i := gatL_LB (x := x) (c := c) (X := X) (m := m) (fun k hk => h k (by omega))
    rw [gatL]
    split
    · exact i
    · exact gs_LB (h _ (by omega)) (gs_LB (h _ (by omega)) i)
