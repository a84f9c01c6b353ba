/-! JOINT: a list, last height first, and an array that holds it -/
def insR (v : Int) : List Int → List Int
  | [] => [v]
  | a :: t => if v < a then a :: insR v t else v :: a :: t
theorem insR_len (v : Int) : ∀ r : List Int, (insR v r).length = r.length + 1
  | [] => rfl
  | a :: t => by
    unfold insR
    split
    · simp only [List.length_cons, insR_len v t]
    · rfl
theorem insR_comm (v w : Int) : ∀ r : List Int, insR v (insR w r) = insR w (insR v r)
  | [] => by
    simp only [insR]
    by_cases p : v < w
    · rw [if_pos p, if_neg (by omega)]
    · by_cases q : w < v
      · rw [if_neg p, if_pos q]
      · have e : v = w := by omega
        rw [e]
  | a :: t => by
    by_cases p : v < a <;> by_cases q : w < a
    · simp only [insR, if_pos p, if_pos q, insR_comm v w t]
    · simp only [insR, if_pos p, if_neg q]
      rw [if_pos (by omega)]
    · simp only [insR, if_neg p, if_pos q]
      rw [if_pos (by omega)]
    · simp only [insR, if_neg p, if_neg q]
      by_cases y : v < w
      · rw [if_pos y, if_neg (by omega)]
      · by_cases z : w < v
        · rw [if_neg y, if_pos z]
        · have e : v = w := by omega
          rw [e]
def RV (f : Nat → Int) : List Int → Prop
  | [] => True
  | a :: t => f t.length = a ∧ RV f t
theorem RV.cg {f g : Nat → Int} : ∀ {r : List Int}, RV f r → (∀ k : Nat, k < r.length → g k = f k) → RV g r
  | [], _, _ => trivial
  | _ :: t, h, e => ⟨(e t.length (by simp only [List.length_cons]; omega)).trans h.1, RV.cg h.2 (fun k hk => e k (by simp only [List.length_cons]; omega))⟩
def LB (H : Int) (r : List Int) : Prop := ∀ z ∈ r, 0 ≤ z ∧ z ≤ H
theorem LB.ins {H v : Int} (hv : 0 ≤ v ∧ v ≤ H) : ∀ {r : List Int}, LB H r → LB H (insR v r)
  | [], _ => fun z hz => by
    rw [insR, List.mem_singleton] at hz
    omega
  | a :: t, h => by
    unfold insR
    split
    · intro z hz
      rcases List.mem_cons.mp hz with rfl | q
      · exact h _ (List.mem_cons_self ..)
      · exact LB.ins hv (fun z hz => h z (List.mem_cons_of_mem _ hz)) z q
    · intro z hz
      rcases List.mem_cons.mp hz with rfl | q
      · exact hv
      · exact h z q
set_option maxRecDepth 20000 in
set_option maxHeartbeats 400000 in
theorem lp_sortIn43 {d : Nat} {P : Hp → Prop} {m v : Int} (hv : 0 ≤ v ∧ v ≤ 400) : ∀ (nn : Nat) (r : List Int) (n : Nat) (g : Hp), (r.length = n) → (n ≤ 299) → (RV (g 43) r) → (LB 400 r) → (∀ g2 : Hp, (∀ a k, a ≠ 43 → g2 a k = g a k) → RV (g2 43) (insR v r) → (∀ k : Nat, n < k → g2 43 k = g 43 k) → P g2) → n < nn → WW mX1_sortIn d (pV P) 2 [some (.inr (.inr 43)), some (.inl m), some (.inl v), some (.inl (n : Int))] [] g := by
  intro nn
  induction nn with
  | zero => intro r n g hn hN hr hb hk; intros; omega
  | succ nn ih =>
    intro r n g hn hN hr hb hk hmu
    refine r_iload_n dX1_sortIn_2 rfl rfl ?_
    refine r_if_le (tgt := 29) dX1_sortIn_3 rfl (by omega) (fun c_3 => ?_) (fun c_3 => ?_)
    · refine r_aload_n dX1_sortIn_29 rfl rfl ?_
      refine r_iload_n dX1_sortIn_30 rfl rfl ?_
      refine r_iload_n dX1_sortIn_31 rfl rfl ?_
      refine r_iast dX1_sortIn_32 sh_43 (by decide) (by omega) ?_
      refine r_vret dX1_sortIn_33 rfl ?_
      refine ⟨rfl, hk _ (fun a k ha => ?_) ?_ (fun k hk => ?_)⟩
      · unfold upH
        rw [if_neg (by omega)]
      · have eu : ∀ k : Nat, k ≠ n → upH g 43 (n : Int).toNat v 43 k = g 43 k := fun k hk => by
          unfold upH
          rw [if_neg (by omega)]
        have ev : upH g 43 (n : Int).toNat v 43 n = v := by
          unfold upH
          rw [if_pos ⟨rfl, by omega⟩]
        first
          | (rw [insR, if_neg (by omega)]
             exact ⟨by rw [hn]; exact ev, hr.cg (fun k hk => eu k (by omega))⟩)
          | (have er : r = [] := List.length_eq_zero_iff.mp (by omega)
             subst er
             have n0 : n = 0 := by rw [← hn]; rfl
             rw [n0] at ev
             rw [n0]
             exact ⟨ev, trivial⟩)
      · unfold upH
        rw [if_neg (by omega)]
    · obtain ⟨a, t, rfl⟩ : ∃ a t, r = a :: t := by
        cases r with
        | nil => exact absurd hn (by simp only [List.length_nil]; omega)
        | cons a t => exact ⟨a, t, rfl⟩
      have ht : t.length + 1 = n := by rw [← hn]; rfl
      have ea : g 43 ((n : Int) - 1).toNat = a := by rw [show ((n : Int) - 1).toNat = t.length by omega]; exact hr.1
      have ba := hb a (List.mem_cons_self ..)
      refine r_aload_n dX1_sortIn_6 rfl rfl ?_
      refine r_iload_n dX1_sortIn_7 rfl rfl ?_
      refine r_iconst dX1_sortIn_8 ?_
      refine r_isub dX1_sortIn_9 ?_
      refine r_iald dX1_sortIn_10 sh_43 (by decide) (by omega) ?_
      refine r_iload_n dX1_sortIn_11 rfl rfl ?_
      refine r_icmp_le (tgt := 29) dX1_sortIn_12 rfl (by omega) (by omega) (fun c_12 => ?_) (fun c_12 => ?_)
      · refine r_aload_n dX1_sortIn_29 rfl rfl ?_
        refine r_iload_n dX1_sortIn_30 rfl rfl ?_
        refine r_iload_n dX1_sortIn_31 rfl rfl ?_
        refine r_iast dX1_sortIn_32 sh_43 (by decide) (by omega) ?_
        refine r_vret dX1_sortIn_33 rfl ?_
        refine ⟨rfl, hk _ (fun a k ha => ?_) ?_ (fun k hk => ?_)⟩
        · unfold upH
          rw [if_neg (by omega)]
        · have eu : ∀ k : Nat, k ≠ n → upH g 43 (n : Int).toNat v 43 k = g 43 k := fun k hk => by
            unfold upH
            rw [if_neg (by omega)]
          have ev : upH g 43 (n : Int).toNat v 43 n = v := by
            unfold upH
            rw [if_pos ⟨rfl, by omega⟩]
          first
            | (rw [insR, if_neg (by omega)]
               exact ⟨by rw [hn]; exact ev, hr.cg (fun k hk => eu k (by omega))⟩)
            | (have er : r = [] := List.length_eq_zero_iff.mp (by omega)
               subst er
               have n0 : n = 0 := by rw [← hn]; rfl
               rw [n0] at ev
               rw [n0]
               exact ⟨ev, trivial⟩)
        · unfold upH
          rw [if_neg (by omega)]
      · refine r_aload_n dX1_sortIn_15 rfl rfl ?_
        refine r_iload_n dX1_sortIn_16 rfl rfl ?_
        refine r_aload_n dX1_sortIn_17 rfl rfl ?_
        refine r_iload_n dX1_sortIn_18 rfl rfl ?_
        refine r_iconst dX1_sortIn_19 ?_
        refine r_isub dX1_sortIn_20 ?_
        refine r_iald dX1_sortIn_21 sh_43 (by decide) (by omega) ?_
        refine r_iast dX1_sortIn_22 sh_43 (by decide) (by omega) ?_
        refine r_iinc (L' := [_, _, _, _]) dX1_sortIn_23 rfl rfl (by decide) rfl ?_
        refine r_goto (tgt := 2) dX1_sortIn_26 rfl ?_
        have ev : upH g 43 (n : Int).toNat a 43 n = a := by
          unfold upH
          rw [if_pos ⟨rfl, by omega⟩]
        have eu : ∀ k : Nat, k ≠ n → upH g 43 (n : Int).toNat a 43 k = g 43 k := fun k hk => by
          unfold upH
          rw [if_neg (by omega)]
        rw [ea, show (n : Int) + -1 = ((n - 1 : Nat) : Int) by omega]
        refine ih t (n - 1) (upH g 43 (n : Int).toNat a) (by omega) (by omega) (hr.2.cg (fun k hk => eu k (by omega))) (fun z hz => hb z (List.mem_cons_of_mem _ hz)) (fun g2 z1 z2 z3 => ?_) (by omega)
        refine hk g2 (fun a2 k ha => (z1 a2 k ha).trans (by unfold upH; rw [if_neg (by omega)])) ?_ (fun k hk => (z3 k (by omega)).trans (eu k (by omega)))
        rw [insR, if_pos (by omega)]
        refine ⟨?_, z2⟩
        rw [insR_len, ht]
        exact (z3 n (by omega)).trans ev
set_option maxRecDepth 20000 in
set_option maxHeartbeats 400000 in
theorem sp_X1_sortIn_43 {d : Nat} (hd : 1 ≤ d) {m v : Int} {h : Hp} {r : List Int} (hm : m = r.length) (hN : r.length ≤ 299) (hr : RV (h 43) r) (hb : LB 400 r) (hv : 0 ≤ v ∧ v ≤ 400) {P : Hp → Prop} (k : ∀ h' : Hp, (∀ a k, a ≠ 43 → h' a k = h a k) → (RV (h' 43) (insR v r)) → P h') : Cl d mX1_sortIn [.inr (.inr 43), .inl m, .inl v] h (pV P) := by
  refine Cl.of (L := [some (.inr (.inr 43)), some (.inl m), some (.inl v), none]) (by decide +kernel) (Nat.le_of_ble_eq_true rfl) rfl ?_
  refine r_iload_n dX1_sortIn_0 rfl rfl ?_
  refine r_istore_n (L' := [_, _, _, _]) dX1_sortIn_1 rfl rfl (by decide) rfl ?_
  rw [hm]
  exact lp_sortIn43 hv (r.length + 1) r _ h rfl hN hr hb (fun g2 z1 z2 _ => k g2 z1 z2) (by omega)
set_option maxRecDepth 20000 in
set_option maxHeartbeats 400000 in
theorem lp_sortIn44 {d : Nat} {P : Hp → Prop} {m v : Int} (hv : 0 ≤ v ∧ v ≤ 400) : ∀ (nn : Nat) (r : List Int) (n : Nat) (g : Hp), (r.length = n) → (n ≤ 299) → (RV (g 44) r) → (LB 400 r) → (∀ g2 : Hp, (∀ a k, a ≠ 44 → g2 a k = g a k) → RV (g2 44) (insR v r) → (∀ k : Nat, n < k → g2 44 k = g 44 k) → P g2) → n < nn → WW mX1_sortIn d (pV P) 2 [some (.inr (.inr 44)), some (.inl m), some (.inl v), some (.inl (n : Int))] [] g := by
  intro nn
  induction nn with
  | zero => intro r n g hn hN hr hb hk; intros; omega
  | succ nn ih =>
    intro r n g hn hN hr hb hk hmu
    refine r_iload_n dX1_sortIn_2 rfl rfl ?_
    refine r_if_le (tgt := 29) dX1_sortIn_3 rfl (by omega) (fun c_3 => ?_) (fun c_3 => ?_)
    · refine r_aload_n dX1_sortIn_29 rfl rfl ?_
      refine r_iload_n dX1_sortIn_30 rfl rfl ?_
      refine r_iload_n dX1_sortIn_31 rfl rfl ?_
      refine r_iast dX1_sortIn_32 sh_44 (by decide) (by omega) ?_
      refine r_vret dX1_sortIn_33 rfl ?_
      refine ⟨rfl, hk _ (fun a k ha => ?_) ?_ (fun k hk => ?_)⟩
      · unfold upH
        rw [if_neg (by omega)]
      · have eu : ∀ k : Nat, k ≠ n → upH g 44 (n : Int).toNat v 44 k = g 44 k := fun k hk => by
          unfold upH
          rw [if_neg (by omega)]
        have ev : upH g 44 (n : Int).toNat v 44 n = v := by
          unfold upH
          rw [if_pos ⟨rfl, by omega⟩]
        first
          | (rw [insR, if_neg (by omega)]
             exact ⟨by rw [hn]; exact ev, hr.cg (fun k hk => eu k (by omega))⟩)
          | (have er : r = [] := List.length_eq_zero_iff.mp (by omega)
             subst er
             have n0 : n = 0 := by rw [← hn]; rfl
             rw [n0] at ev
             rw [n0]
             exact ⟨ev, trivial⟩)
      · unfold upH
        rw [if_neg (by omega)]
    · obtain ⟨a, t, rfl⟩ : ∃ a t, r = a :: t := by
        cases r with
        | nil => exact absurd hn (by simp only [List.length_nil]; omega)
        | cons a t => exact ⟨a, t, rfl⟩
      have ht : t.length + 1 = n := by rw [← hn]; rfl
      have ea : g 44 ((n : Int) - 1).toNat = a := by rw [show ((n : Int) - 1).toNat = t.length by omega]; exact hr.1
      have ba := hb a (List.mem_cons_self ..)
      refine r_aload_n dX1_sortIn_6 rfl rfl ?_
      refine r_iload_n dX1_sortIn_7 rfl rfl ?_
      refine r_iconst dX1_sortIn_8 ?_
      refine r_isub dX1_sortIn_9 ?_
      refine r_iald dX1_sortIn_10 sh_44 (by decide) (by omega) ?_
      refine r_iload_n dX1_sortIn_11 rfl rfl ?_
      refine r_icmp_le (tgt := 29) dX1_sortIn_12 rfl (by omega) (by omega) (fun c_12 => ?_) (fun c_12 => ?_)
      · refine r_aload_n dX1_sortIn_29 rfl rfl ?_
        refine r_iload_n dX1_sortIn_30 rfl rfl ?_
        refine r_iload_n dX1_sortIn_31 rfl rfl ?_
        refine r_iast dX1_sortIn_32 sh_44 (by decide) (by omega) ?_
        refine r_vret dX1_sortIn_33 rfl ?_
        refine ⟨rfl, hk _ (fun a k ha => ?_) ?_ (fun k hk => ?_)⟩
        · unfold upH
          rw [if_neg (by omega)]
        · have eu : ∀ k : Nat, k ≠ n → upH g 44 (n : Int).toNat v 44 k = g 44 k := fun k hk => by
            unfold upH
            rw [if_neg (by omega)]
          have ev : upH g 44 (n : Int).toNat v 44 n = v := by
            unfold upH
            rw [if_pos ⟨rfl, by omega⟩]
          first
            | (rw [insR, if_neg (by omega)]
               exact ⟨by rw [hn]; exact ev, hr.cg (fun k hk => eu k (by omega))⟩)
            | (have er : r = [] := List.length_eq_zero_iff.mp (by omega)
               subst er
               have n0 : n = 0 := by rw [← hn]; rfl
               rw [n0] at ev
               rw [n0]
               exact ⟨ev, trivial⟩)
        · unfold upH
          rw [if_neg (by omega)]
      · refine r_aload_n dX1_sortIn_15 rfl rfl ?_
        refine r_iload_n dX1_sortIn_16 rfl rfl ?_
        refine r_aload_n dX1_sortIn_17 rfl rfl ?_
        refine r_iload_n dX1_sortIn_18 rfl rfl ?_
        refine r_iconst dX1_sortIn_19 ?_
        refine r_isub dX1_sortIn_20 ?_
        refine r_iald dX1_sortIn_21 sh_44 (by decide) (by omega) ?_
        refine r_iast dX1_sortIn_22 sh_44 (by decide) (by omega) ?_
        refine r_iinc (L' := [_, _, _, _]) dX1_sortIn_23 rfl rfl (by decide) rfl ?_
        refine r_goto (tgt := 2) dX1_sortIn_26 rfl ?_
        have ev : upH g 44 (n : Int).toNat a 44 n = a := by
          unfold upH
          rw [if_pos ⟨rfl, by omega⟩]
        have eu : ∀ k : Nat, k ≠ n → upH g 44 (n : Int).toNat a 44 k = g 44 k := fun k hk => by
          unfold upH
          rw [if_neg (by omega)]
        rw [ea, show (n : Int) + -1 = ((n - 1 : Nat) : Int) by omega]
        refine ih t (n - 1) (upH g 44 (n : Int).toNat a) (by omega) (by omega) (hr.2.cg (fun k hk => eu k (by omega))) (fun z hz => hb z (List.mem_cons_of_mem _ hz)) (fun g2 z1 z2 z3 => ?_) (by omega)
        refine hk g2 (fun a2 k ha => (z1 a2 k ha).trans (by unfold upH; rw [if_neg (by omega)])) ?_ (fun k hk => (z3 k (by omega)).trans (eu k (by omega)))
        rw [insR, if_pos (by omega)]
        refine ⟨?_, z2⟩
        rw [insR_len, ht]
        exact (z3 n (by omega)).trans ev
set_option maxRecDepth 20000 in
set_option maxHeartbeats 400000 in
theorem sp_X1_sortIn_44 {d : Nat} (hd : 1 ≤ d) {m v : Int} {h : Hp} {r : List Int} (hm : m = r.length) (hN : r.length ≤ 299) (hr : RV (h 44) r) (hb : LB 400 r) (hv : 0 ≤ v ∧ v ≤ 400) {P : Hp → Prop} (k : ∀ h' : Hp, (∀ a k, a ≠ 44 → h' a k = h a k) → (RV (h' 44) (insR v r)) → P h') : Cl d mX1_sortIn [.inr (.inr 44), .inl m, .inl v] h (pV P) := by
  refine Cl.of (L := [some (.inr (.inr 44)), some (.inl m), some (.inl v), none]) (by decide +kernel) (Nat.le_of_ble_eq_true rfl) rfl ?_
  refine r_iload_n dX1_sortIn_0 rfl rfl ?_
  refine r_istore_n (L' := [_, _, _, _]) dX1_sortIn_1 rfl rfl (by decide) rfl ?_
  rw [hm]
  exact lp_sortIn44 hv (r.length + 1) r _ h rfl hN hr hb (fun g2 z1 z2 _ => k g2 z1 z2) (by omega)
def gs (x y : Nat → Int) (X : Int) (m : Nat) (r : List Int) : List Int := if x m = X then insR (y m) r else r
def gatL (x y c : Nat → Int) (X : Int) : Nat → List Int
  | 0 => []
  | m + 1 => if c (m + 1) = 0 then gatL x y c X m else gs x y X (m + 1) (gs x y X m (gatL x y c X m))
theorem gs_comm (x y : Nat → Int) (X : Int) (m n : Nat) (r : List Int) : gs x y X m (gs x y X n r) = gs x y X n (gs x y X m r) := by
  unfold gs
  by_cases p : x m = X <;> by_cases q : x n = X
  · simp only [if_pos p, if_pos q, insR_comm]
  · simp only [if_pos p, if_neg q]
  · simp only [if_neg p, if_pos q]
  · simp only [if_neg p, if_neg q]
theorem gs_len (x y : Nat → Int) (X : Int) (m : Nat) (r : List Int) : r.length ≤ (gs x y X m r).length ∧ (gs x y X m r).length ≤ r.length + 1 := by
  unfold gs
  split
  · rw [insR_len]
    omega
  · omega
theorem gatL_len (x y c : Nat → Int) (X : Int) : ∀ m : Nat, (gatL x y c X m).length ≤ 2 * m
  | 0 => Nat.le_refl _
  | m + 1 => by
    have i := gatL_len x y c X m
    rw [gatL]
    split
    · omega
    · have a := gs_len x y X m (gatL x y c X m)
      have b := gs_len x y X (m + 1) (gs x y X m (gatL x y c X m))
      omega
theorem gs_LB {x y : Nat → Int} {X H : Int} {m : Nat} {r : List Int} (hy : 0 ≤ y m ∧ y m ≤ H) (h : LB H r) : LB H (gs x y X m r) := by
  unfold gs
  split
  · exact LB.ins hy h
  · exact h
theorem gatL_LB {x y c : Nat → Int} {X H : Int} : ∀ {m : Nat}, (∀ k : Nat, k ≤ m → 0 ≤ y k ∧ y k ≤ H) → LB H (gatL x y c X m)
  | 0, _ => fun _ hz => absurd hz List.not_mem_nil
  | m + 1, h => by
    have i := gatL_LB (x := x) (c := c) (X := X) (m := m) (fun k hk => h k (by omega))
    rw [gatL]
    split
    · exact i
    · exact gs_LB (h _ (by omega)) (gs_LB (h _ (by omega)) i)
set_option maxRecDepth 20000 in
set_option maxHeartbeats 400000 in
theorem lp_gat59_16 {d : Nat} (hd : 1 ≤ d) {h : Hp} {X : Int} (hX : -4294967296 ≤ X ∧ X ≤ 4294967296) (hn : 0 ≤ h 16 0 ∧ h 16 0 ≤ 150) (hxy : ∀ p : Nat, (p : Int) ≤ h 16 0 → (0 ≤ h 17 p ∧ h 17 p ≤ 400 ∧ 0 ≤ h 18 p ∧ h 18 p ≤ 400) ∧ (h 19 p = 0 ∨ h 19 p = 1)) {post : Pst} {m : Nat} {r0 : List Int} (hm : (m : Int) < h 16 0) (K : ∀ (r2 : List Int) (n2 : Nat) (g2 : Hp), r2 = gs (h 17) (h 18) X (m + 1) r0 → r2.length = n2 → LB 400 r2 → (∀ a k, a ≠ 43 → g2 a k = h a k) → RV (g2 43) r2 → WW mX1_gather (d + 1) post 92 [some (.inr (.inr 16)), some (.inr (.inl X)), none, some (.inr (.inr 43)), some (.inl (n2 : Int)), some (.inl (m : Int))] [] g2) : ∀ (nn : Nat) (r : List Int) (n : Nat) (g : Hp), (r = r0) → (∀ a k, a ≠ 43 → g a k = h a k) → (RV (g 43) r) → (r.length = n) → (LB 400 r) → (n ≤ 299) → 0 < nn → WW mX1_gather (d + 1) post 59 [some (.inr (.inr 16)), some (.inr (.inl X)), none, some (.inr (.inr 43)), some (.inl (n : Int)), some (.inl (m : Int))] [] g := by
  intro nn
  induction nn with
  | zero => intro r n g hr0 hg hr hl hb hN; intros; omega
  | succ nn ih =>
    intro r n g hr0 hg hr hl hb hN hmu
    subst hr0
    have w0 : g 16 0 = h 16 0 := hg 16 0 (by decide)
    have w17 : g 17 = h 17 := funext fun j => hg 17 j (by omega)
    have w18 : g 18 = h 18 := funext fun j => hg 18 j (by omega)
    have w19 : g 19 = h 19 := funext fun j => hg 19 j (by omega)
    have q1 := hxy m (by omega)
    have e1 : ((m : Int)).toNat = m := Int.toNat_natCast m
    have e2 : ((m : Int) + 1).toNat = m + 1 := by omega
    have q2 := hxy (m + 1) (by omega)
    rw [← e1, ← w17, ← w18, ← w19] at q1
    rw [← e2, ← w17, ← w18, ← w19] at q2
    refine r_aload_n dX1_gather_59 rfl rfl ?_
    refine r_getR dX1_gather_60 fl_X1_45 sh_16 rfl ?_
    refine r_iload dX1_gather_63 rfl ?_
    refine r_iconst dX1_gather_65 ?_
    refine r_iadd dX1_gather_66 ?_
    refine r_iald dX1_gather_67 sh_17 (by decide) (by omega) ?_
    refine r_i2l dX1_gather_68 (by omega) ?_
    refine r_lload_n dX1_gather_69 rfl rfl ?_
    refine r_lcmp_ne (tgt := 92) dX1_gather_70 dX1_gather_71 rfl (by omega) (by omega) (fun c_70 => ?_) (fun c_70 => ?_)
    · first
        | (refine K _ n g (by unfold gs; rw [if_neg (by rw [← w17, ← e2]; omega)]) hl hb hg hr)
        | (rw [show (n : Int) + 1 = ((n + 1 : Nat) : Int) by omega]
           refine K (insR (g 18 ((m : Int) + 1).toNat) r) (n + 1) _ (by unfold gs; rw [e2, w18, if_pos (by rw [← w17, ← e2]; omega)]) (by rw [insR_len]; omega) (LB.ins (by omega) hb) (fun a k z => (f0_86 a k z).trans (hg a k z)) f1_86)
    · refine r_aload_n dX1_gather_74 rfl rfl ?_
      refine r_iload dX1_gather_75 rfl ?_
      refine r_aload_n dX1_gather_77 rfl rfl ?_
      refine r_getR dX1_gather_78 fl_X1_50 sh_16 rfl ?_
      refine r_iload dX1_gather_81 rfl ?_
      refine r_iconst dX1_gather_83 ?_
      refine r_iadd dX1_gather_84 ?_
      refine r_iald dX1_gather_85 sh_18 (by decide) (by omega) ?_
      refine r_callSU (av := [_, _, _]) (M' := mX1_sortIn) dX1_gather_86 sX1_sortIn ml_X1_94 rfl rfl (by simp [wtA]) (sp_X1_sortIn_43 (by omega) (r := r) (by omega) (by omega) hr hb (by omega) (fun h_86 f0_86 f1_86 => ?_))
      refine r_iinc (L' := [_, _, _, _, _, _]) dX1_gather_89 rfl rfl (by decide) rfl ?_
      first
        | (refine K _ n g (by unfold gs; rw [if_neg (by rw [← w17, ← e2]; omega)]) hl hb hg hr)
        | (rw [show (n : Int) + 1 = ((n + 1 : Nat) : Int) by omega]
           refine K (insR (g 18 ((m : Int) + 1).toNat) r) (n + 1) _ (by unfold gs; rw [e2, w18, if_pos (by rw [← w17, ← e2]; omega)]) (by rw [insR_len]; omega) (LB.ins (by omega) hb) (fun a k z => (f0_86 a k z).trans (hg a k z)) f1_86)
set_option maxRecDepth 20000 in
set_option maxHeartbeats 400000 in
theorem lp_gat30_16 {d : Nat} (hd : 1 ≤ d) {h : Hp} {X : Int} (hX : -4294967296 ≤ X ∧ X ≤ 4294967296) (hn : 0 ≤ h 16 0 ∧ h 16 0 ≤ 150) (hxy : ∀ p : Nat, (p : Int) ≤ h 16 0 → (0 ≤ h 17 p ∧ h 17 p ≤ 400 ∧ 0 ≤ h 18 p ∧ h 18 p ≤ 400) ∧ (h 19 p = 0 ∨ h 19 p = 1)) {post : Pst} {m : Nat} {r0 : List Int} (hm : (m : Int) < h 16 0) (K : ∀ (r2 : List Int) (n2 : Nat) (g2 : Hp), r2 = gs (h 17) (h 18) X (m) r0 → r2.length = n2 → LB 400 r2 → (∀ a k, a ≠ 43 → g2 a k = h a k) → RV (g2 43) r2 → WW mX1_gather (d + 1) post 59 [some (.inr (.inr 16)), some (.inr (.inl X)), none, some (.inr (.inr 43)), some (.inl (n2 : Int)), some (.inl (m : Int))] [] g2) : ∀ (nn : Nat) (r : List Int) (n : Nat) (g : Hp), (r = r0) → (∀ a k, a ≠ 43 → g a k = h a k) → (RV (g 43) r) → (r.length = n) → (LB 400 r) → (n ≤ 299) → 0 < nn → WW mX1_gather (d + 1) post 30 [some (.inr (.inr 16)), some (.inr (.inl X)), none, some (.inr (.inr 43)), some (.inl (n : Int)), some (.inl (m : Int))] [] g := by
  intro nn
  induction nn with
  | zero => intro r n g hr0 hg hr hl hb hN; intros; omega
  | succ nn ih =>
    intro r n g hr0 hg hr hl hb hN hmu
    subst hr0
    have w0 : g 16 0 = h 16 0 := hg 16 0 (by decide)
    have w17 : g 17 = h 17 := funext fun j => hg 17 j (by omega)
    have w18 : g 18 = h 18 := funext fun j => hg 18 j (by omega)
    have w19 : g 19 = h 19 := funext fun j => hg 19 j (by omega)
    have q1 := hxy m (by omega)
    have e1 : ((m : Int)).toNat = m := Int.toNat_natCast m
    have e2 : ((m : Int) + 1).toNat = m + 1 := by omega
    have q2 := hxy (m + 1) (by omega)
    rw [← e1, ← w17, ← w18, ← w19] at q1
    rw [← e2, ← w17, ← w18, ← w19] at q2
    refine r_aload_n dX1_gather_30 rfl rfl ?_
    refine r_getR dX1_gather_31 fl_X1_45 sh_16 rfl ?_
    refine r_iload dX1_gather_34 rfl ?_
    refine r_iald dX1_gather_36 sh_17 (by decide) (by omega) ?_
    refine r_i2l dX1_gather_37 (by omega) ?_
    refine r_lload_n dX1_gather_38 rfl rfl ?_
    refine r_lcmp_ne (tgt := 59) dX1_gather_39 dX1_gather_40 rfl (by omega) (by omega) (fun c_39 => ?_) (fun c_39 => ?_)
    · first
        | (refine K _ n g (by unfold gs; rw [if_neg (by rw [← w17, ← e1]; omega)]) hl hb hg hr)
        | (rw [show (n : Int) + 1 = ((n + 1 : Nat) : Int) by omega]
           refine K (insR (g 18 ((m : Int)).toNat) r) (n + 1) _ (by unfold gs; rw [e1, w18, if_pos (by rw [← w17, ← e1]; omega)]) (by rw [insR_len]; omega) (LB.ins (by omega) hb) (fun a k z => (f0_53 a k z).trans (hg a k z)) f1_53)
    · refine r_aload_n dX1_gather_43 rfl rfl ?_
      refine r_iload dX1_gather_44 rfl ?_
      refine r_aload_n dX1_gather_46 rfl rfl ?_
      refine r_getR dX1_gather_47 fl_X1_50 sh_16 rfl ?_
      refine r_iload dX1_gather_50 rfl ?_
      refine r_iald dX1_gather_52 sh_18 (by decide) (by omega) ?_
      refine r_callSU (av := [_, _, _]) (M' := mX1_sortIn) dX1_gather_53 sX1_sortIn ml_X1_94 rfl rfl (by simp [wtA]) (sp_X1_sortIn_43 (by omega) (r := r) (by omega) (by omega) hr hb (by omega) (fun h_53 f0_53 f1_53 => ?_))
      refine r_iinc (L' := [_, _, _, _, _, _]) dX1_gather_56 rfl rfl (by decide) rfl ?_
      first
        | (refine K _ n g (by unfold gs; rw [if_neg (by rw [← w17, ← e1]; omega)]) hl hb hg hr)
        | (rw [show (n : Int) + 1 = ((n + 1 : Nat) : Int) by omega]
           refine K (insR (g 18 ((m : Int)).toNat) r) (n + 1) _ (by unfold gs; rw [e1, w18, if_pos (by rw [← w17, ← e1]; omega)]) (by rw [insR_len]; omega) (LB.ins (by omega) hb) (fun a k z => (f0_53 a k z).trans (hg a k z)) f1_53)
set_option maxRecDepth 20000 in
set_option maxHeartbeats 400000 in
theorem lp_gather16 {d : Nat} (hd : 1 ≤ d) {h : Hp} {X : Int} (hX : -4294967296 ≤ X ∧ X ≤ 4294967296) (hn : 0 ≤ h 16 0 ∧ h 16 0 ≤ 150) (hxy : ∀ p : Nat, (p : Int) ≤ h 16 0 → (0 ≤ h 17 p ∧ h 17 p ≤ 400 ∧ 0 ≤ h 18 p ∧ h 18 p ≤ 400) ∧ (h 19 p = 0 ∨ h 19 p = 1)) {P : Int → Hp → Prop} (k : ∀ g : Hp, (∀ a k, a ≠ 43 → g a k = h a k) → RV (g 43) (gatL (h 17) (h 18) (h 19) X (h 16 0).toNat) → P ((gatL (h 17) (h 18) (h 19) X (h 16 0).toNat).length) g) : ∀ (nn : Nat) (m n : Nat) (g : Hp), ((m : Int) ≤ h 16 0) → (∀ a k, a ≠ 43 → g a k = h a k) → (RV (g 43) (gatL (h 17) (h 18) (h 19) X m)) → ((gatL (h 17) (h 18) (h 19) X m).length = n) → (h 16 0).toNat - m < nn → WW mX1_gather (d + 1) (pI P) 6 [some (.inr (.inr 16)), some (.inr (.inl X)), none, some (.inr (.inr 43)), some (.inl (n : Int)), some (.inl (m : Int))] [] g := by
  intro nn
  induction nn with
  | zero => intro m n g hm hg hr hl; intros; omega
  | succ nn ih =>
    intro m n g hm hg hr hl hmu
    have w0 : g 16 0 = h 16 0 := hg 16 0 (by decide)
    have w19 : g 19 = h 19 := funext fun j => hg 19 j (by omega)
    have len := gatL_len (h 17) (h 18) (h 19) X m
    have lb : LB 400 (gatL (h 17) (h 18) (h 19) X m) := gatL_LB (fun k hk => ⟨(hxy k (by omega)).1.2.2.1, (hxy k (by omega)).1.2.2.2⟩)
    have e2 : ((m : Int) + 1).toNat = m + 1 := by omega
    refine r_iload dX1_gather_6 rfl ?_
    refine r_aload_n dX1_gather_8 rfl rfl ?_
    refine r_getI dX1_gather_9 fl_X1_62 sh_16 rfl ?_
    refine r_icmp_ge (tgt := 98) dX1_gather_12 rfl (by omega) (by omega) (fun c_12 => ?_) (fun c_12 => ?_)
    · refine r_iload dX1_gather_98 rfl ?_
      refine r_iret dX1_gather_100 rfl ?_
      have e9 : (h 16 0).toNat = m := by omega
      rw [e9] at k
      refine ⟨_, rfl, ?_⟩
      rw [← hl]
      exact k g hg hr
    · have q2 := hxy (m + 1) (by omega)
      rw [← e2, ← w19] at q2
      refine r_aload_n dX1_gather_15 rfl rfl ?_
      refine r_getR dX1_gather_16 fl_X1_90 sh_16 rfl ?_
      refine r_iload dX1_gather_19 rfl ?_
      refine r_iconst dX1_gather_21 ?_
      refine r_iadd dX1_gather_22 ?_
      refine r_zald dX1_gather_23 sh_19 (by decide) (by omega) ?_
      refine r_if_ne (tgt := 30) dX1_gather_24 rfl (by omega) (fun c_24 => ?_) (fun c_24 => ?_)
      · have cn : ¬ h 19 (m + 1) = 0 := by rw [← e2, ← w19]; omega
        refine lp_gat30_16 hd hX hn hxy (by omega) (fun r2 n2 g2 z1 z2 z3 z4 z5 => ?_) 1 _ n g rfl hg hr hl lb (by omega) (by omega)
        refine lp_gat59_16 hd hX hn hxy (by omega) (fun r3 n3 g3 y1 y2 y3 y4 y5 => ?_) 1 r2 n2 g2 rfl z4 z5 z2 z3 (by have := gs_len (h 17) (h 18) X m (gatL (h 17) (h 18) (h 19) X m); rw [← z1] at this; omega) (by omega)
        refine r_iinc (L' := [_, _, _, _, _, _]) dX1_gather_92 rfl rfl (by decide) rfl ?_
        refine r_goto (tgt := 6) dX1_gather_95 rfl ?_
        have er : gatL (h 17) (h 18) (h 19) X (m + 1) = r3 := by rw [y1, z1, gatL, if_neg cn]
        exact ih (m + 1) n3 g3 (by omega) y4 (by rw [er]; exact y5) (by rw [er]; exact y2) (by omega)
      · refine r_goto (tgt := 92) dX1_gather_27 rfl ?_
        refine r_iinc (L' := [_, _, _, _, _, _]) dX1_gather_92 rfl rfl (by decide) rfl ?_
        refine r_goto (tgt := 6) dX1_gather_95 rfl ?_
        have cn : h 19 (m + 1) = 0 := by rw [← e2, ← w19]; omega
        have er : gatL (h 17) (h 18) (h 19) X (m + 1) = gatL (h 17) (h 18) (h 19) X m := by rw [gatL, if_pos cn]
        exact ih (m + 1) n g (by omega) hg (by rw [er]; exact hr) (by rw [er]; exact hl) (by omega)
set_option maxRecDepth 20000 in
set_option maxHeartbeats 400000 in
theorem sp_X1_gather_16_43 {d : Nat} (hd : 2 ≤ d) {X : Int} {h : Hp}  (hX : -4294967296 ≤ X ∧ X ≤ 4294967296) (hn : 0 ≤ h 16 0 ∧ h 16 0 ≤ 150) (hxy : ∀ p : Nat, (p : Int) ≤ h 16 0 → (0 ≤ h 17 p ∧ h 17 p ≤ 400 ∧ 0 ≤ h 18 p ∧ h 18 p ≤ 400) ∧ (h 19 p = 0 ∨ h 19 p = 1)) {P : Int → Hp → Prop} (k : ∀ (rr : Int), ∀ h' : Hp, (∀ a k, a ≠ 43 → h' a k = h a k) → (RV (h' 43) (gatL (h 17) (h 18) (h 19) X (h 16 0).toNat)) → (rr = (gatL (h 17) (h 18) (h 19) X (h 16 0).toNat).length) → P (rr) h') : Cl d mX1_gather [.inr (.inr 16), .inr (.inl X), .inr (.inr 43)] h (pI P) := by
  refine Cl.of (L := [some (.inr (.inr 16)), some (.inr (.inl X)), none, some (.inr (.inr 43)), none, none]) (by decide +kernel) (Nat.le_of_ble_eq_true rfl) rfl ?_
  obtain ⟨d, rfl⟩ : ∃ q, d = q + 1 := ⟨d - 1, by omega⟩
  refine r_iconst dX1_gather_0 ?_
  refine r_istore (L' := [_, _, _, _, _, _]) dX1_gather_1 rfl (by decide) rfl ?_
  refine r_iconst dX1_gather_3 ?_
  refine r_istore (L' := [_, _, _, _, _, _]) dX1_gather_4 rfl (by decide) rfl ?_
  exact lp_gather16 (by omega) hX hn hxy (fun g z1 z2 => k _ g z1 z2 rfl) 151 0 0 h (by omega) (fun _ _ _ => rfl) trivial rfl (by omega)
set_option maxRecDepth 20000 in
set_option maxHeartbeats 400000 in
theorem lp_gat59_23 {d : Nat} (hd : 1 ≤ d) {h : Hp} {X : Int} (hX : -4294967296 ≤ X ∧ X ≤ 4294967296) (hn : 0 ≤ h 23 0 ∧ h 23 0 ≤ 150) (hxy : ∀ p : Nat, (p : Int) ≤ h 23 0 → (0 ≤ h 24 p ∧ h 24 p ≤ 400 ∧ 0 ≤ h 25 p ∧ h 25 p ≤ 400) ∧ (h 26 p = 0 ∨ h 26 p = 1)) {post : Pst} {m : Nat} {r0 : List Int} (hm : (m : Int) < h 23 0) (K : ∀ (r2 : List Int) (n2 : Nat) (g2 : Hp), r2 = gs (h 24) (h 25) X (m + 1) r0 → r2.length = n2 → LB 400 r2 → (∀ a k, a ≠ 44 → g2 a k = h a k) → RV (g2 44) r2 → WW mX1_gather (d + 1) post 92 [some (.inr (.inr 23)), some (.inr (.inl X)), none, some (.inr (.inr 44)), some (.inl (n2 : Int)), some (.inl (m : Int))] [] g2) : ∀ (nn : Nat) (r : List Int) (n : Nat) (g : Hp), (r = r0) → (∀ a k, a ≠ 44 → g a k = h a k) → (RV (g 44) r) → (r.length = n) → (LB 400 r) → (n ≤ 299) → 0 < nn → WW mX1_gather (d + 1) post 59 [some (.inr (.inr 23)), some (.inr (.inl X)), none, some (.inr (.inr 44)), some (.inl (n : Int)), some (.inl (m : Int))] [] g := by
  intro nn
  induction nn with
  | zero => intro r n g hr0 hg hr hl hb hN; intros; omega
  | succ nn ih =>
    intro r n g hr0 hg hr hl hb hN hmu
    subst hr0
    have w0 : g 23 0 = h 23 0 := hg 23 0 (by decide)
    have w24 : g 24 = h 24 := funext fun j => hg 24 j (by omega)
    have w25 : g 25 = h 25 := funext fun j => hg 25 j (by omega)
    have w26 : g 26 = h 26 := funext fun j => hg 26 j (by omega)
    have q1 := hxy m (by omega)
    have e1 : ((m : Int)).toNat = m := Int.toNat_natCast m
    have e2 : ((m : Int) + 1).toNat = m + 1 := by omega
    have q2 := hxy (m + 1) (by omega)
    rw [← e1, ← w24, ← w25, ← w26] at q1
    rw [← e2, ← w24, ← w25, ← w26] at q2
    refine r_aload_n dX1_gather_59 rfl rfl ?_
    refine r_getR dX1_gather_60 fl_X1_45 sh_23 rfl ?_
    refine r_iload dX1_gather_63 rfl ?_
    refine r_iconst dX1_gather_65 ?_
    refine r_iadd dX1_gather_66 ?_
    refine r_iald dX1_gather_67 sh_24 (by decide) (by omega) ?_
    refine r_i2l dX1_gather_68 (by omega) ?_
    refine r_lload_n dX1_gather_69 rfl rfl ?_
    refine r_lcmp_ne (tgt := 92) dX1_gather_70 dX1_gather_71 rfl (by omega) (by omega) (fun c_70 => ?_) (fun c_70 => ?_)
    · first
        | (refine K _ n g (by unfold gs; rw [if_neg (by rw [← w24, ← e2]; omega)]) hl hb hg hr)
        | (rw [show (n : Int) + 1 = ((n + 1 : Nat) : Int) by omega]
           refine K (insR (g 25 ((m : Int) + 1).toNat) r) (n + 1) _ (by unfold gs; rw [e2, w25, if_pos (by rw [← w24, ← e2]; omega)]) (by rw [insR_len]; omega) (LB.ins (by omega) hb) (fun a k z => (f0_86 a k z).trans (hg a k z)) f1_86)
    · refine r_aload_n dX1_gather_74 rfl rfl ?_
      refine r_iload dX1_gather_75 rfl ?_
      refine r_aload_n dX1_gather_77 rfl rfl ?_
      refine r_getR dX1_gather_78 fl_X1_50 sh_23 rfl ?_
      refine r_iload dX1_gather_81 rfl ?_
      refine r_iconst dX1_gather_83 ?_
      refine r_iadd dX1_gather_84 ?_
      refine r_iald dX1_gather_85 sh_25 (by decide) (by omega) ?_
      refine r_callSU (av := [_, _, _]) (M' := mX1_sortIn) dX1_gather_86 sX1_sortIn ml_X1_94 rfl rfl (by simp [wtA]) (sp_X1_sortIn_44 (by omega) (r := r) (by omega) (by omega) hr hb (by omega) (fun h_86 f0_86 f1_86 => ?_))
      refine r_iinc (L' := [_, _, _, _, _, _]) dX1_gather_89 rfl rfl (by decide) rfl ?_
      first
        | (refine K _ n g (by unfold gs; rw [if_neg (by rw [← w24, ← e2]; omega)]) hl hb hg hr)
        | (rw [show (n : Int) + 1 = ((n + 1 : Nat) : Int) by omega]
           refine K (insR (g 25 ((m : Int) + 1).toNat) r) (n + 1) _ (by unfold gs; rw [e2, w25, if_pos (by rw [← w24, ← e2]; omega)]) (by rw [insR_len]; omega) (LB.ins (by omega) hb) (fun a k z => (f0_86 a k z).trans (hg a k z)) f1_86)
set_option maxRecDepth 20000 in
set_option maxHeartbeats 400000 in
theorem lp_gat30_23 {d : Nat} (hd : 1 ≤ d) {h : Hp} {X : Int} (hX : -4294967296 ≤ X ∧ X ≤ 4294967296) (hn : 0 ≤ h 23 0 ∧ h 23 0 ≤ 150) (hxy : ∀ p : Nat, (p : Int) ≤ h 23 0 → (0 ≤ h 24 p ∧ h 24 p ≤ 400 ∧ 0 ≤ h 25 p ∧ h 25 p ≤ 400) ∧ (h 26 p = 0 ∨ h 26 p = 1)) {post : Pst} {m : Nat} {r0 : List Int} (hm : (m : Int) < h 23 0) (K : ∀ (r2 : List Int) (n2 : Nat) (g2 : Hp), r2 = gs (h 24) (h 25) X (m) r0 → r2.length = n2 → LB 400 r2 → (∀ a k, a ≠ 44 → g2 a k = h a k) → RV (g2 44) r2 → WW mX1_gather (d + 1) post 59 [some (.inr (.inr 23)), some (.inr (.inl X)), none, some (.inr (.inr 44)), some (.inl (n2 : Int)), some (.inl (m : Int))] [] g2) : ∀ (nn : Nat) (r : List Int) (n : Nat) (g : Hp), (r = r0) → (∀ a k, a ≠ 44 → g a k = h a k) → (RV (g 44) r) → (r.length = n) → (LB 400 r) → (n ≤ 299) → 0 < nn → WW mX1_gather (d + 1) post 30 [some (.inr (.inr 23)), some (.inr (.inl X)), none, some (.inr (.inr 44)), some (.inl (n : Int)), some (.inl (m : Int))] [] g := by
  intro nn
  induction nn with
  | zero => intro r n g hr0 hg hr hl hb hN; intros; omega
  | succ nn ih =>
    intro r n g hr0 hg hr hl hb hN hmu
    subst hr0
    have w0 : g 23 0 = h 23 0 := hg 23 0 (by decide)
    have w24 : g 24 = h 24 := funext fun j => hg 24 j (by omega)
    have w25 : g 25 = h 25 := funext fun j => hg 25 j (by omega)
    have w26 : g 26 = h 26 := funext fun j => hg 26 j (by omega)
    have q1 := hxy m (by omega)
    have e1 : ((m : Int)).toNat = m := Int.toNat_natCast m
    have e2 : ((m : Int) + 1).toNat = m + 1 := by omega
    have q2 := hxy (m + 1) (by omega)
    rw [← e1, ← w24, ← w25, ← w26] at q1
    rw [← e2, ← w24, ← w25, ← w26] at q2
    refine r_aload_n dX1_gather_30 rfl rfl ?_
    refine r_getR dX1_gather_31 fl_X1_45 sh_23 rfl ?_
    refine r_iload dX1_gather_34 rfl ?_
    refine r_iald dX1_gather_36 sh_24 (by decide) (by omega) ?_
    refine r_i2l dX1_gather_37 (by omega) ?_
    refine r_lload_n dX1_gather_38 rfl rfl ?_
    refine r_lcmp_ne (tgt := 59) dX1_gather_39 dX1_gather_40 rfl (by omega) (by omega) (fun c_39 => ?_) (fun c_39 => ?_)
    · first
        | (refine K _ n g (by unfold gs; rw [if_neg (by rw [← w24, ← e1]; omega)]) hl hb hg hr)
        | (rw [show (n : Int) + 1 = ((n + 1 : Nat) : Int) by omega]
           refine K (insR (g 25 ((m : Int)).toNat) r) (n + 1) _ (by unfold gs; rw [e1, w25, if_pos (by rw [← w24, ← e1]; omega)]) (by rw [insR_len]; omega) (LB.ins (by omega) hb) (fun a k z => (f0_53 a k z).trans (hg a k z)) f1_53)
    · refine r_aload_n dX1_gather_43 rfl rfl ?_
      refine r_iload dX1_gather_44 rfl ?_
      refine r_aload_n dX1_gather_46 rfl rfl ?_
      refine r_getR dX1_gather_47 fl_X1_50 sh_23 rfl ?_
      refine r_iload dX1_gather_50 rfl ?_
      refine r_iald dX1_gather_52 sh_25 (by decide) (by omega) ?_
      refine r_callSU (av := [_, _, _]) (M' := mX1_sortIn) dX1_gather_53 sX1_sortIn ml_X1_94 rfl rfl (by simp [wtA]) (sp_X1_sortIn_44 (by omega) (r := r) (by omega) (by omega) hr hb (by omega) (fun h_53 f0_53 f1_53 => ?_))
      refine r_iinc (L' := [_, _, _, _, _, _]) dX1_gather_56 rfl rfl (by decide) rfl ?_
      first
        | (refine K _ n g (by unfold gs; rw [if_neg (by rw [← w24, ← e1]; omega)]) hl hb hg hr)
        | (rw [show (n : Int) + 1 = ((n + 1 : Nat) : Int) by omega]
           refine K (insR (g 25 ((m : Int)).toNat) r) (n + 1) _ (by unfold gs; rw [e1, w25, if_pos (by rw [← w24, ← e1]; omega)]) (by rw [insR_len]; omega) (LB.ins (by omega) hb) (fun a k z => (f0_53 a k z).trans (hg a k z)) f1_53)
set_option maxRecDepth 20000 in
set_option maxHeartbeats 400000 in
theorem lp_gather23 {d : Nat} (hd : 1 ≤ d) {h : Hp} {X : Int} (hX : -4294967296 ≤ X ∧ X ≤ 4294967296) (hn : 0 ≤ h 23 0 ∧ h 23 0 ≤ 150) (hxy : ∀ p : Nat, (p : Int) ≤ h 23 0 → (0 ≤ h 24 p ∧ h 24 p ≤ 400 ∧ 0 ≤ h 25 p ∧ h 25 p ≤ 400) ∧ (h 26 p = 0 ∨ h 26 p = 1)) {P : Int → Hp → Prop} (k : ∀ g : Hp, (∀ a k, a ≠ 44 → g a k = h a k) → RV (g 44) (gatL (h 24) (h 25) (h 26) X (h 23 0).toNat) → P ((gatL (h 24) (h 25) (h 26) X (h 23 0).toNat).length) g) : ∀ (nn : Nat) (m n : Nat) (g : Hp), ((m : Int) ≤ h 23 0) → (∀ a k, a ≠ 44 → g a k = h a k) → (RV (g 44) (gatL (h 24) (h 25) (h 26) X m)) → ((gatL (h 24) (h 25) (h 26) X m).length = n) → (h 23 0).toNat - m < nn → WW mX1_gather (d + 1) (pI P) 6 [some (.inr (.inr 23)), some (.inr (.inl X)), none, some (.inr (.inr 44)), some (.inl (n : Int)), some (.inl (m : Int))] [] g := by
  intro nn
  induction nn with
  | zero => intro m n g hm hg hr hl; intros; omega
  | succ nn ih =>
    intro m n g hm hg hr hl hmu
    have w0 : g 23 0 = h 23 0 := hg 23 0 (by decide)
    have w26 : g 26 = h 26 := funext fun j => hg 26 j (by omega)
    have len := gatL_len (h 24) (h 25) (h 26) X m
    have lb : LB 400 (gatL (h 24) (h 25) (h 26) X m) := gatL_LB (fun k hk => ⟨(hxy k (by omega)).1.2.2.1, (hxy k (by omega)).1.2.2.2⟩)
    have e2 : ((m : Int) + 1).toNat = m + 1 := by omega
    refine r_iload dX1_gather_6 rfl ?_
    refine r_aload_n dX1_gather_8 rfl rfl ?_
    refine r_getI dX1_gather_9 fl_X1_62 sh_23 rfl ?_
    refine r_icmp_ge (tgt := 98) dX1_gather_12 rfl (by omega) (by omega) (fun c_12 => ?_) (fun c_12 => ?_)
    · refine r_iload dX1_gather_98 rfl ?_
      refine r_iret dX1_gather_100 rfl ?_
      have e9 : (h 23 0).toNat = m := by omega
      rw [e9] at k
      refine ⟨_, rfl, ?_⟩
      rw [← hl]
      exact k g hg hr
    · have q2 := hxy (m + 1) (by omega)
      rw [← e2, ← w26] at q2
      refine r_aload_n dX1_gather_15 rfl rfl ?_
      refine r_getR dX1_gather_16 fl_X1_90 sh_23 rfl ?_
      refine r_iload dX1_gather_19 rfl ?_
      refine r_iconst dX1_gather_21 ?_
      refine r_iadd dX1_gather_22 ?_
      refine r_zald dX1_gather_23 sh_26 (by decide) (by omega) ?_
      refine r_if_ne (tgt := 30) dX1_gather_24 rfl (by omega) (fun c_24 => ?_) (fun c_24 => ?_)
      · have cn : ¬ h 26 (m + 1) = 0 := by rw [← e2, ← w26]; omega
        refine lp_gat30_23 hd hX hn hxy (by omega) (fun r2 n2 g2 z1 z2 z3 z4 z5 => ?_) 1 _ n g rfl hg hr hl lb (by omega) (by omega)
        refine lp_gat59_23 hd hX hn hxy (by omega) (fun r3 n3 g3 y1 y2 y3 y4 y5 => ?_) 1 r2 n2 g2 rfl z4 z5 z2 z3 (by have := gs_len (h 24) (h 25) X m (gatL (h 24) (h 25) (h 26) X m); rw [← z1] at this; omega) (by omega)
        refine r_iinc (L' := [_, _, _, _, _, _]) dX1_gather_92 rfl rfl (by decide) rfl ?_
        refine r_goto (tgt := 6) dX1_gather_95 rfl ?_
        have er : gatL (h 24) (h 25) (h 26) X (m + 1) = r3 := by rw [y1, z1, gatL, if_neg cn]
        exact ih (m + 1) n3 g3 (by omega) y4 (by rw [er]; exact y5) (by rw [er]; exact y2) (by omega)
      · refine r_goto (tgt := 92) dX1_gather_27 rfl ?_
        refine r_iinc (L' := [_, _, _, _, _, _]) dX1_gather_92 rfl rfl (by decide) rfl ?_
        refine r_goto (tgt := 6) dX1_gather_95 rfl ?_
        have cn : h 26 (m + 1) = 0 := by rw [← e2, ← w26]; omega
        have er : gatL (h 24) (h 25) (h 26) X (m + 1) = gatL (h 24) (h 25) (h 26) X m := by rw [gatL, if_pos cn]
        exact ih (m + 1) n g (by omega) hg (by rw [er]; exact hr) (by rw [er]; exact hl) (by omega)
set_option maxRecDepth 20000 in
set_option maxHeartbeats 400000 in
theorem sp_X1_gather_23_44 {d : Nat} (hd : 2 ≤ d) {X : Int} {h : Hp}  (hX : -4294967296 ≤ X ∧ X ≤ 4294967296) (hn : 0 ≤ h 23 0 ∧ h 23 0 ≤ 150) (hxy : ∀ p : Nat, (p : Int) ≤ h 23 0 → (0 ≤ h 24 p ∧ h 24 p ≤ 400 ∧ 0 ≤ h 25 p ∧ h 25 p ≤ 400) ∧ (h 26 p = 0 ∨ h 26 p = 1)) {P : Int → Hp → Prop} (k : ∀ (rr : Int), ∀ h' : Hp, (∀ a k, a ≠ 44 → h' a k = h a k) → (RV (h' 44) (gatL (h 24) (h 25) (h 26) X (h 23 0).toNat)) → (rr = (gatL (h 24) (h 25) (h 26) X (h 23 0).toNat).length) → P (rr) h') : Cl d mX1_gather [.inr (.inr 23), .inr (.inl X), .inr (.inr 44)] h (pI P) := by
  refine Cl.of (L := [some (.inr (.inr 23)), some (.inr (.inl X)), none, some (.inr (.inr 44)), none, none]) (by decide +kernel) (Nat.le_of_ble_eq_true rfl) rfl ?_
  obtain ⟨d, rfl⟩ : ∃ q, d = q + 1 := ⟨d - 1, by omega⟩
  refine r_iconst dX1_gather_0 ?_
  refine r_istore (L' := [_, _, _, _, _, _]) dX1_gather_1 rfl (by decide) rfl ?_
  refine r_iconst dX1_gather_3 ?_
  refine r_istore (L' := [_, _, _, _, _, _]) dX1_gather_4 rfl (by decide) rfl ?_
  exact lp_gather23 (by omega) hX hn hxy (fun g z1 z2 => k _ g z1 z2 rfl) 151 0 0 h (by omega) (fun _ _ _ => rfl) trivial rfl (by omega)
