/-! LINES: the moves as a value (number, x, y, down, full) -/
abbrev Q4 := Int × Int × Int × Int
abbrev Gm := Int × (Nat → Int) × (Nat → Int) × (Nat → Int) × Int
def upG (f : Nat → Int) (k : Nat) (z : Int) : Nat → Int := fun j => if j = k then z else f j
def gmA (x y d : Int) (g : Gm) : Gm := if g.1 < 150 then (g.1 + 1, upG g.2.1 (g.1 + 1).toNat x, upG g.2.2.1 (g.1 + 1).toNat y, upG g.2.2.2.1 (g.1 + 1).toNat d, g.2.2.2.2) else (g.1, g.2.1, g.2.2.1, g.2.2.2.1, 1)
abbrev gmP (x y : Int) (g : Gm) : Prop := g.2.1 g.1.toNat = x ∧ g.2.2.1 g.1.toNat = y
def mv1 (x y : Int) (g : Gm) : Gm := if gmP x y g then g else gmA x y 0 g
def mv2 (e : Q4) (g : Gm) : Gm := if (mv1 e.1 e.2.1 g).2.2.2.2 = 0 ∧ ¬ (e.1 = e.2.2.1 ∧ e.2.1 = e.2.2.2) then gmA e.2.2.1 e.2.2.2 1 (mv1 e.1 e.2.1 g) else mv1 e.1 e.2.1 g
def cX (s sd : Int) (e : Q4) : Q4 := (cuA s sd e.1, cuB s sd e.1 e.2.2.1 e.2.1 e.2.2.2, cuA s sd e.2.2.1, cuB s sd e.2.2.1 e.1 e.2.2.2 e.2.1)
def cY (s sd : Int) (e : Q4) : Q4 := (cuB s sd e.2.1 e.2.2.2 e.1 e.2.2.1, cuA s sd e.2.1, cuB s sd e.2.2.2 e.2.1 e.2.2.1 e.1, cuA s sd e.2.2.2)
abbrev nX (s sd : Int) (e : Q4) : Prop := cuN s sd e.1 e.2.2.1
abbrev nY (s sd : Int) (e : Q4) : Prop := cuN s sd e.2.1 e.2.2.2
/-- the window: left, top, right, bottom -/
def lnN (w e : Q4) : Prop := nX 1 w.1 e ∨ nX (-1) w.2.2.1 (cX 1 w.1 e) ∨ nY 1 w.2.1 (cX (-1) w.2.2.1 (cX 1 w.1 e)) ∨ nY (-1) w.2.2.2 (cY 1 w.2.1 (cX (-1) w.2.2.1 (cX 1 w.1 e)))
def lnE (w e : Q4) : Q4 := cY (-1) w.2.2.2 (cY 1 w.2.1 (cX (-1) w.2.2.1 (cX 1 w.1 e)))
def liF (w e : Q4) (g : Gm) : Gm := if nX 1 w.1 e then g else if nX (-1) w.2.2.1 (cX 1 w.1 e) then g else if nY 1 w.2.1 (cX (-1) w.2.2.1 (cX 1 w.1 e)) then g else if nY (-1) w.2.2.2 (cY 1 w.2.1 (cX (-1) w.2.2.1 (cX 1 w.1 e))) then g else mv2 (lnE w e) g
theorem liF_n {w e : Q4} {g : Gm} (h : lnN w e) : liF w e g = g := by
  unfold liF
  by_cases c1 : nX 1 w.1 e
  · rw [if_pos c1]
  · by_cases c2 : nX (-1) w.2.2.1 (cX 1 w.1 e)
    · rw [if_neg c1, if_pos c2]
    · by_cases c3 : nY 1 w.2.1 (cX (-1) w.2.2.1 (cX 1 w.1 e))
      · rw [if_neg c1, if_neg c2, if_pos c3]
      · rw [if_neg c1, if_neg c2, if_neg c3, if_pos (((h.resolve_left c1).resolve_left c2).resolve_left c3)]
theorem liF_e {w e : Q4} {g : Gm} (h : ¬ lnN w e) : liF w e g = mv2 (lnE w e) g := by
  unfold liF
  rw [if_neg (fun z => h (Or.inl z)), if_neg (fun z => h (Or.inr (Or.inl z))), if_neg (fun z => h (Or.inr (Or.inr (Or.inl z)))), if_neg (fun z => h (Or.inr (Or.inr (Or.inr z))))]
abbrev LQ (e : Q4) : Prop := LnB e.1 e.2.1 e.2.2.1 e.2.2.2
theorem LQ.x {s sd : Int} {e : Q4} (b : LQ e) (hs : s = 1 ∨ s = -1) (h : ¬ nX s sd e) : LQ (cX s sd e) := LnB.cut b hs h
theorem LQ.y {s sd : Int} {e : Q4} (b : LQ e) (hs : s = 1 ∨ s = -1) (h : ¬ nY s sd e) : LQ (cY s sd e) := (LnB.cut b.sw hs h).sw
def gmC (h : Hp) : Gm := (h 16 0, h 17, h 18, h 19, h 30 10)
def wnC (h : Hp) : Q4 := (h 30 5, h 30 6, h 30 7, h 30 8)
abbrev EQ (h : Hp) (e : Q4) : Prop := h 31 0 = e.1 ∧ h 31 1 = e.2.1 ∧ h 31 2 = e.2.2.1 ∧ h 31 3 = e.2.2.2
abbrev FrL (h g : Hp) : Prop := ∀ a k, ¬ (a = 16 ∧ k = 0) → a ≠ 17 → a ≠ 18 → a ≠ 19 → ¬ (a = 30 ∧ k = 10) → a ≠ 31 → g a k = h a k
/-- the moves are in order: the number and the pen's place -/
abbrev GmR (g : Gm) : Prop := (0 ≤ g.1 ∧ g.1 ≤ 150) ∧ (∀ k : Nat, (k : Int) ≤ g.1 → (0 ≤ g.2.1 k ∧ g.2.1 k ≤ 2000) ∧ (0 ≤ g.2.2.1 k ∧ g.2.2.1 k ≤ 2000))
abbrev WnR (w : Q4) : Prop := (0 ≤ w.1 ∧ w.1 ≤ 999) ∧ (0 ≤ w.2.1 ∧ w.2.1 ≤ 999) ∧ (0 ≤ w.2.2.1 ∧ w.2.2.1 ≤ 999) ∧ (0 ≤ w.2.2.2 ∧ w.2.2.2 ≤ 999)
/-- what is left lies in the window -/
theorem lnE_in {w e : Q4} (h : ¬ lnN w e) : (w.1 ≤ (lnE w e).1 ∧ (lnE w e).1 ≤ w.2.2.1) ∧ (w.2.1 ≤ (lnE w e).2.1 ∧ (lnE w e).2.1 ≤ w.2.2.2) ∧ (w.1 ≤ (lnE w e).2.2.1 ∧ (lnE w e).2.2.1 ≤ w.2.2.1) ∧ (w.2.1 ≤ (lnE w e).2.2.2 ∧ (lnE w e).2.2.2 ≤ w.2.2.2) := by
  have n1 : ¬ nX 1 w.1 e := fun z => h (Or.inl z)
  have n2 : ¬ nX (-1) w.2.2.1 (cX 1 w.1 e) := fun z => h (Or.inr (Or.inl z))
  have n3 : ¬ nY 1 w.2.1 (cX (-1) w.2.2.1 (cX 1 w.1 e)) := fun z => h (Or.inr (Or.inr (Or.inl z)))
  have n4 : ¬ nY (-1) w.2.2.2 (cY 1 w.2.1 (cX (-1) w.2.2.1 (cX 1 w.1 e))) := fun z => h (Or.inr (Or.inr (Or.inr z)))
  have lo : ∀ {sd p : Int}, sd ≤ cuA 1 sd p := fun {sd p} => by have := cuA_ok (s := 1) (sd := sd) (p := p); omega
  have hi : ∀ {sd p : Int}, cuA (-1) sd p ≤ sd := fun {sd p} => by have := cuA_ok (s := -1) (sd := sd) (p := p); omega
  unfold lnE
  clear h
  have a1 : w.1 ≤ (cX 1 w.1 e).1 := lo
  have a2 : w.1 ≤ (cX 1 w.1 e).2.2.1 := lo
  generalize cX 1 w.1 e = e1 at *
  have b1 : (cX (-1) w.2.2.1 e1).1 ≤ w.2.2.1 := hi
  have b2 : (cX (-1) w.2.2.1 e1).2.2.1 ≤ w.2.2.1 := hi
  have m1 : w.1 ≤ (cX (-1) w.2.2.1 e1).1 := (cuA_in (lo := w.1) (hi := max e1.1 e1.2.2.1) (q := e1.2.2.1) (Or.inr rfl) n2 ⟨a1, by omega⟩ ⟨a2, by omega⟩).1
  have m2 : w.1 ≤ (cX (-1) w.2.2.1 e1).2.2.1 := (cuA_in (lo := w.1) (hi := max e1.1 e1.2.2.1) (q := e1.1) (Or.inr rfl) (cuN_sw n2) ⟨a2, by omega⟩ ⟨a1, by omega⟩).1
  generalize cX (-1) w.2.2.1 e1 = e2 at *
  have c1 : w.2.1 ≤ (cY 1 w.2.1 e2).2.1 := lo
  have c2 : w.2.1 ≤ (cY 1 w.2.1 e2).2.2.2 := lo
  have x1 := cuB_in (r := e2.1) (t := e2.2.2.1) (Or.inl rfl) n3 ⟨m1, b1⟩ ⟨m2, b2⟩
  have x2 := cuB_in (r := e2.2.2.1) (t := e2.1) (Or.inl rfl) (cuN_sw n3) ⟨m2, b2⟩ ⟨m1, b1⟩
  have x1 : w.1 ≤ (cY 1 w.2.1 e2).1 ∧ (cY 1 w.2.1 e2).1 ≤ w.2.2.1 := x1
  have x2 : w.1 ≤ (cY 1 w.2.1 e2).2.2.1 ∧ (cY 1 w.2.1 e2).2.2.1 ≤ w.2.2.1 := x2
  generalize cY 1 w.2.1 e2 = e3 at *
  have d1 : (cY (-1) w.2.2.2 e3).2.1 ≤ w.2.2.2 := hi
  have d2 : (cY (-1) w.2.2.2 e3).2.2.2 ≤ w.2.2.2 := hi
  have k1 : w.2.1 ≤ (cY (-1) w.2.2.2 e3).2.1 := (cuA_in (lo := w.2.1) (hi := max e3.2.1 e3.2.2.2) (q := e3.2.2.2) (Or.inr rfl) n4 ⟨c1, by omega⟩ ⟨c2, by omega⟩).1
  have k2 : w.2.1 ≤ (cY (-1) w.2.2.2 e3).2.2.2 := (cuA_in (lo := w.2.1) (hi := max e3.2.1 e3.2.2.2) (q := e3.2.1) (Or.inr rfl) (cuN_sw n4) ⟨c2, by omega⟩ ⟨c1, by omega⟩).1
  exact ⟨cuB_in (s := -1) (sd := w.2.2.2) (p := e3.2.1) (q := e3.2.2.2) (r := e3.1) (t := e3.2.2.1) (Or.inr rfl) n4 x1 x2, ⟨k1, d1⟩, cuB_in (s := -1) (sd := w.2.2.2) (p := e3.2.2.2) (q := e3.2.1) (r := e3.2.2.1) (t := e3.1) (Or.inr rfl) (cuN_sw n4) x2 x1, ⟨k2, d2⟩⟩
theorem upG_u {h : Hp} {a k : Nat} {z : Int} : upH h a k z a = upG (h a) k z := by
  funext j
  unfold upH upG
  by_cases e : j = k
  · rw [if_pos ⟨rfl, e⟩, if_pos e]
  · rw [if_neg (fun y => e y.2), if_neg e]
theorem upH_f {h : Hp} {a b k : Nat} {z : Int} (e : b ≠ a) : upH h a k z b = h b := funext fun j => up_nc e
set_option maxRecDepth 20000 in
set_option maxHeartbeats 400000 in
theorem sp_append_0 {d : Nat} (hd : 1 ≤ d) {x y : Int} {h : Hp}  (hm : 0 ≤ h 16 0 ∧ h 16 0 ≤ 150) {P : Int → Hp → Prop} (k0 : ∀ h' : Hp, (∀ a k, ¬ (a = 16 ∧ k = 0) → a ≠ 17 → a ≠ 18 → a ≠ 19 → h' a k = h a k) → (h 16 0 < 150 ∧ h' 16 0 = h 16 0 + 1 ∧ h' 17 = upG (h 17) (h 16 0 + 1).toNat x ∧ h' 18 = upG (h 18) (h 16 0 + 1).toNat y ∧ h' 19 = upG (h 19) (h 16 0 + 1).toNat 0) → P (1) h') (k1 : (¬ h 16 0 < 150) → P (0) h) : Cl d mX2_append [.inr (.inr 16), .inl x, .inl y, .inl 0] h (pI P) := by
  refine Cl.of (L := [some (.inr (.inr 16)), some (.inl x), some (.inl y), some (.inl 0)]) (by decide +kernel) (Nat.le_of_ble_eq_true rfl) rfl ?_
  refine r_aload_n dX2_append_0 rfl rfl ?_
  refine r_getI dX2_append_1 fl_X2_9 sh_16 rfl ?_
  refine r_sipush dX2_append_4 (by decide +kernel) ?_
  refine r_icmp_lt (tgt := 12) dX2_append_7 rfl (by omega) ⟨by decide, by decide⟩ (fun c_7 => ?_) (fun c_7 => ?_)
  · refine r_aload_n dX2_append_12 rfl rfl ?_
    refine r_dup dX2_append_13 (fun _ h => by cases h) ?_
    refine r_getI dX2_append_14 fl_X2_9 sh_16 rfl ?_
    refine r_iconst dX2_append_17 ?_
    refine r_iadd dX2_append_18 ?_
    refine r_putI dX2_append_19 fl_X2_9 sh_16 rfl ?_
    refine r_aload_n dX2_append_22 rfl rfl ?_
    refine r_getR dX2_append_23 fl_X2_15 sh_16 rfl ?_
    refine r_aload_n dX2_append_26 rfl rfl ?_
    refine r_getI dX2_append_27 fl_X2_9 sh_16 rfl ?_
    refine r_eqI (up_s _ _ _ _) ?_
    refine r_iload_n dX2_append_30 rfl rfl ?_
    refine r_iast dX2_append_31 sh_17 (by decide) (by omega) ?_
    refine r_aload_n dX2_append_32 rfl rfl ?_
    refine r_getR dX2_append_33 fl_X2_19 sh_16 rfl ?_
    refine r_aload_n dX2_append_36 rfl rfl ?_
    refine r_getI dX2_append_37 fl_X2_9 sh_16 rfl ?_
    refine r_eqI (((up_nc (by decide)).trans (up_s _ _ _ _))) ?_
    refine r_iload_n dX2_append_40 rfl rfl ?_
    refine r_iast dX2_append_41 sh_18 (by decide) (by omega) ?_
    refine r_aload_n dX2_append_42 rfl rfl ?_
    refine r_getR dX2_append_43 fl_X2_22 sh_16 rfl ?_
    refine r_aload_n dX2_append_46 rfl rfl ?_
    refine r_getI dX2_append_47 fl_X2_9 sh_16 rfl ?_
    refine r_eqI (((up_nc (by decide)).trans (((up_nc (by decide)).trans (up_s _ _ _ _))))) ?_
    refine r_iload_n dX2_append_50 rfl rfl ?_
    refine r_zast dX2_append_51 sh_19 (by decide) (by omega) (.inl rfl) ?_
    refine r_iconst dX2_append_52 ?_
    refine r_zret dX2_append_53 rfl (.inr rfl) ?_
    refine ⟨_, rfl, k0 _ (fun a k z1 z2 z3 z4 => ?_) ⟨by omega, ?_, ?_, ?_, ?_⟩⟩
    · rw [up_nc z4, up_nc z3, up_nc z2]
      unfold upH
      rw [if_neg z1]
    · rw [up_nc (by decide), up_nc (by decide), up_nc (by decide), up_s]
    · rw [upH_f (by decide), upH_f (by decide), upG_u, upH_f (by decide)]
    · rw [upH_f (by decide), upG_u, upH_f (by decide), upH_f (by decide)]
    · rw [upG_u, upH_f (by decide), upH_f (by decide), upH_f (by decide)]
  · refine r_iconst dX2_append_10 ?_
    refine r_zret dX2_append_11 rfl (.inl rfl) ?_
    exact ⟨_, rfl, k1 (by omega)⟩
set_option maxRecDepth 20000 in
set_option maxHeartbeats 400000 in
theorem sp_append_1 {d : Nat} (hd : 1 ≤ d) {x y : Int} {h : Hp}  (hm : 0 ≤ h 16 0 ∧ h 16 0 ≤ 150) {P : Int → Hp → Prop} (k0 : ∀ h' : Hp, (∀ a k, ¬ (a = 16 ∧ k = 0) → a ≠ 17 → a ≠ 18 → a ≠ 19 → h' a k = h a k) → (h 16 0 < 150 ∧ h' 16 0 = h 16 0 + 1 ∧ h' 17 = upG (h 17) (h 16 0 + 1).toNat x ∧ h' 18 = upG (h 18) (h 16 0 + 1).toNat y ∧ h' 19 = upG (h 19) (h 16 0 + 1).toNat 1) → P (1) h') (k1 : (¬ h 16 0 < 150) → P (0) h) : Cl d mX2_append [.inr (.inr 16), .inl x, .inl y, .inl 1] h (pI P) := by
  refine Cl.of (L := [some (.inr (.inr 16)), some (.inl x), some (.inl y), some (.inl 1)]) (by decide +kernel) (Nat.le_of_ble_eq_true rfl) rfl ?_
  refine r_aload_n dX2_append_0 rfl rfl ?_
  refine r_getI dX2_append_1 fl_X2_9 sh_16 rfl ?_
  refine r_sipush dX2_append_4 (by decide +kernel) ?_
  refine r_icmp_lt (tgt := 12) dX2_append_7 rfl (by omega) ⟨by decide, by decide⟩ (fun c_7 => ?_) (fun c_7 => ?_)
  · refine r_aload_n dX2_append_12 rfl rfl ?_
    refine r_dup dX2_append_13 (fun _ h => by cases h) ?_
    refine r_getI dX2_append_14 fl_X2_9 sh_16 rfl ?_
    refine r_iconst dX2_append_17 ?_
    refine r_iadd dX2_append_18 ?_
    refine r_putI dX2_append_19 fl_X2_9 sh_16 rfl ?_
    refine r_aload_n dX2_append_22 rfl rfl ?_
    refine r_getR dX2_append_23 fl_X2_15 sh_16 rfl ?_
    refine r_aload_n dX2_append_26 rfl rfl ?_
    refine r_getI dX2_append_27 fl_X2_9 sh_16 rfl ?_
    refine r_eqI (up_s _ _ _ _) ?_
    refine r_iload_n dX2_append_30 rfl rfl ?_
    refine r_iast dX2_append_31 sh_17 (by decide) (by omega) ?_
    refine r_aload_n dX2_append_32 rfl rfl ?_
    refine r_getR dX2_append_33 fl_X2_19 sh_16 rfl ?_
    refine r_aload_n dX2_append_36 rfl rfl ?_
    refine r_getI dX2_append_37 fl_X2_9 sh_16 rfl ?_
    refine r_eqI (((up_nc (by decide)).trans (up_s _ _ _ _))) ?_
    refine r_iload_n dX2_append_40 rfl rfl ?_
    refine r_iast dX2_append_41 sh_18 (by decide) (by omega) ?_
    refine r_aload_n dX2_append_42 rfl rfl ?_
    refine r_getR dX2_append_43 fl_X2_22 sh_16 rfl ?_
    refine r_aload_n dX2_append_46 rfl rfl ?_
    refine r_getI dX2_append_47 fl_X2_9 sh_16 rfl ?_
    refine r_eqI (((up_nc (by decide)).trans (((up_nc (by decide)).trans (up_s _ _ _ _))))) ?_
    refine r_iload_n dX2_append_50 rfl rfl ?_
    refine r_zast dX2_append_51 sh_19 (by decide) (by omega) (.inr rfl) ?_
    refine r_iconst dX2_append_52 ?_
    refine r_zret dX2_append_53 rfl (.inr rfl) ?_
    refine ⟨_, rfl, k0 _ (fun a k z1 z2 z3 z4 => ?_) ⟨by omega, ?_, ?_, ?_, ?_⟩⟩
    · rw [up_nc z4, up_nc z3, up_nc z2]
      unfold upH
      rw [if_neg z1]
    · rw [up_nc (by decide), up_nc (by decide), up_nc (by decide), up_s]
    · rw [upH_f (by decide), upH_f (by decide), upG_u, upH_f (by decide)]
    · rw [upH_f (by decide), upG_u, upH_f (by decide), upH_f (by decide)]
    · rw [upG_u, upH_f (by decide), upH_f (by decide), upH_f (by decide)]
  · refine r_iconst dX2_append_10 ?_
    refine r_zret dX2_append_11 rfl (.inl rfl) ?_
    exact ⟨_, rfl, k1 (by omega)⟩
set_option maxRecDepth 20000 in
set_option maxHeartbeats 400000 in
theorem sp_penAt {d : Nat} (hd : 1 ≤ d) {x y : Int} {h : Hp}  (hm : 0 ≤ h 16 0 ∧ h 16 0 ≤ 150) (hr : R32 (h 17 (h 16 0).toNat) ∧ R32 (h 18 (h 16 0).toNat)) (hx : R32 x ∧ R32 y) {P : Int → Hp → Prop} (kt : (h 17 (h 16 0).toNat = x ∧ h 18 (h 16 0).toNat = y) → P 1 h) (kf : ¬ (h 17 (h 16 0).toNat = x ∧ h 18 (h 16 0).toNat = y) → P 0 h) : Cl d mX2_penIsAt [.inr (.inr 16), .inl x, .inl y] h (pI P) := by
  refine Cl.of (L := [some (.inr (.inr 16)), some (.inl x), some (.inl y)]) (by decide +kernel) (Nat.le_of_ble_eq_true rfl) rfl ?_
  refine r_aload_n dX2_penIsAt_0 rfl rfl ?_
  refine r_getR dX2_penIsAt_1 fl_X2_15 sh_16 rfl ?_
  refine r_aload_n dX2_penIsAt_4 rfl rfl ?_
  refine r_getI dX2_penIsAt_5 fl_X2_9 sh_16 rfl ?_
  refine r_iald dX2_penIsAt_8 sh_17 (by decide) (by omega) ?_
  refine r_iload_n dX2_penIsAt_9 rfl rfl ?_
  refine r_icmp_ne (tgt := 30) dX2_penIsAt_10 rfl (by omega) (by omega) (fun c_10 => ?_) (fun c_10 => ?_)
  · refine r_iconst dX2_penIsAt_30 ?_
    refine r_zret dX2_penIsAt_31 rfl (.inl rfl) ?_
    exact ⟨_, rfl, kf (by omega)⟩
  · refine r_aload_n dX2_penIsAt_13 rfl rfl ?_
    refine r_getR dX2_penIsAt_14 fl_X2_19 sh_16 rfl ?_
    refine r_aload_n dX2_penIsAt_17 rfl rfl ?_
    refine r_getI dX2_penIsAt_18 fl_X2_9 sh_16 rfl ?_
    refine r_iald dX2_penIsAt_21 sh_18 (by decide) (by omega) ?_
    refine r_iload_n dX2_penIsAt_22 rfl rfl ?_
    refine r_icmp_ne (tgt := 30) dX2_penIsAt_23 rfl (by omega) (by omega) (fun c_23 => ?_) (fun c_23 => ?_)
    · refine r_iconst dX2_penIsAt_30 ?_
      refine r_zret dX2_penIsAt_31 rfl (.inl rfl) ?_
      exact ⟨_, rfl, kf (by omega)⟩
    · refine r_iconst dX2_penIsAt_26 ?_
      refine r_goto (tgt := 31) dX2_penIsAt_27 rfl ?_
      refine r_zret dX2_penIsAt_31 rfl (.inr rfl) ?_
      exact ⟨_, rfl, kt (by omega)⟩
