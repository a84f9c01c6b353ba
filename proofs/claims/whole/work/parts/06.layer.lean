/-! THE LAYER: values, cells and heaps of the claim as whole numbers; a judgement WW over them, row by row out of the kit's -/
abbrev AV : Type := Int ⊕ (Int ⊕ Nat)
abbrev Hp : Type := Nat → Nat → Int
abbrev EV : Type := va_G × (Nat → Nat) × (Nat → ClassId)
abbrev Pst : Type := Option AV → Hp → Prop
abbrev R32 (x : Int) : Prop := -2147483648 ≤ x ∧ x ≤ 2147483647
abbrev R64 (x : Int) : Prop := -9223372036854775808 ≤ x ∧ x ≤ 9223372036854775807
abbrev aI (x : Int) : AV := .inl x
abbrev aJ (x : Int) : AV := .inr (.inl x)
abbrev aR (a : Nat) : AV := .inr (.inr a)
def tr (E : EV) : AV → Value
  | .inl z => .int (Int32.ofInt z)
  | .inr (.inl z) => .long (Int64.ofInt z)
  | .inr (.inr a) => .ref (E.2.1 a)
def fvv (E : EV) (h : Hp) (a k : Nat) : Nat → Value
  | 0 => .int (Int32.ofInt (h a k))
  | 1 => .long (Int64.ofInt (h a k))
  | t + 2 => .ref (E.2.1 t)
def fvs (E : EV) (h : Hp) (a : Nat) : Nat → List Nat → List Value
  | _, [] => []
  | k, t :: r => fvv E h a k t :: fvs E h a (k + 1) r
theorem fvs_at (E : EV) (h : Hp) (a : Nat) : ∀ (ts : List Nat) (k j : Nat), (fvs E h a k ts)[j]? = (ts[j]?).map (fun t => fvv E h a (k + j) t)
  | [], k, j => by simp [fvs]
  | t :: r, k, 0 => by simp [fvs]
  | t :: r, k, j + 1 => by
    simp only [fvs, List.getElem?_cons_succ]
    rw [fvs_at E h a r (k + 1) j, show k + 1 + j = k + (j + 1) by omega]
theorem fvs_len (E : EV) (h : Hp) (a : Nat) : ∀ (ts : List Nat) (k : Nat), (fvs E h a k ts).length = ts.length
  | [], k => rfl
  | t :: r, k => by simp [fvs, fvs_len E h a r (k + 1)]
def cellE (E : EV) (h : Hp) (a : Nat) (q : Nat × List Nat) : va_E :=
  match q with
  | (101, ts) => .inl (E.2.2 1, ts.headD 0, .inr (.inl fun j => Int64.ofInt (h a j)))
  | (n, ts) => if n < 100 then .inr (n, fvs E h a 0 ts) else .inl (E.2.2 (n - 100), ts.headD 0, .inl fun j => Int32.ofInt (h a j))
def wld (E : EV) (h : Hp) : Nat → List (Nat × List Nat) → va_W
  | _, [] => []
  | b, q :: r => (E.2.1 b, cellE E h b q) :: wld E h (b + 1) r
theorem wld_at (E : EV) (h : Hp) : ∀ (l : List (Nat × List Nat)) (b k : Nat), (wld E h b l)[k]? = (l[k]?).map (fun q => (E.2.1 (b + k), cellE E h (b + k) q))
  | [], b, k => by simp [wld]
  | q :: r, b, 0 => by simp [wld]
  | q :: r, b, k + 1 => by
    simp only [wld, List.getElem?_cons_succ]
    rw [wld_at E h r (b + 1) k, show b + 1 + k = b + (k + 1) by omega]
theorem cellE_congr {E : EV} {h h' : Hp} {a : Nat} (e : ∀ k, h' a k = h a k) (q : Nat × List Nat) : cellE E h' a q = cellE E h a q := by
  have e1 : h' a = h a := funext e
  have e2 : ∀ (ts : List Nat) (k : Nat), fvs E h' a k ts = fvs E h a k ts := by
    intro ts
    induction ts with
    | nil => intro k; rfl
    | cons t r ih =>
      intro k
      simp only [fvs, ih]
      congr 1
      match t with
      | 0 => simp [fvv, e]
      | 1 => simp [fvv, e]
      | t + 2 => simp [fvv]
  unfold cellE
  split
  · simp [e]
  · simp [e, e2]
def upH (h : Hp) (a k : Nat) (z : Int) : Hp := fun a' k' => if a' = a ∧ k' = k then z else h a' k'
theorem up_s (h : Hp) (a k : Nat) (z : Int) : upH h a k z a k = z := by simp [upH]
theorem up_nc {h : Hp} {a k a' k' : Nat} {z : Int} (hne : a' ≠ a) : upH h a k z a' k' = h a' k' := by simp [upH, hne]
theorem up_nk {h : Hp} {a k a' k' : Nat} {z : Int} (hne : k' ≠ k) : upH h a k z a' k' = h a' k' := by simp [upH, hne]
theorem up_if {h : Hp} {a k k' : Nat} {z : Int} : upH h a k z a k' = if k' = k then z else h a k' := by simp [upH]
theorem wld_set {E : EV} {h h' : Hp} {a : Nat} (l : List (Nat × List Nat)) {q : Nat × List Nat} (hq : l[a]? = some q) (e : ∀ a' k, a' ≠ a → h' a' k = h a' k) :
    wld E h' 0 l = (wld E h 0 l).set a (E.2.1 a, cellE E h' a q) := by
  apply List.ext_getElem?
  intro k
  have hl : (wld E h 0 l).length = l.length := by
    have : ∀ (l : List (Nat × List Nat)) (b : Nat), (wld E h b l).length = l.length := by
      intro l
      induction l with
      | nil => intro b; rfl
      | cons x r ih => intro b; simp [wld, ih]
    exact this l 0
  have ha : a < l.length := (List.getElem?_eq_some_iff.mp hq).1
  by_cases hk : k = a
  · subst hk
    rw [List.getElem?_set_self (by omega), wld_at, hq]
    simp
  · rw [List.getElem?_set_ne (Ne.symm hk), wld_at, wld_at]
    simp only [Nat.zero_add]
    congr 1
    funext x
    rw [cellE_congr (fun k' => e k k' hk)]
def wsM (M : MI) : List Cond := .code M.1 M.2.1 M.2.2.1 M.2.2.2 :: lw_g
def tysE (E : EV) : List (ClassId × FieldType) := [(E.2.2 0, .int), (E.2.2 1, .long), (E.2.2 2, .byte), (E.2.2 3, .boolean)]
def KK (E : EV) (U : State) : Prop := va_K E.1 vwCl (tysE E) U
def cls (E : EV) (h : Hp) : va_W := wld E h 0 SH
theorem cls_at {E : EV} {h : Hp} {a : Nat} {q : Nat × List Nat} (hq : ix SH a = some q) : (cls E h)[a]? = some (E.2.1 a, cellE E h a q) := by
  rw [ix_eq] at hq
  rw [cls, wld_at, hq]
  simp
theorem cls_set {E : EV} {h h' : Hp} {a : Nat} {q : Nat × List Nat} (hq : ix SH a = some q) (e : ∀ a' k, a' ≠ a → h' a' k = h a' k) : cls E h' = (cls E h).set a (E.2.1 a, cellE E h' a q) := by
  rw [ix_eq] at hq
  exact wld_set SH hq e
def lenS : List Nat := [4, 3, 4, 2, 5, 4, 5, 12, 12]
def bytS : List (List Int32) := [[102, 111, 114, 109], [112, 117, 116], [108, 105, 110, 101], [116, 111], [104, 97, 116, 99, 104], [99, 108, 105, 112], [97, 103, 97, 105, 110], [110, 111, 32, 115, 117, 99, 104, 32, 77, 79, 86, 69], [110, 111, 32, 115, 117, 99, 104, 32, 119, 104, 97, 116]]
def refS : List (String × Nat × String) := [(RX3, 79, "form"), (RX3, 85, "put"), (RX3, 87, "line"), (RX3, 89, "to"), (RX3, 91, "hatch"), (RX3, 93, "clip"), (RX3, 95, "again"), (RX11, 169, "no such MOVE"), (RX11, 197, "no such what")]
def nestL : List (String × Nat × MethodName) := [(RX11, 9, yX10_init), (RX11, 18, yX8_init), (RX11, 25, yX7_init), (RX11, 87, yX4_init), (RX10, 46, yX11_root), (RX3, 152, yX11_isWithin), (RX5, 124, yX11_isWithin), (RX10, 40, yX11_isWithin), (RX10, 78, yX11_sizeOf), (RX9, 85, yX11_sizeOf), (RX9, 89, yX11_root), (RX0, 85, yX11_sizeOf), (RX4, 35, yX11_sizeOf)]
def XT (E : EV) (A : Nat → Prop) (U : State) (H : Heap) : Prop :=
  vk_S 9 lenS bytS (fun i => E.2.1 (1000 + i)) (fun i => E.2.1 (2000 + i)) A U H ∧ va_Z "java/lang/String" "COMPACT_STRINGS" "Z" (.int 1) A U H ∧
  va_Zq "jdk/internal/util/Preconditions" "SIOOBE_FORMATTER" "Ljava/util/function/BiFunction;" A U H ∧ (∀ (i : Nat) (q : String × Nat × String), ix refS i = some q → vk_R q.1 q.2.1 q.2.2 (E.2.1 (1000 + i)) U) ∧ ∀ q ∈ nestL, va_Nw (.methodLinkNest q.1 q.2.1 q.2.2 "CordPens") U
theorem XT.call {E : EV} {A B : Nat → Prop} {s U : State} {H : Heap} {locs : List Loc} (h : XT E A s s.heap) (hS : va_S A s.heap H locs) (hW : s.WarmedH U.vm) (hAB : ∀ q, B q → A q) : XT E B U H :=
  ⟨((vk_S.moved hW.alike h.1).kept hS.2.1).narrow hAB, ((va_Z.moved hW.alike h.2.1).kept hS.2.1).narrow hAB, ((va_Zq.moved hW.alike h.2.2.1).kept hS.2.1).narrow hAB, fun i q hq => (h.2.2.2.1 i q hq).warm hW, fun q hq => (h.2.2.2.2 q hq).warmM hW⟩
def lvO (E : EV) (ls : Array Slot) (n : Nat) (L : List (Option AV)) : Prop := ls.size = n ∧ lv_wf ls ∧ ∀ (i : Nat) (v : AV), ix L i = some (some v) → ls[i]? = some (.val (tr E v))
def rmD (d : Nat) : Room := { frames := d, cells := 0, slots := 0, locals := 100 * d }
def FX (M : MI) (p : Program) (s : State) (m : MethodId) (args : Array Value) (meth : Method) (c : Code) : Prop :=
  p.tables.exec = Jvm.exec ∧ c.code = M.2.1 ∧ c.maxLocals = M.2.2.1 ∧ meth.sig.returnType = M.2.2.2 ∧ meth.locks = false ∧ s.vm.findClass M.1.cls = some m.cls ∧ ∀ w ∈ lw_g, w.before args s = true
def QQ (E : EV) (A : Nat → Prop) (post : Pst) : Array Value → State → Outcome → State → Prop := fun _ st oc t =>
  ∃ (v : Option AV) (h' : Hp), oc = .returned (v.map (tr E)) ∧ post v h' ∧ va_P E.1 vwCl (cls E h') t.heap ∧ KK E t ∧ va_D A (cls E h') ∧ va_F A st t
def WW (M : MI) (d : Nat) (post : Pst) (pc : Nat) (L : List (Option AV)) (st : List AV) (h : Hp) : Prop :=
  ∀ (E : EV) (A : Nat → Prop) (p : Program) (l : Launch) (e : Env) (s : State) (m : MethodId) (args : Array Value) (below : List Frame) (meth : Method) (c : Code) (H : Heap) (locs : List Loc) (ls : Array Slot),
    FX M p s m args meth c → XT E A s s.heap → (∀ q, s.heap.size ≤ q → A q) → KK E s → va_P E.1 vwCl (cls E h) H → va_D A (cls E h) → va_S A s.heap H locs → lvO E ls M.2.2.1 L →
    W p l e (rmD d) s m args below meth c H locs 0 0 (MQ below (QQ E A post) args s 0 0 A) (F0 m pc ls (st.map (tr E)))
def WLD (E : EV) (h : Hp) (sz : Nat) (U : State) : Prop := U.heap.size = sz ∧ va_P E.1 vwCl (cls E h) U.heap ∧ KK E U ∧ va_D (fun _ => True) (cls E h) ∧ XT E (va_A (cls E h) sz) U U.heap
/-- a call of M: any launch, any place of the cells -/
def Cl (d : Nat) (M : MI) (av : List AV) (h : Hp) (post : Pst) : Prop :=
  ∀ (E : EV) (sz : Nat) (l : Launch), Met l M.1 (wsM M) (rmD d) (va_Pc (av.map (tr E)) (WLD E h sz)) (QQ E (va_A (cls E h) sz) post) 0 0 (va_A (cls E h) sz)
def ent (E : EV) : List AV → List (Option AV)
  | [] => []
  | .inl z :: r => some (.inl z) :: ent E r
  | .inr (.inl z) :: r => some (.inr (.inl z)) :: none :: ent E r
  | .inr (.inr a) :: r => some (.inr (.inr a)) :: ent E r
theorem mn_X11_9 : (RX11, 9, yX10_init) ∈ nestL := List.mem_of_getElem? (i := 0) rfl
theorem mn_X11_18 : (RX11, 18, yX8_init) ∈ nestL := List.mem_of_getElem? (i := 1) rfl
theorem mn_X11_25 : (RX11, 25, yX7_init) ∈ nestL := List.mem_of_getElem? (i := 2) rfl
theorem mn_X11_87 : (RX11, 87, yX4_init) ∈ nestL := List.mem_of_getElem? (i := 3) rfl
theorem mn_X10_46 : (RX10, 46, yX11_root) ∈ nestL := List.mem_of_getElem? (i := 4) rfl
theorem mn_X3_152 : (RX3, 152, yX11_isWithin) ∈ nestL := List.mem_of_getElem? (i := 5) rfl
theorem mn_X5_124 : (RX5, 124, yX11_isWithin) ∈ nestL := List.mem_of_getElem? (i := 6) rfl
theorem mn_X10_40 : (RX10, 40, yX11_isWithin) ∈ nestL := List.mem_of_getElem? (i := 7) rfl
theorem mn_X10_78 : (RX10, 78, yX11_sizeOf) ∈ nestL := List.mem_of_getElem? (i := 8) rfl
theorem mn_X9_85 : (RX9, 85, yX11_sizeOf) ∈ nestL := List.mem_of_getElem? (i := 9) rfl
theorem mn_X9_89 : (RX9, 89, yX11_root) ∈ nestL := List.mem_of_getElem? (i := 10) rfl
theorem mn_X0_85 : (RX0, 85, yX11_sizeOf) ∈ nestL := List.mem_of_getElem? (i := 11) rfl
theorem mn_X4_35 : (RX4, 35, yX11_sizeOf) ∈ nestL := List.mem_of_getElem? (i := 12) rfl
