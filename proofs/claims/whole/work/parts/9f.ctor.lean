/-! THE CONSTRUCTORS' LAYER: a shape ll of cells, the code 2 a field that is null still -/
def fvN (E : EV) (h : Hp) (a k : Nat) : Nat → Value
  | 0 => .int (Int32.ofInt (h a k))
  | 1 => .long (Int64.ofInt (h a k))
  | 2 => .null
  | t + 3 => .ref (E.2.1 (t + 1))
def fvsN (E : EV) (h : Hp) (a : Nat) : Nat → List Nat → List Value
  | _, [] => []
  | k, t :: r => fvN E h a k t :: fvsN E h a (k + 1) r
theorem fvsN_at (E : EV) (h : Hp) (a : Nat) : ∀ (ts : List Nat) (k j : Nat), (fvsN E h a k ts)[j]? = (ts[j]?).map (fun t => fvN E h a (k + j) t)
  | [], k, j => by simp [fvsN]
  | t :: r, k, 0 => by simp [fvsN]
  | t :: r, k, j + 1 => by
    simp only [fvsN, List.getElem?_cons_succ]
    rw [fvsN_at E h a r (k + 1) j, show k + 1 + j = k + (j + 1) by omega]
theorem fvsN_len (E : EV) (h : Hp) (a : Nat) : ∀ (ts : List Nat) (k : Nat), (fvsN E h a k ts).length = ts.length
  | [], k => rfl
  | t :: r, k => by simp [fvsN, fvsN_len E h a r (k + 1)]
def dvN : Nat → Value
  | 0 => .int 0
  | 1 => .long 0
  | _ => .null
theorem fvsN_z (E : EV) {h : Hp} {a : Nat} (hz : ∀ k, h a k = 0) : ∀ (ts : List Nat) (k : Nat), ts.all (fun t => decide (t < 3)) = true → fvsN E h a k ts = ts.map dvN
  | [], k, _ => rfl
  | t :: r, k, q => by
    rw [List.all_cons, Bool.and_eq_true] at q
    have h1 : t < 3 := of_decide_eq_true q.1
    have h2 : fvN E h a k t = dvN t := by
      match t, h1 with
      | 0, _ => simp [fvN, dvN, hz]
      | 1, _ => simp [fvN, dvN, hz]
      | 2, _ => rfl
    simp only [fvsN, List.map_cons, h2]
    rw [fvsN_z E hz r (k + 1) q.2]
def cellN (E : EV) (h : Hp) (a : Nat) (q : Nat × List Nat) : va_E :=
  match q with
  | (101, ts) => .inl (E.2.2 1, ts.headD 0, .inr (.inl fun j => Int64.ofInt (h a j)))
  | (n, ts) => if n < 100 then .inr (n, fvsN E h a 0 ts) else .inl (E.2.2 (n - 100), ts.headD 0, .inl fun j => Int32.ofInt (h a j))
theorem cellN_obj {E : EV} {h : Hp} {a ci : Nat} {ts : List Nat} (hc : ci < 100) : cellN E h a (ci, ts) = .inr (ci, fvsN E h a 0 ts) := by
  unfold cellN
  split
  · rename_i q
    injection q
    omega
  · rename_i n ts' q
    injection q with q1 q2
    subst q1; subst q2
    rw [if_pos hc]
def wldN (E : EV) (h : Hp) : Nat → List (Nat × List Nat) → va_W
  | _, [] => []
  | b, q :: r => (E.2.1 b, cellN E h b q) :: wldN E h (b + 1) r
theorem wldN_at (E : EV) (h : Hp) : ∀ (l : List (Nat × List Nat)) (b k : Nat), (wldN E h b l)[k]? = (l[k]?).map (fun q => (E.2.1 (b + k), cellN E h (b + k) q))
  | [], b, k => by simp [wldN]
  | q :: r, b, 0 => by simp [wldN]
  | q :: r, b, k + 1 => by
    simp only [wldN, List.getElem?_cons_succ]
    rw [wldN_at E h r (b + 1) k, show b + 1 + k = b + (k + 1) by omega]
theorem wldN_len (E : EV) (h : Hp) : ∀ (l : List (Nat × List Nat)) (b : Nat), (wldN E h b l).length = l.length
  | [], b => rfl
  | q :: r, b => by simp [wldN, wldN_len E h r (b + 1)]
theorem wldN_app (E : EV) (h : Hp) : ∀ (l r : List (Nat × List Nat)) (b : Nat), wldN E h b (l ++ r) = wldN E h b l ++ wldN E h (b + l.length) r
  | [], r, b => by simp [wldN]
  | q :: l, r, b => by
    simp only [List.cons_append, wldN, List.length_cons]
    rw [wldN_app E h l r (b + 1), show b + 1 + l.length = b + (l.length + 1) by omega]
theorem wN_at {E : EV} {h : Hp} {ll : List (Nat × List Nat)} {a : Nat} {q : Nat × List Nat} (hq : ix ll a = some q) : (wldN E h 0 ll)[a]? = some (E.2.1 a, cellN E h a q) := by
  rw [ix_eq] at hq
  rw [wldN_at, hq]
  simp
theorem cellN_congr {E : EV} {h h' : Hp} {a : Nat} (e : ∀ k, h' a k = h a k) (q : Nat × List Nat) : cellN E h' a q = cellN E h a q := by
  have e2 : ∀ (ts : List Nat) (k : Nat), fvsN E h' a k ts = fvsN E h a k ts := by
    intro ts
    induction ts with
    | nil => intro k; rfl
    | cons t r ih =>
      intro k
      simp only [fvsN, ih]
      congr 1
      match t with
      | 0 => simp [fvN, e]
      | 1 => simp [fvN, e]
      | 2 => rfl
      | t + 3 => rfl
  unfold cellN
  split
  · simp [e]
  · simp [e, e2]
theorem wN_set {E : EV} {h h' : Hp} {ll : List (Nat × List Nat)} {a : Nat} {q q' : Nat × List Nat} (hq : ix ll a = some q) (e : ∀ a' k, a' ≠ a → h' a' k = h a' k) : wldN E h' 0 (ll.set a q') = (wldN E h 0 ll).set a (E.2.1 a, cellN E h' a q') := by
  rw [ix_eq] at hq
  have ha : a < ll.length := (List.getElem?_eq_some_iff.mp hq).1
  apply List.ext_getElem?
  intro k
  by_cases hk : k = a
  · subst hk
    rw [List.getElem?_set_self (by rw [wldN_len]; exact ha), wldN_at, List.getElem?_set_self ha]
    simp
  · rw [List.getElem?_set_ne (Ne.symm hk), wldN_at, wldN_at, List.getElem?_set_ne (Ne.symm hk)]
    simp only [Nat.zero_add]
    congr 1
    funext x
    rw [cellN_congr (fun k' => e k k' hk)]
theorem wN_same {E : EV} {h h' : Hp} {ll : List (Nat × List Nat)} {a : Nat} {q : Nat × List Nat} (hq : ix ll a = some q) (e : ∀ a' k, a' ≠ a → h' a' k = h a' k) : wldN E h' 0 ll = (wldN E h 0 ll).set a (E.2.1 a, cellN E h' a q) := by
  have e1 : ll.set a q = ll := by
    rw [ix_eq] at hq
    apply List.ext_getElem?
    intro k
    by_cases hk : k = a
    · subst hk
      rw [List.getElem?_set_self (List.getElem?_eq_some_iff.mp hq).1, hq]
    · rw [List.getElem?_set_ne (Ne.symm hk)]
  have := wN_set (E := E) (q' := q) hq e
  rw [e1] at this
  exact this
theorem fvsN_up {E : EV} {h : Hp} {a k : Nat} {ts : List Nat} {t : Nat} {x : Int} {v : Value} (ht : ix ts k = some t) (hv : fvN E (upH h a k x) a k t = v) : fvsN E (upH h a k x) a 0 ts = (fvsN E h a 0 ts).set k v := by
  rw [ix_eq] at ht
  apply List.ext_getElem?
  intro j
  by_cases hj : j = k
  · subst hj
    rw [List.getElem?_set_self (by rw [fvsN_len]; exact (List.getElem?_eq_some_iff.mp ht).1), fvsN_at, ht]
    simp [hv]
  · rw [List.getElem?_set_ne (Ne.symm hj), fvsN_at, fvsN_at]
    congr 1
    funext t
    rw [Nat.zero_add]
    match t with
    | 0 => simp [fvN, up_nk hj]
    | 1 => simp [fvN, up_nk hj]
    | 2 => rfl
    | t + 3 => rfl
theorem fvsN_st {E : EV} {h : Hp} {a k b : Nat} {ts : List Nat} (hk : k < ts.length) : fvsN E h a 0 (ts.set k (b + 3)) = (fvsN E h a 0 ts).set k (.ref (E.2.1 (b + 1))) := by
  apply List.ext_getElem?
  intro j
  by_cases hj : j = k
  · subst hj
    rw [List.getElem?_set_self (by rw [fvsN_len]; exact hk), fvsN_at, List.getElem?_set_self hk]
    rfl
  · rw [List.getElem?_set_ne (Ne.symm hj), fvsN_at, fvsN_at, List.getElem?_set_ne (Ne.symm hj)]
/-! the places of the cells, as they come -/
def agr (n : Nat) (E E' : EV) : Prop := E'.1 = E.1 ∧ E'.2.2 = E.2.2 ∧ ∀ a, a < n ∨ 1000 ≤ a → E'.2.1 a = E.2.1 a
theorem agr.rf {n : Nat} {E : EV} : agr n E E := ⟨rfl, rfl, fun _ _ => rfl⟩
theorem agr.tr {n n' : Nat} {E E' E'' : EV} (hn : n ≤ n') (h1 : agr n E E') (h2 : agr n' E' E'') : agr n E E'' :=
  ⟨h2.1.trans h1.1, h2.2.1.trans h1.2.1, fun a ha => (h2.2.2 a (by omega)).trans (h1.2.2 a ha)⟩
theorem agr.mono {n n' : Nat} {E E' : EV} (hn : n ≤ n') (h : agr n' E E') : agr n E E' := ⟨h.1, h.2.1, fun a ha => h.2.2 a (by omega)⟩
def wfN (n : Nat) (l : List (Nat × List Nat)) : Bool := l.all (fun q => decide (100 ≤ q.1) || q.2.all (fun t => decide (t < n + 2)))
theorem fvsN_agr {n : Nat} {E E' : EV} (ha : agr n E E') (h : Hp) (a : Nat) : ∀ (ts : List Nat) (k : Nat), ts.all (fun t => decide (t < n + 2)) = true → fvsN E' h a k ts = fvsN E h a k ts
  | [], k, _ => rfl
  | t :: r, k, q => by
    rw [List.all_cons, Bool.and_eq_true] at q
    have h1 : t < n + 2 := of_decide_eq_true q.1
    simp only [fvsN]
    rw [fvsN_agr ha h a r (k + 1) q.2]
    congr 1
    match t, h1 with
    | 0, _ => rfl
    | 1, _ => rfl
    | 2, _ => rfl
    | t + 3, h1 => simp only [fvN]; rw [ha.2.2 (t + 1) (by omega)]
theorem cellN_agr {n : Nat} {E E' : EV} (ha : agr n E E') (h : Hp) (a : Nat) (q : Nat × List Nat) (hq : (decide (100 ≤ q.1) || q.2.all (fun t => decide (t < n + 2))) = true) : cellN E' h a q = cellN E h a q := by
  unfold cellN
  split
  · rw [ha.2.1]
  · rename_i n' ts hne
    by_cases hn : n' < 100
    · rw [if_pos hn, if_pos hn]
      have : decide (100 ≤ n') = false := decide_eq_false (by omega)
      rw [this, Bool.false_or] at hq
      rw [fvsN_agr ha h a ts 0 hq]
    · rw [if_neg hn, if_neg hn, ha.2.1]
theorem wldN_agr {n : Nat} {E E' : EV} (ha : agr n E E') (h : Hp) : ∀ (l : List (Nat × List Nat)) (b : Nat), b + l.length ≤ n → wfN n l = true → wldN E' h b l = wldN E h b l
  | [], b, _, _ => rfl
  | q :: r, b, hb, hw => by
    unfold wfN at hw
    rw [List.all_cons, Bool.and_eq_true] at hw
    rw [List.length_cons] at hb
    simp only [wldN]
    rw [wldN_agr ha h r (b + 1) (by omega) hw.2, ha.2.2 b (by omega), cellN_agr ha h b q hw.1]
def okAv (n : Nat) : AV → Bool
  | .inr (.inr a) => decide (a < n) || decide (1000 ≤ a)
  | _ => true
def okLo (n : Nat) (L : List (Option AV)) : Bool := L.all (fun o => match o with | some v => okAv n v | none => true)
def okSt (n : Nat) (st : List AV) : Bool := st.all (okAv n)
theorem tr_agr {n : Nat} {E E' : EV} (ha : agr n E E') {v : AV} (hv : okAv n v = true) : tr E' v = tr E v := by
  match v, hv with
  | .inl z, _ => rfl
  | .inr (.inl z), _ => rfl
  | .inr (.inr a), hv =>
    unfold okAv at hv
    rw [Bool.or_eq_true, decide_eq_true_eq, decide_eq_true_eq] at hv
    simp only [tr]
    rw [ha.2.2 a hv]
theorem st_agr {n : Nat} {E E' : EV} (ha : agr n E E') : ∀ {st : List AV}, okSt n st = true → st.map (tr E') = st.map (tr E)
  | [], _ => rfl
  | v :: r, q => by
    unfold okSt at q
    rw [List.all_cons, Bool.and_eq_true] at q
    simp only [List.map_cons]
    rw [tr_agr ha q.1, st_agr ha q.2]
theorem lvO_agr {n N : Nat} {E E' : EV} {ls : Array Slot} {L : List (Option AV)} (ha : agr n E E') (hL : okLo n L = true) (h : lvO E ls N L) : lvO E' ls N L := by
  refine ⟨h.1, h.2.1, fun i v hi => ?_⟩
  have h1 := h.2.2 i v hi
  rw [ix_eq] at hi
  have h2 := List.all_eq_true.mp hL _ (List.mem_of_getElem? hi)
  rw [tr_agr ha h2]
  exact h1
theorem XT_agr {n : Nat} {E E' : EV} {A : Nat → Prop} {U : State} {H : Heap} (ha : agr n E E') (h : XT E A U H) : XT E' A U H := by
  have e1 : (fun i => E'.2.1 (1000 + i)) = fun i => E.2.1 (1000 + i) := funext fun i => ha.2.2 _ (by omega)
  have e2 : (fun i => E'.2.1 (2000 + i)) = fun i => E.2.1 (2000 + i) := funext fun i => ha.2.2 _ (by omega)
  unfold XT at h ⊢
  rw [e1, e2]
  refine ⟨h.1, h.2.1, h.2.2.1, fun i q hq => ?_, h.2.2.2.2⟩
  rw [ha.2.2 _ (by omega)]
  exact h.2.2.2.1 i q hq
theorem KK_agr {n : Nat} {E E' : EV} {U : State} (ha : agr n E E') (h : KK E U) : KK E' U := by
  unfold KK tysE at h ⊢
  rw [ha.1, ha.2.1]
  exact h
def Zr (n : Nat) (h : Hp) : Prop := ∀ a k, n ≤ a → h a k = 0
theorem Zr.up {n a k : Nat} {h : Hp} {z : Int} (hz : Zr n h) (ha : a < n) : Zr n (upH h a k z) := fun a' k' q => by
  rw [up_nc (by omega)]
  exact hz a' k' q
theorem ix_lt {α : Type} {l : List α} {a : Nat} {q : α} (h : ix l a = some q) : a < l.length := by
  rw [ix_eq] at h
  exact (List.getElem?_eq_some_iff.mp h).1
abbrev GN : Type := (EV → (Nat → Prop) → State → Array Value → Launch → Code → Method → Prop) × Room × (EV → (Nat → Prop) → List Frame → Array Value → State → State → Prop)
def OKN (n : Nat) (G : GN) : Prop := (∀ (E E' : EV) (A : Nat → Prop) (s : State) (args : Array Value) (l : Launch) (c : Code) (meth : Method), agr n E E' → G.1 E A s args l c meth → G.1 E' A s args l c meth) ∧ ∀ (E E' : EV) (A : Nat → Prop) (below : List Frame) (args : Array Value) (s t : State), agr n E E' → G.2.2 E' A below args s t → G.2.2 E A below args s t
theorem OKN.mono {n n' : Nat} {G : GN} (hn : n ≤ n') (h : OKN n G) : OKN n' G := ⟨fun E E' A s args l c meth q => h.1 E E' A s args l c meth (q.mono hn), fun E E' A below args s t q => h.2 E E' A below args s t (q.mono hn)⟩
def WNc (G : GN) (ll : List (Nat × List Nat)) (ck sl : Nat) (M : MI) (pc : Nat) (L : List (Option AV)) (st : List AV) (h : Hp) : Prop :=
  ∀ (E : EV) (A : Nat → Prop) (p : Program) (l : Launch) (e : Env) (s : State) (m : MethodId) (args : Array Value) (below : List Frame) (meth : Method) (c : Code) (H : Heap) (locs : List Loc) (ls : Array Slot),
    (FX M p s m args meth c ∧ G.1 E A s args l c meth ∧ Zr ll.length h) → XT E A s s.heap → (∀ q, s.heap.size ≤ q → A q) → KK E s → va_P E.1 vwCl (wldN E h 0 ll) H → va_D A (wldN E h 0 ll) → va_S A s.heap H locs → lvO E ls M.2.2.1 L →
    W p l e G.2.1 s m args below meth c H locs ck sl (G.2.2 E A below args s) (F0 m pc ls (st.map (tr E)))
section
variable {G : GN} {ll ll' : List (Nat × List Nat)} {ck sl : Nat} {M : MI} {pc : Nat} {L L' : List (Option AV)} {st : List AV} {h : Hp}
theorem nn_iconst {n : Int} (hd : decode M.2.1 pc = .ok (.iconst n, 1)) (k : WNc G ll ck sl M (pc + 1) L (.inl n :: st) h) : WNc G ll ck sl M pc L st h := by
  intro E A p l e s m args below meth c H locs ls F hX hA hK hP hD hS hL
  exact lv_iconst F.1.1 F.1.2.1 hd rfl (k E A p l e s m args below meth c H locs ls F hX hA hK hP hD hS hL)
theorem nn_bipush {n : Int} (hd : decode M.2.1 pc = .ok (.bipush n, 2)) (hn : (Int8.ofInt n).toInt32 = Int32.ofInt n) (k : WNc G ll ck sl M (pc + 2) L (.inl n :: st) h) : WNc G ll ck sl M pc L st h := by
  intro E A p l e s m args below meth c H locs ls F hX hA hK hP hD hS hL
  exact lv_bipush F.1.1 F.1.2.1 hd hn (k E A p l e s m args below meth c H locs ls F hX hA hK hP hD hS hL)
theorem nn_sipush {n : Int} (hd : decode M.2.1 pc = .ok (.sipush n, 3)) (hn : (Int16.ofInt n).toInt32 = Int32.ofInt n) (k : WNc G ll ck sl M (pc + 3) L (.inl n :: st) h) : WNc G ll ck sl M pc L st h := by
  intro E A p l e s m args below meth c H locs ls F hX hA hK hP hD hS hL
  exact lv_sipush F.1.1 F.1.2.1 hd hn (k E A p l e s m args below meth c H locs ls F hX hA hK hP hD hS hL)
theorem nn_lconst {n : Fin 2} {z : Int} (hd : decode M.2.1 pc = .ok (.lconst n, 1)) (hn : Int64.ofNat (n : Nat) = Int64.ofInt z) (k : WNc G ll ck sl M (pc + 1) L (.inr (.inl z) :: st) h) : WNc G ll ck sl M pc L st h := by
  intro E A p l e s m args below meth c H locs ls F hX hA hK hP hD hS hL
  exact lv_lconst F.1.1 F.1.2.1 hd hn (k E A p l e s m args below meth c H locs ls F hX hA hK hP hD hS hL)
theorem nn_aload_n {q : Fin 4} {i : Nat} {x : Nat} (hd : decode M.2.1 pc = .ok (.aload_n q, 1)) (hi : (q : Nat) = i) (hl : ix L i = some (some (.inr (.inr x)))) (k : WNc G ll ck sl M (pc + 1) L (.inr (.inr x) :: st) h) : WNc G ll ck sl M pc L st h := by
  intro E A p l e s m args below meth c H locs ls F hX hA hK hP hD hS hL
  exact lv_aload_n F.1.1 F.1.2.1 hd hi (hL.2.2 _ _ hl) (k E A p l e s m args below meth c H locs ls F hX hA hK hP hD hS hL)
theorem nn_istore {i : Nat} {x : Int} (hd : decode M.2.1 pc = .ok (.istore i, 2)) (hc : ncat L i = true) (hn : i < M.2.2.1) (hs : L.set i (some (.inl x)) = L') (k : WNc G ll ck sl M (pc + 2) L' st h) : WNc G ll ck sl M pc L (.inl x :: st) h := by
  intro E A p l e s m args below meth c H locs ls F hX hA hK hP hD hS hL
  subst hs
  exact lv_istore F.1.1 F.1.2.1 hd hL.has hn rfl (fun ls2 h2 => k E A p l e s m args below meth c H locs ls2 F hX hA hK hP hD hS (lvO.set1 (v := .inl x) hc h2))
theorem nn_astore_n {q : Fin 4} {i : Nat} {x : Nat} (hd : decode M.2.1 pc = .ok (.astore_n q, 1)) (hi : (q : Nat) = i) (hc : ncat L i = true) (hn : i < M.2.2.1) (hs : L.set i (some (.inr (.inr x))) = L') (k : WNc G ll ck sl M (pc + 1) L' st h) : WNc G ll ck sl M pc L (.inr (.inr x) :: st) h := by
  intro E A p l e s m args below meth c H locs ls F hX hA hK hP hD hS hL
  subst hs
  exact lv_astore_n F.1.1 F.1.2.1 hd hi hL.has hn rfl (fun ls2 h2 => k E A p l e s m args below meth c H locs ls2 F hX hA hK hP hD hS (lvO.set1 (v := .inr (.inr x)) hc h2))
theorem nn_dup {v : AV} (hd : decode M.2.1 pc = .ok (.dup, 1)) (hv : ∀ z, v ≠ .inr (.inl z)) (k : WNc G ll ck sl M (pc + 1) L (v :: v :: st) h) : WNc G ll ck sl M pc L (v :: st) h := by
  intro E A p l e s m args below meth c H locs ls F hX hA hK hP hD hS hL
  refine lv_dup F.1.1 F.1.2.1 hd ?_ (k E A p l e s m args below meth c H locs ls F hX hA hK hP hD hS hL)
  match v with
  | .inl z => rfl
  | .inr (.inl z) => exact absurd rfl (hv z)
  | .inr (.inr a) => rfl
theorem nn_getR {i a ci k b : Nat} {ts : List Nat} {fin : Bool} {ty : FieldType} (hd : decode M.2.1 pc = .ok (.getfield i, 3)) (hf : FLk M.1.cls i ci k fin ty) (hs : ix ll a = some (ci, ts)) (ht : ix ts k = some (b + 3)) (kk : WNc G ll ck sl M (pc + 3) L (.inr (.inr (b + 1)) :: st) h) : WNc G ll ck sl M pc L (.inr (.inr a) :: st) h := by
  intro E A p l e s m args below meth c H locs ls F hX hA hK hP hD hS hL
  obtain ⟨C, T, N, ty0, f1, f2, f3, f4, f5, f6, f7, f8, f9⟩ := hf
  rw [ix_eq] at f1 ht
  have he := wN_at (E := E) (h := h) hs
  rw [cellN_obj f2] at he
  refine va_get F.1.1 F.1.2.1 F.1.2.2.2.2.2.2 f4 F.1.2.2.2.2.2.1 hK hP a he f1 k f3 (F.1.2.2.2.2.2.2 _ f7) (fun _ q => q) (v := .ref (E.2.1 (b + 1))) ?_ hd (kk E A p l e s m args below meth c H locs ls F hX hA hK hP hD hS hL)
  rw [fvsN_at, ht]
  simp [fvN]
theorem nn_putI {i a ci k : Nat} {x : Int} {ts : List Nat} (hd : decode M.2.1 pc = .ok (.putfield i, 3)) (hf : FLk M.1.cls i ci k false .int) (hs : ix ll a = some (ci, ts)) (ht : ix ts k = some 0) (kk : WNc G ll ck sl M (pc + 3) L st (upH h a k x)) : WNc G ll ck sl M pc L (.inl x :: .inr (.inr a) :: st) h := by
  intro E A p l e s m args below meth c H locs ls F hX hA hK hP hD hS hL
  obtain ⟨C, T, N, ty0, f1, f2, f3, f4, f5, f6, f7, f8, f9⟩ := hf
  rw [ix_eq] at f1
  have he := wN_at (E := E) (h := h) hs
  rw [cellN_obj f2] at he
  have hlen : k < ts.length := by rw [ix_eq] at ht; exact (List.getElem?_eq_some_iff.mp ht).1
  have e1 : (wldN E h 0 ll).set a (E.2.1 a, .inr (ci, (fvsN E h a 0 ts).set k (.int (Int32.ofInt x)))) = wldN E (upH h a k x) 0 ll := by
    rw [wN_same (h' := upH h a k x) hs upH_off, cellN_obj f2, fvsN_up (v := .int (Int32.ofInt x)) ht (by simp [fvN, up_s])]
  refine va_put F.1.1 F.1.2.1 F.1.2.2.2.2.2.2 f4 ty0 f5 f6 F.1.2.2.2.2.2.1 hK hP hD hS a he f1 k f3 (F.1.2.2.2.2.2.2 _ f7) (fun _ q => q) f8 (ty := .int) (v := .int (Int32.ofInt x)) (by rw [f5 k f3, f9]) rfl rfl (by rw [fvsN_len]; exact hlen) hd (fun H1 locs1 hP1 hD1 hS1 => ?_)
  rw [e1] at hP1 hD1
  exact kk E A p l e s m args below meth c H1 locs1 ls ⟨F.1, F.2.1, F.2.2.up (ix_lt hs)⟩ hX hA hK hP1 hD1 hS1 hL
theorem nn_putJ {i a ci k : Nat} {x : Int} {ts : List Nat} (hd : decode M.2.1 pc = .ok (.putfield i, 3)) (hf : FLk M.1.cls i ci k false .long) (hs : ix ll a = some (ci, ts)) (ht : ix ts k = some 1) (kk : WNc G ll ck sl M (pc + 3) L st (upH h a k x)) : WNc G ll ck sl M pc L (.inr (.inl x) :: .inr (.inr a) :: st) h := by
  intro E A p l e s m args below meth c H locs ls F hX hA hK hP hD hS hL
  obtain ⟨C, T, N, ty0, f1, f2, f3, f4, f5, f6, f7, f8, f9⟩ := hf
  rw [ix_eq] at f1
  have he := wN_at (E := E) (h := h) hs
  rw [cellN_obj f2] at he
  have hlen : k < ts.length := by rw [ix_eq] at ht; exact (List.getElem?_eq_some_iff.mp ht).1
  have e1 : (wldN E h 0 ll).set a (E.2.1 a, .inr (ci, (fvsN E h a 0 ts).set k (.long (Int64.ofInt x)))) = wldN E (upH h a k x) 0 ll := by
    rw [wN_same (h' := upH h a k x) hs upH_off, cellN_obj f2, fvsN_up (v := .long (Int64.ofInt x)) ht (by simp [fvN, up_s])]
  refine va_put F.1.1 F.1.2.1 F.1.2.2.2.2.2.2 f4 ty0 f5 f6 F.1.2.2.2.2.2.1 hK hP hD hS a he f1 k f3 (F.1.2.2.2.2.2.2 _ f7) (fun _ q => q) f8 (ty := .long) (v := .long (Int64.ofInt x)) (by rw [f5 k f3, f9]) rfl rfl (by rw [fvsN_len]; exact hlen) hd (fun H1 locs1 hP1 hD1 hS1 => ?_)
  rw [e1] at hP1 hD1
  exact kk E A p l e s m args below meth c H1 locs1 ls ⟨F.1, F.2.1, F.2.2.up (ix_lt hs)⟩ hX hA hK hP1 hD1 hS1 hL
theorem nn_putZ {i a ci k : Nat} {x : Int} {ts : List Nat} (hd : decode M.2.1 pc = .ok (.putfield i, 3)) (hf : FLk M.1.cls i ci k false .boolean) (hs : ix ll a = some (ci, ts)) (ht : ix ts k = some 0) (hx : x = 0 ∨ x = 1) (kk : WNc G ll ck sl M (pc + 3) L st (upH h a k x)) : WNc G ll ck sl M pc L (.inl x :: .inr (.inr a) :: st) h := by
  intro E A p l e s m args below meth c H locs ls F hX hA hK hP hD hS hL
  obtain ⟨C, T, N, ty0, f1, f2, f3, f4, f5, f6, f7, f8, f9⟩ := hf
  rw [ix_eq] at f1
  have he := wN_at (E := E) (h := h) hs
  rw [cellN_obj f2] at he
  have hlen : k < ts.length := by rw [ix_eq] at ht; exact (List.getElem?_eq_some_iff.mp ht).1
  have e1 : (wldN E h 0 ll).set a (E.2.1 a, .inr (ci, (fvsN E h a 0 ts).set k (.int (Int32.ofInt x)))) = wldN E (upH h a k x) 0 ll := by
    rw [wN_same (h' := upH h a k x) hs upH_off, cellN_obj f2, fvsN_up (v := .int (Int32.ofInt x)) ht (by simp [fvN, up_s])]
  refine va_put F.1.1 F.1.2.1 F.1.2.2.2.2.2.2 f4 ty0 f5 f6 F.1.2.2.2.2.2.1 hK hP hD hS a he f1 k f3 (F.1.2.2.2.2.2.2 _ f7) (fun _ q => q) f8 (ty := .boolean) (v := .int (Int32.ofInt x)) (by rw [f5 k f3, f9]) (by rcases hx with rfl | rfl <;> rfl) (by rcases hx with rfl | rfl <;> rfl) (by rw [fvsN_len]; exact hlen) hd (fun H1 locs1 hP1 hD1 hS1 => ?_)
  rw [e1] at hP1 hD1
  exact kk E A p l e s m args below meth c H1 locs1 ls ⟨F.1, F.2.1, F.2.2.up (ix_lt hs)⟩ hX hA hK hP1 hD1 hS1 hL
theorem nn_iast {x y : Int} {a n : Nat} (hd : decode M.2.1 pc = .ok (.iastore, 1)) (hs : ix ll a = some (100, [n])) (hn : n ≤ 2147483647) (h0 : 0 ≤ x ∧ x < n) (kk : WNc G ll ck sl M (pc + 1) L st (upH h a x.toNat y)) : WNc G ll ck sl M pc L (.inl y :: .inl x :: .inr (.inr a) :: st) h := by
  intro E A p l e s m args below meth c H locs ls F hX hA hK hP hD hS hL
  have e1 := wN_same (E := E) (h' := upH h a x.toNat y) hs upH_off
  refine va_iast F.1.1 F.1.2.1 hK hP hD hS a 0 (wN_at (E := E) (h := h) hs) rfl (in32 h0.1 h0.2 hn) hd (fun H1 locs1 hP1 hD1 hS1 => ?_)
  rw [tn32 h0.1 (by omega)] at hP1 hD1
  rw [upd_of] at hP1 hD1
  refine kk E A p l e s m args below meth c H1 locs1 ls ⟨F.1, F.2.1, F.2.2.up (ix_lt hs)⟩ hX hA hK ?_ ?_ hS1 hL
  · rw [e1]; exact hP1
  · rw [e1]; exact hD1
theorem nn_putR {i a ci k b : Nat} {ts : List Nat} {ty : FieldType} (hd : decode M.2.1 pc = .ok (.putfield i, 3)) (hf : FLk M.1.cls i ci k false ty) (hs : ix ll a = some (ci, ts)) (hk : k < ts.length) (hft : ∀ q : Nat, narrow ty (.ref q) = .ref q ∧ fits ty (.ref q) = true) (hl : ll.set a (ci, ts.set k (b + 3)) = ll') (kk : WNc G ll' ck sl M (pc + 3) L st h) : WNc G ll ck sl M pc L (.inr (.inr (b + 1)) :: .inr (.inr a) :: st) h := by
  intro E A p l e s m args below meth c H locs ls F hX hA hK hP hD hS hL
  obtain ⟨C, T, N, ty0, f1, f2, f3, f4, f5, f6, f7, f8, f9⟩ := hf
  rw [ix_eq] at f1
  have he := wN_at (E := E) (h := h) hs
  rw [cellN_obj f2] at he
  have e1 : (wldN E h 0 ll).set a (E.2.1 a, .inr (ci, (fvsN E h a 0 ts).set k (.ref (E.2.1 (b + 1))))) = wldN E h 0 ll' := by
    rw [← hl, wN_set (h := h) hs (fun _ _ _ => rfl), cellN_obj f2, fvsN_st hk]
  refine va_put F.1.1 F.1.2.1 F.1.2.2.2.2.2.2 f4 ty0 f5 f6 F.1.2.2.2.2.2.1 hK hP hD hS a he f1 k f3 (F.1.2.2.2.2.2.2 _ f7) (fun _ q => q) f8 (ty := ty) (v := .ref (E.2.1 (b + 1))) (by rw [f5 k f3, f9]) (hft _).1 (hft _).2 (by rw [fvsN_len]; exact hk) hd (fun H1 locs1 hP1 hD1 hS1 => ?_)
  rw [e1] at hP1 hD1
  exact kk E A p l e s m args below meth c H1 locs1 ls ⟨F.1, F.2.1, by rw [← hl, List.length_set]; exact F.2.2⟩ hX hA hK hP1 hD1 hS1 hL
theorem nn_putRF {i a ci k b : Nat} {ts : List Nat} {ty : FieldType} (hd : decode M.2.1 pc = .ok (.putfield i, 3)) (hf : FLk M.1.cls i ci k true ty) (hs : ix ll a = some (ci, ts)) (hk : k < ts.length) (hft : ∀ q : Nat, narrow ty (.ref q) = .ref q ∧ fits ty (.ref q) = true) (hdc : (ix vwCl ci).map (fun r => (r.2.1 k).1) = some M.1.cls) (hG : ∀ E A s args l c meth, G.1 E A s args l c meth → meth.name = "<init>") (hl : ll.set a (ci, ts.set k (b + 3)) = ll') (kk : WNc G ll' ck sl M (pc + 3) L st h) : WNc G ll ck sl M pc L (.inr (.inr (b + 1)) :: .inr (.inr a) :: st) h := by
  intro E A p l e s m args below meth c H locs ls F hX hA hK hP hD hS hL
  obtain ⟨C, T, N, ty0, f1, f2, f3, f4, f5, f6, f7, f8, f9⟩ := hf
  rw [f1] at hdc
  rw [ix_eq] at f1
  have he := wN_at (E := E) (h := h) hs
  rw [cellN_obj f2] at he
  have e1 : (wldN E h 0 ll).set a (E.2.1 a, .inr (ci, (fvsN E h a 0 ts).set k (.ref (E.2.1 (b + 1))))) = wldN E h 0 ll' := by
    rw [← hl, wN_set (h := h) hs (fun _ _ _ => rfl), cellN_obj f2, fvsN_st hk]
  refine va_putF F.1.1 F.1.2.1 F.1.2.2.2.2.2.2 f4 ty0 f5 f6 F.1.2.2.2.2.2.1 hK hP hD hS a he f1 k f3 (F.1.2.2.2.2.2.2 _ f7) (fun _ q => q) f8 (hG _ _ _ _ _ _ _ F.2.1) (Option.some.inj hdc) (ty := ty) (v := .ref (E.2.1 (b + 1))) (by rw [f5 k f3, f9]) (hft _).1 (hft _).2 (by rw [fvsN_len]; exact hk) hd (fun H1 locs1 hP1 hD1 hS1 => ?_)
  rw [e1] at hP1 hD1
  exact kk E A p l e s m args below meth c H1 locs1 ls ⟨F.1, F.2.1, by rw [← hl, List.length_set]; exact F.2.2⟩ hX hA hK hP1 hD1 hS1 hL
theorem nn_obj {i a : Nat} (hd : decode M.2.1 pc = .ok (.invokespecial i, 3)) (hl : Cond.methodLink M.1.cls i Lib.objectInit ∈ lw_g) (h1 : Cond.instanceMethod Lib.objectInit ∈ lw_g) (h2 : Cond.code Lib.objectInit ⟨#[0xb1]⟩ 1 none ∈ lw_g) (hfr : 1 ≤ G.2.1.frames ∧ 12 ≤ G.2.1.locals) (kk : WNc G ll ck sl M (pc + 3) L [] h) : WNc G ll ck sl M pc L [.inr (.inr a)] h := by
  intro E A p l e s m args below meth c H locs ls F hX hA hK hP hD hS hL
  refine W.objInit F.1.1 F.1.2.1 F.1.2.2.2.2.2.1 (F.1.2.2.2.2.2.2 _ hl) (F.1.2.2.2.2.2.2 _ h1) (F.1.2.2.2.2.2.2 _ h2) (g := F0 m pc ls [.ref (E.2.1 a)]) rfl (hL.1.trans F.1.2.2.1.symm) rfl hd hfr.1 hfr.2 ?_
  exact kk E A p l e s m args below meth c H locs ls F hX hA hK hP hD hS hL
def setE (E : EV) (n q : Nat) : EV := (E.1, (fun a => if a = n then q else E.2.1 a), E.2.2)
theorem setE_agr {E : EV} {n q : Nat} (hn : n < 1000) : agr n E (setE E n q) := ⟨rfl, rfl, fun a ha => by
  show (if a = n then q else E.2.1 a) = E.2.1 a
  rw [if_neg (by omega)]⟩
theorem setE_wld {E : EV} {n q : Nat} {h : Hp} {ll : List (Nat × List Nat)} {x : Nat × List Nat} {e : va_E} (hn : n < 1000) (hl : ll.length = n) (hw : wfN n ll = true) (he : cellN (setE E n q) h n x = e) : wldN (setE E n q) h 0 (ll ++ [x]) = wldN E h 0 ll ++ [(q, e)] := by
  rw [wldN_app, wldN_agr (setE_agr hn) h ll 0 (by omega) hw, Nat.zero_add, hl]
  simp only [wldN]
  rw [he]
  show wldN E h 0 ll ++ [((if n = n then q else E.2.1 n), e)] = _
  rw [if_pos rfl]
theorem nn_new {i ci N n : Nat} {C : String} {TT : u_T} {ty : Nat → FieldType} {ts : List Nat} (hd : decode M.2.1 pc = .ok (.new i, 3)) (hlk : Cond.classLink M.1.cls i C ∈ lw_g) (hins : Cond.instantiable C N ∈ lw_g) (hini : Cond.initialized C ∈ lw_g) (hin : ∀ w ∈ u_ws C TT N, w ∈ lw_g) (hty : ∀ k, k < N → parseFieldDescriptor (TT k).2.2.1 = some (ty k))
    (hc : ix vwCl ci = some (C, TT, N)) (hci : ci < 100) (hfs : ∀ j, j < N → defaultValue (ty j) = vp_V (ts.map dvN) j) (hts : ts.all (fun t => decide (t < 3)) = true) (hn : ll.length = n) (hn1 : n < 1000) (hw : wfN n ll = true) (hoL : okLo n L = true) (hoS : okSt n st = true) (hG : OKN n G) (hck : ck + 1 ≤ G.2.1.cells ∧ sl + N ≤ G.2.1.slots) (hl : ll ++ [(ci, ts)] = ll')
    (kk : WNc G ll' (ck + 1) (sl + N) M (pc + 3) L (.inr (.inr n) :: st) h) : WNc G ll ck sl M pc L st h := by
  intro E A p l e s m args below meth c H locs ls F hX hA hK hP hD hS hL
  rw [ix_eq] at hc
  have hz : ∀ k, h n k = 0 := fun k => F.2.2 n k (by omega)
  refine va_new F.1.1 F.1.2.1 F.1.2.2.2.2.2.2 hin ty hty F.1.2.2.2.2.2.1 (F.1.2.2.2.2.2.2 _ hlk) (F.1.2.2.2.2.2.2 _ hins) (F.1.2.2.2.2.2.2 _ hini) hK hP hD hS hA hc hfs hck.1 hck.2 hd (fun q H1 hP1 hD1 hS1 => ?_)
  have ew : wldN (setE E n q) h 0 ll' = wldN E h 0 ll ++ [(q, .inr (ci, ts.map dvN))] := by
    rw [← hl]
    exact setE_wld hn1 hn hw (by rw [cellN_obj hci, fvsN_z _ hz ts 0 hts])
  rw [← ew] at hP1 hD1
  have ag : agr n E (setE E n q) := setE_agr hn1
  have e2 : F0 m (pc + 3) ls (.ref q :: st.map (tr E)) = F0 m (pc + 3) ls (List.map (tr (setE E n q)) (.inr (.inr n) :: st)) := by
    rw [List.map_cons, st_agr ag hoS]
    show F0 m (pc + 3) ls (.ref q :: _) = F0 m (pc + 3) ls (.ref (if n = n then q else E.2.1 n) :: _)
    rw [if_pos rfl]
  rw [e2]
  have kk2 := kk (setE E n q) A p l e s m args below meth c H1 locs ls ⟨F.1, hG.1 E _ A s args l c meth ag F.2.1, fun a k z => F.2.2 a k (by rw [← hl, List.length_append] at z; omega)⟩ (XT_agr ag hX) hA (KK_agr ag hK) hP1 hD1 hS1 (lvO_agr ag hoL hL)
  intro Ts hT X
  obtain ⟨t, a1, b1⟩ := kk2 Ts hT X
  exact ⟨t, a1, hG.2 E _ A below args s t ag b1⟩
theorem nn_newaI {x : Int} {N n : Nat} (hd : decode M.2.1 pc = .ok (.newarray .int, 2)) (har : Cond.arrayClass (newarray.typeOf .int) ∈ lw_g) (hx : x = (N : Int)) (hN : N ≤ 60000) (hn : ll.length = n) (hn1 : n < 1000) (hw : wfN n ll = true) (hoL : okLo n L = true) (hoS : okSt n st = true) (hG : OKN n G) (hck : ck + 1 ≤ G.2.1.cells ∧ sl + N ≤ G.2.1.slots) (hl : ll ++ [(100, [N])] = ll')
    (kk : WNc G ll' (ck + 1) (sl + N) M (pc + 2) L (.inr (.inr n) :: st) h) : WNc G ll ck sl M pc L (.inl x :: st) h := by
  intro E A p l e s m args below meth c H locs ls F hX hA hK hP hD hS hL
  have hz : ∀ k, h n k = 0 := fun k => F.2.2 n k (by omega)
  have ex : (Int32.ofInt x).toNatClampNeg = N := by rw [tn32 (by omega) (by omega)]; omega
  have ep : ¬ (Int32.ofInt x) < 0 := by
    rw [Int32.lt_iff_toInt_lt, Int32.toInt_ofInt_of_le (by omega) (by omega)]
    show ¬ x < 0
    omega
  refine va_newa (atype := .int) (ty := .int) (a0 := (N, .inl fun _ => Int32.ofInt 0)) (n := Int32.ofInt x) (N' := N) F.1.1 F.1.2.1 (F.1.2.2.2.2.2.2 _ har) rfl hK hP hD hS hA (fun cA => rfl) ep ex (by show N * 4 ≤ 536870912; omega) hck.1 hck.2 hd (fun q cA H1 hK1 hP1 hD1 hS1 => ?_)
  have e0 : cA = E.2.2 0 := by
    have h1 := (hK1.2 4 (cA, .int) rfl).2
    have h2 := (hK.2 0 (E.2.2 0, .int) rfl).2
    exact Option.some.inj (h1.symm.trans h2)
  have ew : wldN (setE E n q) h 0 ll' = wldN E h 0 ll ++ [(q, .inl (cA, N, .inl fun _ => Int32.ofInt 0))] := by
    rw [← hl]
    refine setE_wld hn1 hn hw ?_
    rw [e0]
    show (.inl (E.2.2 0, N, .inl fun j => Int32.ofInt (h n j)) : va_E) = _
    simp only [hz]
  rw [← ew] at hP1 hD1
  have ag : agr n E (setE E n q) := setE_agr hn1
  have e2 : F0 m (pc + 2) ls (.ref q :: st.map (tr E)) = F0 m (pc + 2) ls (List.map (tr (setE E n q)) (.inr (.inr n) :: st)) := by
    rw [List.map_cons, st_agr ag hoS]
    show F0 m (pc + 2) ls (.ref q :: _) = F0 m (pc + 2) ls (.ref (if n = n then q else E.2.1 n) :: _)
    rw [if_pos rfl]
  rw [e2]
  have kk2 := kk (setE E n q) A p l e s m args below meth c H1 locs ls ⟨F.1, hG.1 E _ A s args l c meth ag F.2.1, fun a k z => F.2.2 a k (by rw [← hl, List.length_append] at z; omega)⟩ (XT_agr ag hX) hA (KK_agr ag hK) hP1 hD1 hS1 (lvO_agr ag hoL hL)
  intro Ts hT X
  obtain ⟨t, a1, b1⟩ := kk2 Ts hT X
  exact ⟨t, a1, hG.2 E _ A below args s t ag b1⟩
theorem nn_newaJ {x : Int} {N n : Nat} (hd : decode M.2.1 pc = .ok (.newarray .long, 2)) (har : Cond.arrayClass (newarray.typeOf .long) ∈ lw_g) (hx : x = (N : Int)) (hN : N ≤ 60000) (hn : ll.length = n) (hn1 : n < 1000) (hw : wfN n ll = true) (hoL : okLo n L = true) (hoS : okSt n st = true) (hG : OKN n G) (hck : ck + 1 ≤ G.2.1.cells ∧ sl + N ≤ G.2.1.slots) (hl : ll ++ [(101, [N])] = ll')
    (kk : WNc G ll' (ck + 1) (sl + N) M (pc + 2) L (.inr (.inr n) :: st) h) : WNc G ll ck sl M pc L (.inl x :: st) h := by
  intro E A p l e s m args below meth c H locs ls F hX hA hK hP hD hS hL
  have hz : ∀ k, h n k = 0 := fun k => F.2.2 n k (by omega)
  have ex : (Int32.ofInt x).toNatClampNeg = N := by rw [tn32 (by omega) (by omega)]; omega
  have ep : ¬ (Int32.ofInt x) < 0 := by
    rw [Int32.lt_iff_toInt_lt, Int32.toInt_ofInt_of_le (by omega) (by omega)]
    show ¬ x < 0
    omega
  refine va_newa (atype := .long) (ty := .long) (a0 := (N, .inr (.inl fun _ => Int64.ofInt 0))) (n := Int32.ofInt x) (N' := N) F.1.1 F.1.2.1 (F.1.2.2.2.2.2.2 _ har) rfl hK hP hD hS hA (fun cA => rfl) ep ex (by show N * 8 ≤ 536870912; omega) hck.1 hck.2 hd (fun q cA H1 hK1 hP1 hD1 hS1 => ?_)
  have e0 : cA = E.2.2 1 := by
    have h1 := (hK1.2 4 (cA, .long) rfl).2
    have h2 := (hK.2 1 (E.2.2 1, .long) rfl).2
    exact Option.some.inj (h1.symm.trans h2)
  have ew : wldN (setE E n q) h 0 ll' = wldN E h 0 ll ++ [(q, .inl (cA, N, .inr (.inl fun _ => Int64.ofInt 0)))] := by
    rw [← hl]
    refine setE_wld hn1 hn hw ?_
    rw [e0]
    show (.inl (E.2.2 1, N, .inr (.inl fun j => Int64.ofInt (h n j))) : va_E) = _
    simp only [hz]
  rw [← ew] at hP1 hD1
  have ag : agr n E (setE E n q) := setE_agr hn1
  have e2 : F0 m (pc + 2) ls (.ref q :: st.map (tr E)) = F0 m (pc + 2) ls (List.map (tr (setE E n q)) (.inr (.inr n) :: st)) := by
    rw [List.map_cons, st_agr ag hoS]
    show F0 m (pc + 2) ls (.ref q :: _) = F0 m (pc + 2) ls (.ref (if n = n then q else E.2.1 n) :: _)
    rw [if_pos rfl]
  rw [e2]
  have kk2 := kk (setE E n q) A p l e s m args below meth c H1 locs ls ⟨F.1, hG.1 E _ A s args l c meth ag F.2.1, fun a k z => F.2.2 a k (by rw [← hl, List.length_append] at z; omega)⟩ (XT_agr ag hX) hA (KK_agr ag hK) hP1 hD1 hS1 (lvO_agr ag hoL hL)
  intro Ts hT X
  obtain ⟨t, a1, b1⟩ := kk2 Ts hT X
  exact ⟨t, a1, hG.2 E _ A below args s t ag b1⟩
theorem nn_newaB {x : Int} {N n : Nat} (hd : decode M.2.1 pc = .ok (.newarray .byte, 2)) (har : Cond.arrayClass (newarray.typeOf .byte) ∈ lw_g) (hx : x = (N : Int)) (hN : N ≤ 60000) (hn : ll.length = n) (hn1 : n < 1000) (hw : wfN n ll = true) (hoL : okLo n L = true) (hoS : okSt n st = true) (hG : OKN n G) (hck : ck + 1 ≤ G.2.1.cells ∧ sl + N ≤ G.2.1.slots) (hl : ll ++ [(102, [N])] = ll')
    (kk : WNc G ll' (ck + 1) (sl + N) M (pc + 2) L (.inr (.inr n) :: st) h) : WNc G ll ck sl M pc L (.inl x :: st) h := by
  intro E A p l e s m args below meth c H locs ls F hX hA hK hP hD hS hL
  have hz : ∀ k, h n k = 0 := fun k => F.2.2 n k (by omega)
  have ex : (Int32.ofInt x).toNatClampNeg = N := by rw [tn32 (by omega) (by omega)]; omega
  have ep : ¬ (Int32.ofInt x) < 0 := by
    rw [Int32.lt_iff_toInt_lt, Int32.toInt_ofInt_of_le (by omega) (by omega)]
    show ¬ x < 0
    omega
  refine va_newa (atype := .byte) (ty := .byte) (a0 := (N, .inl fun _ => Int32.ofInt 0)) (n := Int32.ofInt x) (N' := N) F.1.1 F.1.2.1 (F.1.2.2.2.2.2.2 _ har) rfl hK hP hD hS hA (fun cA => rfl) ep ex (by show N * 1 ≤ 536870912; omega) hck.1 hck.2 hd (fun q cA H1 hK1 hP1 hD1 hS1 => ?_)
  have e0 : cA = E.2.2 2 := by
    have h1 := (hK1.2 4 (cA, .byte) rfl).2
    have h2 := (hK.2 2 (E.2.2 2, .byte) rfl).2
    exact Option.some.inj (h1.symm.trans h2)
  have ew : wldN (setE E n q) h 0 ll' = wldN E h 0 ll ++ [(q, .inl (cA, N, .inl fun _ => Int32.ofInt 0))] := by
    rw [← hl]
    refine setE_wld hn1 hn hw ?_
    rw [e0]
    show (.inl (E.2.2 2, N, .inl fun j => Int32.ofInt (h n j)) : va_E) = _
    simp only [hz]
  rw [← ew] at hP1 hD1
  have ag : agr n E (setE E n q) := setE_agr hn1
  have e2 : F0 m (pc + 2) ls (.ref q :: st.map (tr E)) = F0 m (pc + 2) ls (List.map (tr (setE E n q)) (.inr (.inr n) :: st)) := by
    rw [List.map_cons, st_agr ag hoS]
    show F0 m (pc + 2) ls (.ref q :: _) = F0 m (pc + 2) ls (.ref (if n = n then q else E.2.1 n) :: _)
    rw [if_pos rfl]
  rw [e2]
  have kk2 := kk (setE E n q) A p l e s m args below meth c H1 locs ls ⟨F.1, hG.1 E _ A s args l c meth ag F.2.1, fun a k z => F.2.2 a k (by rw [← hl, List.length_append] at z; omega)⟩ (XT_agr ag hX) hA (KK_agr ag hK) hP1 hD1 hS1 (lvO_agr ag hoL hL)
  intro Ts hT X
  obtain ⟨t, a1, b1⟩ := kk2 Ts hT X
  exact ⟨t, a1, hG.2 E _ A below args s t ag b1⟩
theorem nn_newaZ {x : Int} {N n : Nat} (hd : decode M.2.1 pc = .ok (.newarray .boolean, 2)) (har : Cond.arrayClass (newarray.typeOf .boolean) ∈ lw_g) (hx : x = (N : Int)) (hN : N ≤ 60000) (hn : ll.length = n) (hn1 : n < 1000) (hw : wfN n ll = true) (hoL : okLo n L = true) (hoS : okSt n st = true) (hG : OKN n G) (hck : ck + 1 ≤ G.2.1.cells ∧ sl + N ≤ G.2.1.slots) (hl : ll ++ [(103, [N])] = ll')
    (kk : WNc G ll' (ck + 1) (sl + N) M (pc + 2) L (.inr (.inr n) :: st) h) : WNc G ll ck sl M pc L (.inl x :: st) h := by
  intro E A p l e s m args below meth c H locs ls F hX hA hK hP hD hS hL
  have hz : ∀ k, h n k = 0 := fun k => F.2.2 n k (by omega)
  have ex : (Int32.ofInt x).toNatClampNeg = N := by rw [tn32 (by omega) (by omega)]; omega
  have ep : ¬ (Int32.ofInt x) < 0 := by
    rw [Int32.lt_iff_toInt_lt, Int32.toInt_ofInt_of_le (by omega) (by omega)]
    show ¬ x < 0
    omega
  refine va_newa (atype := .boolean) (ty := .boolean) (a0 := (N, .inl fun _ => Int32.ofInt 0)) (n := Int32.ofInt x) (N' := N) F.1.1 F.1.2.1 (F.1.2.2.2.2.2.2 _ har) rfl hK hP hD hS hA (fun cA => rfl) ep ex (by show N * 1 ≤ 536870912; omega) hck.1 hck.2 hd (fun q cA H1 hK1 hP1 hD1 hS1 => ?_)
  have e0 : cA = E.2.2 3 := by
    have h1 := (hK1.2 4 (cA, .boolean) rfl).2
    have h2 := (hK.2 3 (E.2.2 3, .boolean) rfl).2
    exact Option.some.inj (h1.symm.trans h2)
  have ew : wldN (setE E n q) h 0 ll' = wldN E h 0 ll ++ [(q, .inl (cA, N, .inl fun _ => Int32.ofInt 0))] := by
    rw [← hl]
    refine setE_wld hn1 hn hw ?_
    rw [e0]
    show (.inl (E.2.2 3, N, .inl fun j => Int32.ofInt (h n j)) : va_E) = _
    simp only [hz]
  rw [← ew] at hP1 hD1
  have ag : agr n E (setE E n q) := setE_agr hn1
  have e2 : F0 m (pc + 2) ls (.ref q :: st.map (tr E)) = F0 m (pc + 2) ls (List.map (tr (setE E n q)) (.inr (.inr n) :: st)) := by
    rw [List.map_cons, st_agr ag hoS]
    show F0 m (pc + 2) ls (.ref q :: _) = F0 m (pc + 2) ls (.ref (if n = n then q else E.2.1 n) :: _)
    rw [if_pos rfl]
  rw [e2]
  have kk2 := kk (setE E n q) A p l e s m args below meth c H1 locs ls ⟨F.1, hG.1 E _ A s args l c meth ag F.2.1, fun a k z => F.2.2 a k (by rw [← hl, List.length_append] at z; omega)⟩ (XT_agr ag hX) hA (KK_agr ag hK) hP1 hD1 hS1 (lvO_agr ag hoL hL)
  intro Ts hT X
  obtain ⟨t, a1, b1⟩ := kk2 Ts hT X
  exact ⟨t, a1, hG.2 E _ A below args s t ag b1⟩
end
