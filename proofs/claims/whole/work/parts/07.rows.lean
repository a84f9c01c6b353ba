/-! ROWS of the layer, an instruction each -/
theorem lt32 {x y : Int} (hx : R32 x) (hy : R32 y) : Int32.ofInt x < Int32.ofInt y ↔ x < y := by
  rw [Int32.lt_iff_toInt_lt, Int32.toInt_ofInt_of_le (by omega) (by omega), Int32.toInt_ofInt_of_le (by omega) (by omega)]
theorem le32 {x y : Int} (hx : R32 x) (hy : R32 y) : Int32.ofInt x ≤ Int32.ofInt y ↔ x ≤ y := by
  rw [Int32.le_iff_toInt_le, Int32.toInt_ofInt_of_le (by omega) (by omega), Int32.toInt_ofInt_of_le (by omega) (by omega)]
theorem eq32 {x y : Int} (hx : R32 x) (hy : R32 y) : Int32.ofInt x = Int32.ofInt y ↔ x = y := by
  rw [← Int32.toInt_inj, Int32.toInt_ofInt_of_le (by omega) (by omega), Int32.toInt_ofInt_of_le (by omega) (by omega)]
theorem lt64 {x y : Int} (hx : R64 x) (hy : R64 y) : Int64.ofInt x < Int64.ofInt y ↔ x < y := by
  rw [Int64.lt_iff_toInt_lt, Int64.toInt_ofInt_of_le (by omega) (by omega), Int64.toInt_ofInt_of_le (by omega) (by omega)]
theorem eq64 {x y : Int} (hx : R64 x) (hy : R64 y) : Int64.ofInt x = Int64.ofInt y ↔ x = y := by
  rw [← Int64.toInt_inj, Int64.toInt_ofInt_of_le (by omega) (by omega), Int64.toInt_ofInt_of_le (by omega) (by omega)]
theorem z32 : Int32.ofInt 0 = 0 := rfl
theorem r0 : R32 0 := ⟨by decide, by decide⟩
theorem tn32 {x : Int} (h0 : 0 ≤ x) (h1 : x ≤ 2147483647) : (Int32.ofInt x).toNatClampNeg = x.toNat := by
  rw [← Int32.toNat_toInt, Int32.toInt_ofInt_of_le (by omega) (by omega)]
theorem in32 {x : Int} {n : Nat} (h0 : 0 ≤ x) (h1 : x < n) (hn : n ≤ 2147483647) : vp_in (Int32.ofInt x) n := by
  rw [vp_in_iff, Int32.toInt_ofInt_of_le (by omega) (by omega)]
  omega
/-- the locals as the kit's list -/
def lvl (E : EV) : Nat → List (Option AV) → List (Nat × Value)
  | _, [] => []
  | b, none :: r => lvl E (b + 1) r
  | b, some v :: r => (b, tr E v) :: lvl E (b + 1) r
theorem mem_lvl (E : EV) : ∀ (L : List (Option AV)) (b : Nat) (q : Nat × Value), q ∈ lvl E b L ↔ ∃ i v, ix L i = some (some v) ∧ q = (b + i, tr E v)
  | [], b, q => by simp [lvl, ix]
  | none :: r, b, q => by
    rw [lvl, mem_lvl E r (b + 1) q]
    constructor
    · rintro ⟨i, v, h1, h2⟩
      exact ⟨i + 1, v, h1, by rw [h2]; congr 1; omega⟩
    · rintro ⟨i, v, h1, h2⟩
      cases i with
      | zero => simp [ix] at h1
      | succ i => exact ⟨i, v, h1, by rw [h2]; congr 1; omega⟩
  | some w :: r, b, q => by
    rw [lvl, List.mem_cons, mem_lvl E r (b + 1) q]
    constructor
    · rintro (rfl | ⟨i, v, h1, h2⟩)
      · exact ⟨0, w, rfl, rfl⟩
      · exact ⟨i + 1, v, h1, by rw [h2]; congr 1; omega⟩
    · rintro ⟨i, v, h1, h2⟩
      cases i with
      | zero =>
        simp only [ix, Option.some.injEq] at h1
        subst h1
        exact Or.inl h2
      | succ i => exact Or.inr ⟨i, v, h1, by rw [h2]; congr 1; omega⟩
theorem lvO.has {E : EV} {ls : Array Slot} {n : Nat} {L : List (Option AV)} (h : lvO E ls n L) : lv_has ls n (lvl E 0 L) := by
  refine ⟨h.1, h.2.1, fun q hq => ?_⟩
  obtain ⟨i, v, h1, rfl⟩ := (mem_lvl E L 0 q).mp hq
  simpa using h.2.2 i v h1
def ncat (L : List (Option AV)) : Nat → Bool
  | 0 => true
  | j + 1 => match ix L j with
    | some (some (.inr (.inl _))) => false
    | _ => true
theorem ix_set {α : Type} (L : List α) (i j : Nat) (x : α) (w : α) (h : ix (L.set i x) j = some w) : (j = i ∧ w = x) ∨ (j ≠ i ∧ ix L j = some w) := by
  rw [ix_eq] at h
  rw [ix_eq]
  by_cases hj : j = i
  · subst hj
    rw [List.getElem?_set] at h
    simp only [if_true] at h
    split at h
    · exact Or.inl ⟨rfl, (Option.some.inj h).symm⟩
    · cases h
  · rw [List.getElem?_set_ne (Ne.symm hj)] at h
    exact Or.inr ⟨hj, h⟩
theorem ncat_no {E : EV} {L : List (Option AV)} {i j : Nat} {v : AV} (hk : ncat L i = true) (hj : j + 1 = i) (hv : ix L j = some (some v)) : ¬ (tr E v).category = 2 := by
  subst hj
  simp only [ncat, hv] at hk
  match v with
  | .inl z => simp [tr, Value.category]
  | .inr (.inl z) => simp at hk
  | .inr (.inr a) => simp [tr, Value.category]
theorem lvO.set1 {E : EV} {ls' : Array Slot} {n i : Nat} {L : List (Option AV)} {v : AV} (hk : ncat L i = true) (h : lv_has ls' n ((i, tr E v) :: (lvl E 0 L).filter (fun q => !(q.1 == i) && !(q.1 + 1 == i && q.2.category == 2)))) : lvO E ls' n (L.set i (some v)) := by
  refine ⟨h.1, h.2.1, fun j w hj => ?_⟩
  rcases ix_set L i j _ _ hj with ⟨rfl, h2⟩ | ⟨hne, h2⟩
  · cases h2
    exact h.2.2 (j, tr E v) List.mem_cons_self
  · refine h.2.2 (j, tr E w) (List.mem_cons_of_mem _ (List.mem_filter.mpr ⟨(mem_lvl E L 0 _).mpr ⟨j, w, h2, by simp⟩, ?_⟩))
    have := @ncat_no E L i j w hk
    simp only [Bool.and_eq_true, Bool.not_eq_true', beq_eq_false_iff_ne, ne_eq, Bool.and_eq_false_iff]
    refine ⟨hne, ?_⟩
    by_cases h3 : j + 1 = i
    · exact Or.inr (this h3 h2)
    · exact Or.inl h3
theorem lvO.set2 {E : EV} {ls' : Array Slot} {n i : Nat} {L : List (Option AV)} {v : AV} (hk : ncat L i = true) (h : lv_has ls' n ((i, tr E v) :: (lvl E 0 L).filter (fun q => !(q.1 == i) && (!(q.1 == i + 1) && !(q.1 + 1 == i && q.2.category == 2))))) : lvO E ls' n ((L.set i (some v)).set (i + 1) none) := by
  refine ⟨h.1, h.2.1, fun j w hj => ?_⟩
  rcases ix_set _ (i + 1) j _ _ hj with ⟨rfl, h2⟩ | ⟨hne1, hj⟩
  · cases h2
  rcases ix_set L i j _ _ hj with ⟨rfl, h2⟩ | ⟨hne, h2⟩
  · cases h2
    exact h.2.2 (j, tr E v) List.mem_cons_self
  · refine h.2.2 (j, tr E w) (List.mem_cons_of_mem _ (List.mem_filter.mpr ⟨(mem_lvl E L 0 _).mpr ⟨j, w, h2, by simp⟩, ?_⟩))
    have := @ncat_no E L i j w hk
    simp only [Bool.and_eq_true, Bool.not_eq_true', beq_eq_false_iff_ne, ne_eq, Bool.and_eq_false_iff]
    refine ⟨hne, hne1, ?_⟩
    by_cases h3 : j + 1 = i
    · exact Or.inr (this h3 h2)
    · exact Or.inl h3
theorem cmp64_eq {x y : Int} (hx : R64 x) (hy : R64 y) : lg_cmp (Int64.ofInt x) (Int64.ofInt y) = 0 ↔ x = y := by
  have e1 := lt64 hx hy
  have e2 := lt64 hy hx
  unfold lg_cmp
  split
  · rename_i q
    have := e2.mp q
    exact ⟨fun z => absurd z (by decide), fun z => by omega⟩
  · split
    · rename_i q
      exact ⟨fun _ => (eq64 hx hy).mp (by first | exact q | simpa using q), fun _ => rfl⟩
    · rename_i q1 q2
      exact ⟨fun z => absurd z (by decide), fun z => absurd ((eq64 hx hy).mpr z) (by first | exact q2 | simpa using q2)⟩
theorem cmp64_gt {x y : Int} (hx : R64 x) (hy : R64 y) : 0 < lg_cmp (Int64.ofInt x) (Int64.ofInt y) ↔ y < x := by
  have e2 := lt64 hy hx
  unfold lg_cmp
  split
  · rename_i q
    exact ⟨fun _ => e2.mp q, fun _ => by decide⟩
  · rename_i q
    have q' : ¬ y < x := fun z => q (e2.mpr z)
    split
    · exact ⟨fun z => absurd z (by decide), fun z => absurd z q'⟩
    · exact ⟨fun z => absurd z (by decide), fun z => absurd z q'⟩
theorem cmp64_lt {x y : Int} (hx : R64 x) (hy : R64 y) : lg_cmp (Int64.ofInt x) (Int64.ofInt y) < 0 ↔ x < y := by
  have e1 := lt64 hx hy
  have e2 := lt64 hy hx
  have e3 := eq64 hx hy
  unfold lg_cmp
  split
  · rename_i q
    have := e2.mp q
    exact ⟨fun z => absurd z (by decide), fun z => by omega⟩
  · rename_i q
    have q' : ¬ y < x := fun z => q (e2.mpr z)
    split
    · rename_i q2
      have := e3.mp (by first | exact q2 | simpa using q2)
      exact ⟨fun z => absurd z (by decide), fun z => by omega⟩
    · rename_i q2
      have : ¬ x = y := fun z => absurd (e3.mpr z) (by first | exact q2 | simpa using q2)
      exact ⟨fun _ => by omega, fun _ => by decide⟩
theorem lcx_ge {a : Int32} (h : 0 ≤ a) (h2 : a < 0) : False := absurd h2 (Int32.not_lt.mpr h)
theorem lcx_le {a : Int32} (h : a ≤ 0) (h2 : 0 < a) : False := absurd h2 (Int32.not_lt.mpr h)
theorem lcy_ge {a : Int32} (h : ¬ 0 ≤ a) : a < 0 := Int32.not_le.mp h
theorem lcy_le {a : Int32} (h : ¬ a ≤ 0) : 0 < a := Int32.not_le.mp h
section
variable {M : MI} {d : Nat} {post : Pst} {pc : Nat} {L L' : List (Option AV)} {st : List AV} {h : Hp}
theorem r_iconst {n : Int} (hd : decode M.2.1 pc = .ok (.iconst n, 1)) (k : WW M d post (pc + 1) L (.inl n :: st) h) : WW M d post pc L st h := by
  intro E A p l e s m args below meth c H locs ls F hX hA hK hP hD hS hL
  exact lv_iconst F.1 F.2.1 hd rfl (k E A p l e s m args below meth c H locs ls F hX hA hK hP hD hS hL)
theorem r_bipush {n : Int} (hd : decode M.2.1 pc = .ok (.bipush n, 2)) (hn : (Int8.ofInt n).toInt32 = Int32.ofInt n) (k : WW M d post (pc + 2) L (.inl n :: st) h) : WW M d post pc L st h := by
  intro E A p l e s m args below meth c H locs ls F hX hA hK hP hD hS hL
  exact lv_bipush F.1 F.2.1 hd hn (k E A p l e s m args below meth c H locs ls F hX hA hK hP hD hS hL)
theorem r_sipush {n : Int} (hd : decode M.2.1 pc = .ok (.sipush n, 3)) (hn : (Int16.ofInt n).toInt32 = Int32.ofInt n) (k : WW M d post (pc + 3) L (.inl n :: st) h) : WW M d post pc L st h := by
  intro E A p l e s m args below meth c H locs ls F hX hA hK hP hD hS hL
  exact lv_sipush F.1 F.2.1 hd hn (k E A p l e s m args below meth c H locs ls F hX hA hK hP hD hS hL)
theorem r_lconst {n : Fin 2} {z : Int} (hd : decode M.2.1 pc = .ok (.lconst n, 1)) (hn : Int64.ofNat (n : Nat) = Int64.ofInt z) (k : WW M d post (pc + 1) L (.inr (.inl z) :: st) h) : WW M d post pc L st h := by
  intro E A p l e s m args below meth c H locs ls F hX hA hK hP hD hS hL
  exact lv_lconst F.1 F.2.1 hd hn (k E A p l e s m args below meth c H locs ls F hX hA hK hP hD hS hL)
theorem r_ldc {i : Nat} {v : Int32} {z : Int} (hd : decode M.2.1 pc = .ok (.ldc i, 2)) (hw : Cond.constant M.1.cls i v ∈ lw_g) (hz : v = Int32.ofInt z) (k : WW M d post (pc + 2) L (.inl z :: st) h) : WW M d post pc L st h := by
  intro E A p l e s m args below meth c H locs ls F hX hA hK hP hD hS hL
  subst hz
  exact lv_ldc F.1 F.2.1 F.2.2.2.2.2.1 (F.2.2.2.2.2.2 _ hw) hd (k E A p l e s m args below meth c H locs ls F hX hA hK hP hD hS hL)
theorem r_ldcw {i : Nat} {v : Int32} {z : Int} (hd : decode M.2.1 pc = .ok (.ldc_w i, 3)) (hw : Cond.constant M.1.cls i v ∈ lw_g) (hz : v = Int32.ofInt z) (k : WW M d post (pc + 3) L (.inl z :: st) h) : WW M d post pc L st h := by
  intro E A p l e s m args below meth c H locs ls F hX hA hK hP hD hS hL
  subst hz
  exact lv_ldcw F.1 F.2.1 F.2.2.2.2.2.1 (F.2.2.2.2.2.2 _ hw) hd (k E A p l e s m args below meth c H locs ls F hX hA hK hP hD hS hL)
theorem r_ldc2 {i : Nat} {v : Int64} {z : Int} (hd : decode M.2.1 pc = .ok (.ldc2_w i, 3)) (hw : Cond.constantLong M.1.cls i v ∈ lw_g) (hz : v = Int64.ofInt z) (k : WW M d post (pc + 3) L (.inr (.inl z) :: st) h) : WW M d post pc L st h := by
  intro E A p l e s m args below meth c H locs ls F hX hA hK hP hD hS hL
  subst hz
  exact lv_ldc2 F.1 F.2.1 F.2.2.2.2.2.1 (F.2.2.2.2.2.2 _ hw) hd (k E A p l e s m args below meth c H locs ls F hX hA hK hP hD hS hL)
theorem r_iload_n {q : Fin 4} {i : Nat} {x : Int} (hd : decode M.2.1 pc = .ok (.iload_n q, 1)) (hi : (q : Nat) = i) (hl : ix L i = some (some (.inl x))) (k : WW M d post (pc + 1) L (.inl x :: st) h) : WW M d post pc L st h := by
  intro E A p l e s m args below meth c H locs ls F hX hA hK hP hD hS hL
  exact lv_iload_n F.1 F.2.1 hd hi (hL.2.2 _ _ hl) (k E A p l e s m args below meth c H locs ls F hX hA hK hP hD hS hL)
theorem r_iload {i : Nat} {x : Int} (hd : decode M.2.1 pc = .ok (.iload i, 2)) (hl : ix L i = some (some (.inl x))) (k : WW M d post (pc + 2) L (.inl x :: st) h) : WW M d post pc L st h := by
  intro E A p l e s m args below meth c H locs ls F hX hA hK hP hD hS hL
  exact lv_iload F.1 F.2.1 hd (hL.2.2 _ _ hl) (k E A p l e s m args below meth c H locs ls F hX hA hK hP hD hS hL)
theorem r_lload_n {q : Fin 4} {i : Nat} {x : Int} (hd : decode M.2.1 pc = .ok (.lload_n q, 1)) (hi : (q : Nat) = i) (hl : ix L i = some (some (.inr (.inl x)))) (k : WW M d post (pc + 1) L (.inr (.inl x) :: st) h) : WW M d post pc L st h := by
  intro E A p l e s m args below meth c H locs ls F hX hA hK hP hD hS hL
  exact lv_lload_n F.1 F.2.1 hd hi (hL.2.2 _ _ hl) (k E A p l e s m args below meth c H locs ls F hX hA hK hP hD hS hL)
theorem r_lload {i : Nat} {x : Int} (hd : decode M.2.1 pc = .ok (.lload i, 2)) (hl : ix L i = some (some (.inr (.inl x)))) (k : WW M d post (pc + 2) L (.inr (.inl x) :: st) h) : WW M d post pc L st h := by
  intro E A p l e s m args below meth c H locs ls F hX hA hK hP hD hS hL
  exact lv_lload F.1 F.2.1 hd (hL.2.2 _ _ hl) (k E A p l e s m args below meth c H locs ls F hX hA hK hP hD hS hL)
theorem r_aload_n {q : Fin 4} {i : Nat} {x : Nat} (hd : decode M.2.1 pc = .ok (.aload_n q, 1)) (hi : (q : Nat) = i) (hl : ix L i = some (some (.inr (.inr x)))) (k : WW M d post (pc + 1) L (.inr (.inr x) :: st) h) : WW M d post pc L st h := by
  intro E A p l e s m args below meth c H locs ls F hX hA hK hP hD hS hL
  exact lv_aload_n F.1 F.2.1 hd hi (hL.2.2 _ _ hl) (k E A p l e s m args below meth c H locs ls F hX hA hK hP hD hS hL)
theorem r_aload {i : Nat} {x : Nat} (hd : decode M.2.1 pc = .ok (.aload i, 2)) (hl : ix L i = some (some (.inr (.inr x)))) (k : WW M d post (pc + 2) L (.inr (.inr x) :: st) h) : WW M d post pc L st h := by
  intro E A p l e s m args below meth c H locs ls F hX hA hK hP hD hS hL
  exact lv_aload F.1 F.2.1 hd (hL.2.2 _ _ hl) (k E A p l e s m args below meth c H locs ls F hX hA hK hP hD hS hL)
theorem r_istore_n {q : Fin 4} {i : Nat} {x : Int} (hd : decode M.2.1 pc = .ok (.istore_n q, 1)) (hi : (q : Nat) = i) (hc : ncat L i = true) (hn : i < M.2.2.1) (hs : L.set i (some (.inl x)) = L') (k : WW M d post (pc + 1) L' st h) : WW M d post pc L (.inl x :: st) h := by
  intro E A p l e s m args below meth c H locs ls F hX hA hK hP hD hS hL
  subst hs
  exact lv_istore_n F.1 F.2.1 hd hi hL.has hn rfl (fun ls2 h2 => k E A p l e s m args below meth c H locs ls2 F hX hA hK hP hD hS (lvO.set1 (v := .inl x) hc h2))
theorem r_istore {i : Nat} {x : Int} (hd : decode M.2.1 pc = .ok (.istore i, 2)) (hc : ncat L i = true) (hn : i < M.2.2.1) (hs : L.set i (some (.inl x)) = L') (k : WW M d post (pc + 2) L' st h) : WW M d post pc L (.inl x :: st) h := by
  intro E A p l e s m args below meth c H locs ls F hX hA hK hP hD hS hL
  subst hs
  exact lv_istore F.1 F.2.1 hd hL.has hn rfl (fun ls2 h2 => k E A p l e s m args below meth c H locs ls2 F hX hA hK hP hD hS (lvO.set1 (v := .inl x) hc h2))
theorem r_lstore_n {q : Fin 4} {i : Nat} {x : Int} (hd : decode M.2.1 pc = .ok (.lstore_n q, 1)) (hi : (q : Nat) = i) (hc : ncat L i = true) (hn : i + 1 < M.2.2.1) (hs : (L.set i (some (.inr (.inl x)))).set (i + 1) none = L') (k : WW M d post (pc + 1) L' st h) : WW M d post pc L (.inr (.inl x) :: st) h := by
  intro E A p l e s m args below meth c H locs ls F hX hA hK hP hD hS hL
  subst hs
  exact lv_lstore_n F.1 F.2.1 hd hi hL.has hn rfl (fun ls2 h2 => k E A p l e s m args below meth c H locs ls2 F hX hA hK hP hD hS (lvO.set2 (v := .inr (.inl x)) hc h2))
theorem r_lstore {i : Nat} {x : Int} (hd : decode M.2.1 pc = .ok (.lstore i, 2)) (hc : ncat L i = true) (hn : i + 1 < M.2.2.1) (hs : (L.set i (some (.inr (.inl x)))).set (i + 1) none = L') (k : WW M d post (pc + 2) L' st h) : WW M d post pc L (.inr (.inl x) :: st) h := by
  intro E A p l e s m args below meth c H locs ls F hX hA hK hP hD hS hL
  subst hs
  exact lv_lstore F.1 F.2.1 hd hL.has hn rfl (fun ls2 h2 => k E A p l e s m args below meth c H locs ls2 F hX hA hK hP hD hS (lvO.set2 (v := .inr (.inl x)) hc h2))
theorem r_astore_n {q : Fin 4} {i : Nat} {x : Nat} (hd : decode M.2.1 pc = .ok (.astore_n q, 1)) (hi : (q : Nat) = i) (hc : ncat L i = true) (hn : i < M.2.2.1) (hs : L.set i (some (.inr (.inr x))) = L') (k : WW M d post (pc + 1) L' st h) : WW M d post pc L (.inr (.inr x) :: st) h := by
  intro E A p l e s m args below meth c H locs ls F hX hA hK hP hD hS hL
  subst hs
  exact lv_astore_n F.1 F.2.1 hd hi hL.has hn rfl (fun ls2 h2 => k E A p l e s m args below meth c H locs ls2 F hX hA hK hP hD hS (lvO.set1 (v := .inr (.inr x)) hc h2))
theorem r_astore {i : Nat} {x : Nat} (hd : decode M.2.1 pc = .ok (.astore i, 2)) (hc : ncat L i = true) (hn : i < M.2.2.1) (hs : L.set i (some (.inr (.inr x))) = L') (k : WW M d post (pc + 2) L' st h) : WW M d post pc L (.inr (.inr x) :: st) h := by
  intro E A p l e s m args below meth c H locs ls F hX hA hK hP hD hS hL
  subst hs
  exact lv_astore F.1 F.2.1 hd hL.has hn rfl (fun ls2 h2 => k E A p l e s m args below meth c H locs ls2 F hX hA hK hP hD hS (lvO.set1 (v := .inr (.inr x)) hc h2))
theorem r_iinc {i : Nat} {n x : Int} (hd : decode M.2.1 pc = .ok (.iinc i n, 3)) (hl : ix L i = some (some (.inl x))) (hc : ncat L i = true) (hn : i < M.2.2.1) (hs : L.set i (some (.inl (x + n))) = L') (k : WW M d post (pc + 3) L' st h) : WW M d post pc L st h := by
  intro E A p l e s m args below meth c H locs ls F hX hA hK hP hD hS hL
  subst hs
  obtain ⟨k0, hk0⟩ := List.getElem?_of_mem ((mem_lvl E L 0 (i, tr E (.inl x))).mpr ⟨i, _, hl, by simp⟩)
  exact lv_iinc (v := Int32.ofInt (x + n)) F.1 F.2.1 hd hL.has hk0 (by rw [Int32.ofInt_add]) hn rfl (fun ls2 h2 => k E A p l e s m args below meth c H locs ls2 F hX hA hK hP hD hS (lvO.set1 (v := .inl (x + n)) hc h2))
theorem r_drop (i : Nat) (hs : L.set i none = L') (k : WW M d post pc L' st h) : WW M d post pc L st h := by
  subst hs
  intro E A p l e s m args below meth c H locs ls F hX hA hK hP hD hS hL
  refine k E A p l e s m args below meth c H locs ls F hX hA hK hP hD hS ⟨hL.1, hL.2.1, fun j w hj => ?_⟩
  rcases ix_set L i j _ _ hj with ⟨rfl, h2⟩ | ⟨hne, h2⟩
  · cases h2
  · exact hL.2.2 j w h2
theorem r_iadd {x y : Int} (hd : decode M.2.1 pc = .ok (.iadd, 1)) (k : WW M d post (pc + 1) L (.inl (x + y) :: st) h) : WW M d post pc L (.inl y :: .inl x :: st) h := by
  intro E A p l e s m args below meth c H locs ls F hX hA hK hP hD hS hL
  refine lv_iadd F.1 F.2.1 hd ?_
  rw [← Int32.ofInt_add]
  exact k E A p l e s m args below meth c H locs ls F hX hA hK hP hD hS hL
theorem r_isub {x y : Int} (hd : decode M.2.1 pc = .ok (.isub, 1)) (k : WW M d post (pc + 1) L (.inl (x - y) :: st) h) : WW M d post pc L (.inl y :: .inl x :: st) h := by
  intro E A p l e s m args below meth c H locs ls F hX hA hK hP hD hS hL
  refine lv_isub F.1 F.2.1 hd ?_
  rw [← Int32.ofInt_sub]
  exact k E A p l e s m args below meth c H locs ls F hX hA hK hP hD hS hL
theorem r_imul {x y : Int} (hd : decode M.2.1 pc = .ok (.imul, 1)) (k : WW M d post (pc + 1) L (.inl (x * y) :: st) h) : WW M d post pc L (.inl y :: .inl x :: st) h := by
  intro E A p l e s m args below meth c H locs ls F hX hA hK hP hD hS hL
  refine lv_imul F.1 F.2.1 hd ?_
  rw [← Int32.ofInt_mul]
  exact k E A p l e s m args below meth c H locs ls F hX hA hK hP hD hS hL
theorem r_ladd {x y : Int} (hd : decode M.2.1 pc = .ok (.ladd, 1)) (k : WW M d post (pc + 1) L (.inr (.inl (x + y)) :: st) h) : WW M d post pc L (.inr (.inl y) :: .inr (.inl x) :: st) h := by
  intro E A p l e s m args below meth c H locs ls F hX hA hK hP hD hS hL
  refine lv_ladd F.1 F.2.1 hd ?_
  rw [← Int64.ofInt_add]
  exact k E A p l e s m args below meth c H locs ls F hX hA hK hP hD hS hL
theorem r_lsub {x y : Int} (hd : decode M.2.1 pc = .ok (.lsub, 1)) (k : WW M d post (pc + 1) L (.inr (.inl (x - y)) :: st) h) : WW M d post pc L (.inr (.inl y) :: .inr (.inl x) :: st) h := by
  intro E A p l e s m args below meth c H locs ls F hX hA hK hP hD hS hL
  refine lv_lsub F.1 F.2.1 hd ?_
  rw [← Int64.ofInt_sub]
  exact k E A p l e s m args below meth c H locs ls F hX hA hK hP hD hS hL
theorem r_lmul {x y : Int} (hd : decode M.2.1 pc = .ok (.lmul, 1)) (k : WW M d post (pc + 1) L (.inr (.inl (x * y)) :: st) h) : WW M d post pc L (.inr (.inl y) :: .inr (.inl x) :: st) h := by
  intro E A p l e s m args below meth c H locs ls F hX hA hK hP hD hS hL
  refine lv_lmul F.1 F.2.1 hd ?_
  rw [← Int64.ofInt_mul]
  exact k E A p l e s m args below meth c H locs ls F hX hA hK hP hD hS hL
theorem r_ineg {x : Int} (hd : decode M.2.1 pc = .ok (.ineg, 1)) (k : WW M d post (pc + 1) L (.inl (-x) :: st) h) : WW M d post pc L (.inl x :: st) h := by
  intro E A p l e s m args below meth c H locs ls F hX hA hK hP hD hS hL
  refine lv_ineg F.1 F.2.1 hd ?_
  rw [← Int32.ofInt_neg]
  exact k E A p l e s m args below meth c H locs ls F hX hA hK hP hD hS hL
theorem r_lneg {x : Int} (hd : decode M.2.1 pc = .ok (.lneg, 1)) (k : WW M d post (pc + 1) L (.inr (.inl (-x)) :: st) h) : WW M d post pc L (.inr (.inl x) :: st) h := by
  intro E A p l e s m args below meth c H locs ls F hX hA hK hP hD hS hL
  refine lv_lneg F.1 F.2.1 hd ?_
  rw [← Int64.ofInt_neg]
  exact k E A p l e s m args below meth c H locs ls F hX hA hK hP hD hS hL
theorem r_idiv {x y : Int} (hd : decode M.2.1 pc = .ok (.idiv, 1)) (hx : R32 x) (hy : R32 y) (h0 : y ≠ 0) (k : WW M d post (pc + 1) L (.inl (x.tdiv y) :: st) h) : WW M d post pc L (.inl y :: .inl x :: st) h := by
  intro E A p l e s m args below meth c H locs ls F hX hA hK hP hD hS hL
  refine lv_idiv F.1 F.2.1 hd (fun q => h0 ((eq32 hy r0).mp q)) ?_
  rw [← Int32.ofInt_tdiv (by exact hx.1) (by exact hx.2) (by exact hy.1) (by exact hy.2)]
  exact k E A p l e s m args below meth c H locs ls F hX hA hK hP hD hS hL
theorem r_irem {x y : Int} (hd : decode M.2.1 pc = .ok (.irem, 1)) (hx : R32 x) (hy : R32 y) (h0 : y ≠ 0) (k : WW M d post (pc + 1) L (.inl (x.tmod y) :: st) h) : WW M d post pc L (.inl y :: .inl x :: st) h := by
  intro E A p l e s m args below meth c H locs ls F hX hA hK hP hD hS hL
  refine lv_irem F.1 F.2.1 hd (fun q => h0 ((eq32 hy r0).mp q)) ?_
  have e1 : Int32.ofInt x - Int32.ofInt x / Int32.ofInt y * Int32.ofInt y = Int32.ofInt (x.tmod y) := by
    rw [← Int32.ofInt_tdiv (by exact hx.1) (by exact hx.2) (by exact hy.1) (by exact hy.2), ← Int32.ofInt_mul, ← Int32.ofInt_sub]
    congr 1
    have := Int.tmod_add_tdiv_mul x y
    omega
  rw [e1]
  exact k E A p l e s m args below meth c H locs ls F hX hA hK hP hD hS hL
theorem r_ldiv {x y : Int} (hd : decode M.2.1 pc = .ok (.ldiv, 1)) (hx : R64 x) (hy : R64 y) (h0 : y ≠ 0) (k : WW M d post (pc + 1) L (.inr (.inl (x.tdiv y)) :: st) h) : WW M d post pc L (.inr (.inl y) :: .inr (.inl x) :: st) h := by
  intro E A p l e s m args below meth c H locs ls F hX hA hK hP hD hS hL
  refine lv_ldiv F.1 F.2.1 hd (fun q => h0 ((eq64 hy ⟨by decide, by decide⟩).mp q)) ?_
  rw [← Int64.ofInt_tdiv (by exact hx.1) (by exact hx.2) (by exact hy.1) (by exact hy.2)]
  exact k E A p l e s m args below meth c H locs ls F hX hA hK hP hD hS hL
theorem r_i2l {x : Int} (hd : decode M.2.1 pc = .ok (.i2l, 1)) (hx : R32 x) (k : WW M d post (pc + 1) L (.inr (.inl x) :: st) h) : WW M d post pc L (.inl x :: st) h := by
  intro E A p l e s m args below meth c H locs ls F hX hA hK hP hD hS hL
  exact lv_i2l F.1 F.2.1 hd (Int32.toInt64_ofInt (by exact hx.1) (by exact hx.2)) (k E A p l e s m args below meth c H locs ls F hX hA hK hP hD hS hL)
theorem r_l2i {x : Int} (hd : decode M.2.1 pc = .ok (.l2i, 1)) (k : WW M d post (pc + 1) L (.inl x :: st) h) : WW M d post pc L (.inr (.inl x) :: st) h := by
  intro E A p l e s m args below meth c H locs ls F hX hA hK hP hD hS hL
  exact lv_l2i F.1 F.2.1 hd Int64.toInt32_ofInt (k E A p l e s m args below meth c H locs ls F hX hA hK hP hD hS hL)
theorem r_dup {v : AV} (hd : decode M.2.1 pc = .ok (.dup, 1)) (hv : ∀ z, v ≠ .inr (.inl z)) (k : WW M d post (pc + 1) L (v :: v :: st) h) : WW M d post pc L (v :: st) h := by
  intro E A p l e s m args below meth c H locs ls F hX hA hK hP hD hS hL
  refine lv_dup F.1 F.2.1 hd ?_ (k E A p l e s m args below meth c H locs ls F hX hA hK hP hD hS hL)
  match v with
  | .inl z => rfl
  | .inr (.inl z) => exact absurd rfl (hv z)
  | .inr (.inr a) => rfl
theorem r_dup2 {x : Int} {a : Nat} (hd : decode M.2.1 pc = .ok (.dup2, 1)) (k : WW M d post (pc + 1) L (.inl x :: .inr (.inr a) :: .inl x :: .inr (.inr a) :: st) h) : WW M d post pc L (.inl x :: .inr (.inr a) :: st) h := by
  intro E A p l e s m args below meth c H locs ls F hX hA hK hP hD hS hL
  exact lv_dup2_11 F.1 F.2.1 hd rfl rfl (k E A p l e s m args below meth c H locs ls F hX hA hK hP hD hS hL)
theorem r_pop {v : AV} (hd : decode M.2.1 pc = .ok (.pop, 1)) (hv : ∀ z, v ≠ .inr (.inl z)) (k : WW M d post (pc + 1) L st h) : WW M d post pc L (v :: st) h := by
  intro E A p l e s m args below meth c H locs ls F hX hA hK hP hD hS hL
  refine lv_pop F.1 F.2.1 hd ?_ (k E A p l e s m args below meth c H locs ls F hX hA hK hP hD hS hL)
  match v with
  | .inl z => rfl
  | .inr (.inl z) => exact absurd rfl (hv z)
  | .inr (.inr a) => rfl
theorem r_icmp_eq {x y off : Int} {tgt : Nat} (hd : decode M.2.1 pc = .ok (.if_icmp .eq off, 3)) (ht : (pc : Int) + off = (tgt : Int)) (hx : R32 x) (hy : R32 y) (kt : x = y → WW M d post tgt L st h) (kf : ¬ x = y → WW M d post (pc + 3) L st h) : WW M d post pc L (.inl y :: .inl x :: st) h := by
  intro E A p l e s m args below meth c H locs ls F hX hA hK hP hD hS hL
  exact lv_icmp_eq F.1 F.2.1 hd ht (fun q => kt ((eq32 hx hy).mp q) E A p l e s m args below meth c H locs ls F hX hA hK hP hD hS hL) (fun q => kf (fun z => q ((eq32 hx hy).mpr z)) E A p l e s m args below meth c H locs ls F hX hA hK hP hD hS hL)
theorem r_if_eq {x off : Int} {tgt : Nat} (hd : decode M.2.1 pc = .ok (.ifCond .eq off, 3)) (ht : (pc : Int) + off = (tgt : Int)) (hx : R32 x) (kt : x = 0 → WW M d post tgt L st h) (kf : ¬ x = 0 → WW M d post (pc + 3) L st h) : WW M d post pc L (.inl x :: st) h := by
  intro E A p l e s m args below meth c H locs ls F hX hA hK hP hD hS hL
  exact lv_if_eq F.1 F.2.1 hd ht (fun q => kt ((eq32 hx r0).mp q) E A p l e s m args below meth c H locs ls F hX hA hK hP hD hS hL) (fun q => kf (fun z => q ((eq32 hx r0).mpr z)) E A p l e s m args below meth c H locs ls F hX hA hK hP hD hS hL)
theorem r_icmp_lt {x y off : Int} {tgt : Nat} (hd : decode M.2.1 pc = .ok (.if_icmp .lt off, 3)) (ht : (pc : Int) + off = (tgt : Int)) (hx : R32 x) (hy : R32 y) (kt : x < y → WW M d post tgt L st h) (kf : ¬ x < y → WW M d post (pc + 3) L st h) : WW M d post pc L (.inl y :: .inl x :: st) h := by
  intro E A p l e s m args below meth c H locs ls F hX hA hK hP hD hS hL
  exact lv_icmp_lt F.1 F.2.1 hd ht (fun q => kt ((lt32 hx hy).mp q) E A p l e s m args below meth c H locs ls F hX hA hK hP hD hS hL) (fun q => kf (fun z => q ((lt32 hx hy).mpr z)) E A p l e s m args below meth c H locs ls F hX hA hK hP hD hS hL)
theorem r_if_lt {x off : Int} {tgt : Nat} (hd : decode M.2.1 pc = .ok (.ifCond .lt off, 3)) (ht : (pc : Int) + off = (tgt : Int)) (hx : R32 x) (kt : x < 0 → WW M d post tgt L st h) (kf : ¬ x < 0 → WW M d post (pc + 3) L st h) : WW M d post pc L (.inl x :: st) h := by
  intro E A p l e s m args below meth c H locs ls F hX hA hK hP hD hS hL
  exact lv_if_lt F.1 F.2.1 hd ht (fun q => kt ((lt32 hx r0).mp q) E A p l e s m args below meth c H locs ls F hX hA hK hP hD hS hL) (fun q => kf (fun z => q ((lt32 hx r0).mpr z)) E A p l e s m args below meth c H locs ls F hX hA hK hP hD hS hL)
theorem r_icmp_le {x y off : Int} {tgt : Nat} (hd : decode M.2.1 pc = .ok (.if_icmp .le off, 3)) (ht : (pc : Int) + off = (tgt : Int)) (hx : R32 x) (hy : R32 y) (kt : x ≤ y → WW M d post tgt L st h) (kf : ¬ x ≤ y → WW M d post (pc + 3) L st h) : WW M d post pc L (.inl y :: .inl x :: st) h := by
  intro E A p l e s m args below meth c H locs ls F hX hA hK hP hD hS hL
  exact lv_icmp_le F.1 F.2.1 hd ht (fun q => kt ((le32 hx hy).mp q) E A p l e s m args below meth c H locs ls F hX hA hK hP hD hS hL) (fun q => kf (fun z => q ((le32 hx hy).mpr z)) E A p l e s m args below meth c H locs ls F hX hA hK hP hD hS hL)
theorem r_if_le {x off : Int} {tgt : Nat} (hd : decode M.2.1 pc = .ok (.ifCond .le off, 3)) (ht : (pc : Int) + off = (tgt : Int)) (hx : R32 x) (kt : x ≤ 0 → WW M d post tgt L st h) (kf : ¬ x ≤ 0 → WW M d post (pc + 3) L st h) : WW M d post pc L (.inl x :: st) h := by
  intro E A p l e s m args below meth c H locs ls F hX hA hK hP hD hS hL
  exact lv_if_le F.1 F.2.1 hd ht (fun q => kt ((le32 hx r0).mp q) E A p l e s m args below meth c H locs ls F hX hA hK hP hD hS hL) (fun q => kf (fun z => q ((le32 hx r0).mpr z)) E A p l e s m args below meth c H locs ls F hX hA hK hP hD hS hL)
theorem r_icmp_gt {x y off : Int} {tgt : Nat} (hd : decode M.2.1 pc = .ok (.if_icmp .gt off, 3)) (ht : (pc : Int) + off = (tgt : Int)) (hx : R32 x) (hy : R32 y) (kt : y < x → WW M d post tgt L st h) (kf : ¬ y < x → WW M d post (pc + 3) L st h) : WW M d post pc L (.inl y :: .inl x :: st) h := by
  intro E A p l e s m args below meth c H locs ls F hX hA hK hP hD hS hL
  exact lv_icmp_gt F.1 F.2.1 hd ht (fun q => kt ((lt32 hy hx).mp q) E A p l e s m args below meth c H locs ls F hX hA hK hP hD hS hL) (fun q => kf (fun z => q ((lt32 hy hx).mpr z)) E A p l e s m args below meth c H locs ls F hX hA hK hP hD hS hL)
theorem r_if_gt {x off : Int} {tgt : Nat} (hd : decode M.2.1 pc = .ok (.ifCond .gt off, 3)) (ht : (pc : Int) + off = (tgt : Int)) (hx : R32 x) (kt : 0 < x → WW M d post tgt L st h) (kf : ¬ 0 < x → WW M d post (pc + 3) L st h) : WW M d post pc L (.inl x :: st) h := by
  intro E A p l e s m args below meth c H locs ls F hX hA hK hP hD hS hL
  exact lv_if_gt F.1 F.2.1 hd ht (fun q => kt ((lt32 r0 hx).mp q) E A p l e s m args below meth c H locs ls F hX hA hK hP hD hS hL) (fun q => kf (fun z => q ((lt32 r0 hx).mpr z)) E A p l e s m args below meth c H locs ls F hX hA hK hP hD hS hL)
theorem r_icmp_ge {x y off : Int} {tgt : Nat} (hd : decode M.2.1 pc = .ok (.if_icmp .ge off, 3)) (ht : (pc : Int) + off = (tgt : Int)) (hx : R32 x) (hy : R32 y) (kt : y ≤ x → WW M d post tgt L st h) (kf : ¬ y ≤ x → WW M d post (pc + 3) L st h) : WW M d post pc L (.inl y :: .inl x :: st) h := by
  intro E A p l e s m args below meth c H locs ls F hX hA hK hP hD hS hL
  exact lv_icmp_ge F.1 F.2.1 hd ht (fun q => kt ((le32 hy hx).mp q) E A p l e s m args below meth c H locs ls F hX hA hK hP hD hS hL) (fun q => kf (fun z => q ((le32 hy hx).mpr z)) E A p l e s m args below meth c H locs ls F hX hA hK hP hD hS hL)
theorem r_if_ge {x off : Int} {tgt : Nat} (hd : decode M.2.1 pc = .ok (.ifCond .ge off, 3)) (ht : (pc : Int) + off = (tgt : Int)) (hx : R32 x) (kt : 0 ≤ x → WW M d post tgt L st h) (kf : ¬ 0 ≤ x → WW M d post (pc + 3) L st h) : WW M d post pc L (.inl x :: st) h := by
  intro E A p l e s m args below meth c H locs ls F hX hA hK hP hD hS hL
  exact lv_if_ge F.1 F.2.1 hd ht (fun q => kt ((le32 r0 hx).mp q) E A p l e s m args below meth c H locs ls F hX hA hK hP hD hS hL) (fun q => kf (fun z => q ((le32 r0 hx).mpr z)) E A p l e s m args below meth c H locs ls F hX hA hK hP hD hS hL)
theorem r_icmp_ne {x y off : Int} {tgt : Nat} (hd : decode M.2.1 pc = .ok (.if_icmp .ne off, 3)) (ht : (pc : Int) + off = (tgt : Int)) (hx : R32 x) (hy : R32 y) (kt : ¬ x = y → WW M d post tgt L st h) (kf : x = y → WW M d post (pc + 3) L st h) : WW M d post pc L (.inl y :: .inl x :: st) h := by
  intro E A p l e s m args below meth c H locs ls F hX hA hK hP hD hS hL
  exact lv_icmp_ne F.1 F.2.1 hd ht (fun q => kt (fun z => q ((eq32 hx hy).mpr z)) E A p l e s m args below meth c H locs ls F hX hA hK hP hD hS hL) (fun q => kf ((eq32 hx hy).mp (q)) E A p l e s m args below meth c H locs ls F hX hA hK hP hD hS hL)
theorem r_if_ne {x off : Int} {tgt : Nat} (hd : decode M.2.1 pc = .ok (.ifCond .ne off, 3)) (ht : (pc : Int) + off = (tgt : Int)) (hx : R32 x) (kt : ¬ x = 0 → WW M d post tgt L st h) (kf : x = 0 → WW M d post (pc + 3) L st h) : WW M d post pc L (.inl x :: st) h := by
  intro E A p l e s m args below meth c H locs ls F hX hA hK hP hD hS hL
  exact lv_if_ne F.1 F.2.1 hd ht (fun q => kt (fun z => q ((eq32 hx r0).mpr z)) E A p l e s m args below meth c H locs ls F hX hA hK hP hD hS hL) (fun q => kf ((eq32 hx r0).mp (q)) E A p l e s m args below meth c H locs ls F hX hA hK hP hD hS hL)
theorem r_goto {off : Int} {tgt : Nat} (hd : decode M.2.1 pc = .ok (.goto off, 3)) (ht : (pc : Int) + off = (tgt : Int)) (k : WW M d post tgt L st h) : WW M d post pc L st h := by
  intro E A p l e s m args below meth c H locs ls F hX hA hK hP hD hS hL
  exact lv_goto F.1 F.2.1 hd ht (k E A p l e s m args below meth c H locs ls F hX hA hK hP hD hS hL)
theorem r_lcmp_eq {x y off : Int} {tgt : Nat} (hd : decode M.2.1 pc = .ok (.lcmp, 1)) (hd2 : decode M.2.1 (pc + 1) = .ok (.ifCond .eq off, 3)) (ht : ((pc + 1 : Nat) : Int) + off = (tgt : Int)) (hx : R64 x) (hy : R64 y) (kt : x = y → WW M d post tgt L st h) (kf : ¬ x = y → WW M d post (pc + 1 + 3) L st h) : WW M d post pc L (.inr (.inl y) :: .inr (.inl x) :: st) h := by
  intro E A p l e s m args below meth c H locs ls F hX hA hK hP hD hS hL
  refine W.lcmp F.1 F.2.1 hd ?_
  have e1 := cmp64_eq hx hy
  exact lv_if_eq F.1 F.2.1 hd2 ht (fun q => kt (e1.mp q) E A p l e s m args below meth c H locs ls F hX hA hK hP hD hS hL) (fun q => kf (fun z => q (e1.mpr z)) E A p l e s m args below meth c H locs ls F hX hA hK hP hD hS hL)
theorem r_lcmp_ne {x y off : Int} {tgt : Nat} (hd : decode M.2.1 pc = .ok (.lcmp, 1)) (hd2 : decode M.2.1 (pc + 1) = .ok (.ifCond .ne off, 3)) (ht : ((pc + 1 : Nat) : Int) + off = (tgt : Int)) (hx : R64 x) (hy : R64 y) (kt : ¬ x = y → WW M d post tgt L st h) (kf : x = y → WW M d post (pc + 1 + 3) L st h) : WW M d post pc L (.inr (.inl y) :: .inr (.inl x) :: st) h := by
  intro E A p l e s m args below meth c H locs ls F hX hA hK hP hD hS hL
  refine W.lcmp F.1 F.2.1 hd ?_
  have e1 := cmp64_eq hx hy
  exact lv_if_ne F.1 F.2.1 hd2 ht (fun q => kt (fun z => q (e1.mpr z)) E A p l e s m args below meth c H locs ls F hX hA hK hP hD hS hL) (fun q => kf (e1.mp (q)) E A p l e s m args below meth c H locs ls F hX hA hK hP hD hS hL)
theorem r_lcmp_lt {x y off : Int} {tgt : Nat} (hd : decode M.2.1 pc = .ok (.lcmp, 1)) (hd2 : decode M.2.1 (pc + 1) = .ok (.ifCond .lt off, 3)) (ht : ((pc + 1 : Nat) : Int) + off = (tgt : Int)) (hx : R64 x) (hy : R64 y) (kt : x < y → WW M d post tgt L st h) (kf : ¬ x < y → WW M d post (pc + 1 + 3) L st h) : WW M d post pc L (.inr (.inl y) :: .inr (.inl x) :: st) h := by
  intro E A p l e s m args below meth c H locs ls F hX hA hK hP hD hS hL
  refine W.lcmp F.1 F.2.1 hd ?_
  have e1 := cmp64_lt hx hy
  exact lv_if_lt F.1 F.2.1 hd2 ht (fun q => kt (e1.mp q) E A p l e s m args below meth c H locs ls F hX hA hK hP hD hS hL) (fun q => kf (fun z => q (e1.mpr z)) E A p l e s m args below meth c H locs ls F hX hA hK hP hD hS hL)
theorem r_lcmp_ge {x y off : Int} {tgt : Nat} (hd : decode M.2.1 pc = .ok (.lcmp, 1)) (hd2 : decode M.2.1 (pc + 1) = .ok (.ifCond .ge off, 3)) (ht : ((pc + 1 : Nat) : Int) + off = (tgt : Int)) (hx : R64 x) (hy : R64 y) (kt : ¬ x < y → WW M d post tgt L st h) (kf : x < y → WW M d post (pc + 1 + 3) L st h) : WW M d post pc L (.inr (.inl y) :: .inr (.inl x) :: st) h := by
  intro E A p l e s m args below meth c H locs ls F hX hA hK hP hD hS hL
  refine W.lcmp F.1 F.2.1 hd ?_
  have e1 := cmp64_lt hx hy
  exact lv_if_ge F.1 F.2.1 hd2 ht (fun q => kt (fun z => lcx_ge q (e1.mpr z)) E A p l e s m args below meth c H locs ls F hX hA hK hP hD hS hL) (fun q => kf (e1.mp (lcy_ge q)) E A p l e s m args below meth c H locs ls F hX hA hK hP hD hS hL)
theorem r_lcmp_gt {x y off : Int} {tgt : Nat} (hd : decode M.2.1 pc = .ok (.lcmp, 1)) (hd2 : decode M.2.1 (pc + 1) = .ok (.ifCond .gt off, 3)) (ht : ((pc + 1 : Nat) : Int) + off = (tgt : Int)) (hx : R64 x) (hy : R64 y) (kt : y < x → WW M d post tgt L st h) (kf : ¬ y < x → WW M d post (pc + 1 + 3) L st h) : WW M d post pc L (.inr (.inl y) :: .inr (.inl x) :: st) h := by
  intro E A p l e s m args below meth c H locs ls F hX hA hK hP hD hS hL
  refine W.lcmp F.1 F.2.1 hd ?_
  have e1 := cmp64_gt hx hy
  exact lv_if_gt F.1 F.2.1 hd2 ht (fun q => kt (e1.mp q) E A p l e s m args below meth c H locs ls F hX hA hK hP hD hS hL) (fun q => kf (fun z => q (e1.mpr z)) E A p l e s m args below meth c H locs ls F hX hA hK hP hD hS hL)
theorem r_lcmp_le {x y off : Int} {tgt : Nat} (hd : decode M.2.1 pc = .ok (.lcmp, 1)) (hd2 : decode M.2.1 (pc + 1) = .ok (.ifCond .le off, 3)) (ht : ((pc + 1 : Nat) : Int) + off = (tgt : Int)) (hx : R64 x) (hy : R64 y) (kt : ¬ y < x → WW M d post tgt L st h) (kf : y < x → WW M d post (pc + 1 + 3) L st h) : WW M d post pc L (.inr (.inl y) :: .inr (.inl x) :: st) h := by
  intro E A p l e s m args below meth c H locs ls F hX hA hK hP hD hS hL
  refine W.lcmp F.1 F.2.1 hd ?_
  have e1 := cmp64_gt hx hy
  exact lv_if_le F.1 F.2.1 hd2 ht (fun q => kt (fun z => lcx_le q (e1.mpr z)) E A p l e s m args below meth c H locs ls F hX hA hK hP hD hS hL) (fun q => kf (e1.mp (lcy_le q)) E A p l e s m args below meth c H locs ls F hX hA hK hP hD hS hL)
end
