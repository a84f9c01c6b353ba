/-! ROWS for Math: max, min, abs -/
theorem jm_mmax : Cond.code Lib.Math.max.name Lib.Math.max.code 2 (some .int) ∈ lw_g := in_g (List.mem_of_getElem? (i := 684) (by decide +kernel)) (by decide +kernel)
theorem js_mmax : Cond.static Lib.Math.max.name ∈ lw_g := in_g (List.mem_of_getElem? (i := 683) (by decide +kernel)) (by decide +kernel)
theorem ji_math : Cond.initialized "java/lang/Math" ∈ lw_g := in_g (List.mem_of_getElem? (i := 118) (by decide +kernel)) (by decide +kernel)
theorem r_mmax {M : MI} {d : Nat} {post : Pst} {pc : Nat} {L : List (Option AV)} {st : List AV} {h : Hp} {i : Nat} {x y : Int} (hx : R32 x) (hy : R32 y) (hd : decode M.2.1 pc = .ok (.invokestatic i, 3)) (hl : Cond.methodLink M.1.cls i yJ9_max_7cf53 ∈ lw_g) (hw : wtA st ≤ 20) (k : WW M (d + 1) post (pc + 3) L (.inl (max x y) :: st) h) : WW M (d + 1) post pc L (.inl y :: .inl x :: st) h := by
  intro E A p l e s m args below meth c H locs ls F hX hA hK hP hD hS hL
  have e1 : (if Int32.ofInt x < Int32.ofInt y then Int32.ofInt y else Int32.ofInt x) = Int32.ofInt (max x y) := by
    by_cases q : x < y
    · rw [if_pos ((lt32 hx hy).mpr q)]; congr 1; omega
    · rw [if_neg (fun z => q ((lt32 hx hy).mp z))]; congr 1; omega
  refine va_mmax F.1 F.2.1 (F.2.2.1.trans hL.1.symm) F.2.2.2.2.2.1 (F.2.2.2.2.2.2 _ hl) (F.2.2.2.2.2.2 _ js_mmax) (F.2.2.2.2.2.2 _ ji_math) (F.2.2.2.2.2.2 _ jm_mmax) (by show 1 ≤ d + 1; omega) (by rw [wtA_eq]; show wtA st + _ ≤ 100 * (d + 1); omega) (Nat.le_refl _) (Nat.le_refl _) hd ?_
  rw [e1]
  exact k E A p l e s m args below meth c H locs ls F hX hA hK hP hD hS hL
theorem jm_mmin : Cond.code Lib.Math.min.name Lib.Math.min.code 2 (some .int) ∈ lw_g := in_g (List.mem_of_getElem? (i := 687) (by decide +kernel)) (by decide +kernel)
theorem js_mmin : Cond.static Lib.Math.min.name ∈ lw_g := in_g (List.mem_of_getElem? (i := 686) (by decide +kernel)) (by decide +kernel)
theorem r_mmin {M : MI} {d : Nat} {post : Pst} {pc : Nat} {L : List (Option AV)} {st : List AV} {h : Hp} {i : Nat} {x y : Int} (hx : R32 x) (hy : R32 y) (hd : decode M.2.1 pc = .ok (.invokestatic i, 3)) (hl : Cond.methodLink M.1.cls i yJ9_min_7cf53 ∈ lw_g) (hw : wtA st ≤ 20) (k : WW M (d + 1) post (pc + 3) L (.inl (min x y) :: st) h) : WW M (d + 1) post pc L (.inl y :: .inl x :: st) h := by
  intro E A p l e s m args below meth c H locs ls F hX hA hK hP hD hS hL
  have e1 : (if Int32.ofInt y < Int32.ofInt x then Int32.ofInt y else Int32.ofInt x) = Int32.ofInt (min x y) := by
    by_cases q : y < x
    · rw [if_pos ((lt32 hy hx).mpr q)]; congr 1; omega
    · rw [if_neg (fun z => q ((lt32 hy hx).mp z))]; congr 1; omega
  refine va_mmin F.1 F.2.1 (F.2.2.1.trans hL.1.symm) F.2.2.2.2.2.1 (F.2.2.2.2.2.2 _ hl) (F.2.2.2.2.2.2 _ js_mmin) (F.2.2.2.2.2.2 _ ji_math) (F.2.2.2.2.2.2 _ jm_mmin) (by show 1 ≤ d + 1; omega) (by rw [wtA_eq]; show wtA st + _ ≤ 100 * (d + 1); omega) (Nat.le_refl _) (Nat.le_refl _) hd ?_
  rw [e1]
  exact k E A p l e s m args below meth c H locs ls F hX hA hK hP hD hS hL
theorem jm_mabs : Cond.code Lib.Math.abs.name Lib.Math.abs.code 1 (some .int) ∈ lw_g := in_g (List.mem_of_getElem? (i := 998) (by decide +kernel)) (by decide +kernel)
theorem js_mabs : Cond.static Lib.Math.abs.name ∈ lw_g := in_g (List.mem_of_getElem? (i := 997) (by decide +kernel)) (by decide +kernel)
theorem r_mabs {M : MI} {d : Nat} {post : Pst} {pc : Nat} {L : List (Option AV)} {st : List AV} {h : Hp} {i : Nat} {x : Int} (hx : R32 x) (hd : decode M.2.1 pc = .ok (.invokestatic i, 3)) (hl : Cond.methodLink M.1.cls i yJ9_abs_0f7a4 ∈ lw_g) (hw : wtA st ≤ 20) (k : WW M (d + 1) post (pc + 3) L (.inl (x.natAbs : Int) :: st) h) : WW M (d + 1) post pc L (.inl x :: st) h := by
  intro E A p l e s m args below meth c H locs ls F hX hA hK hP hD hS hL
  have e1 : (if 0 ≤ Int32.ofInt x then Int32.ofInt x else 0 - Int32.ofInt x) = Int32.ofInt (x.natAbs : Int) := by
    by_cases q : 0 ≤ x
    · rw [if_pos (show (0 : Int32) ≤ Int32.ofInt x from (le32 r0 hx).mpr q)]; congr 1; omega
    · rw [if_neg (show ¬ (0 : Int32) ≤ Int32.ofInt x from fun z => q ((le32 r0 hx).mp z))]
      show Int32.ofInt 0 - Int32.ofInt x = _
      rw [← Int32.ofInt_sub]; congr 1; omega
  refine va_mabs F.1 F.2.1 (F.2.2.1.trans hL.1.symm) F.2.2.2.2.2.1 (F.2.2.2.2.2.2 _ hl) (F.2.2.2.2.2.2 _ js_mabs) (F.2.2.2.2.2.2 _ ji_math) (F.2.2.2.2.2.2 _ jm_mabs) (by show 1 ≤ d + 1; omega) (by rw [wtA_eq]; show wtA st + _ ≤ 100 * (d + 1); omega) (Nat.le_refl _) (Nat.le_refl _) hd ?_
  rw [e1]
  exact k E A p l e s m args below meth c H locs ls F hX hA hK hP hD hS hL
theorem jm_mmax_long : Cond.code Lib.MathLoose.max_long.x Lib.MathLoose.max_long.code 4 (some .long) ∈ lw_g := in_g (List.mem_of_getElem? (i := 943) (by decide +kernel)) (by decide +kernel)
theorem js_mmax_long : Cond.static Lib.MathLoose.max_long.x ∈ lw_g := in_g (List.mem_of_getElem? (i := 942) (by decide +kernel)) (by decide +kernel)
theorem r_mmax_long {M : MI} {d : Nat} {post : Pst} {pc : Nat} {L : List (Option AV)} {st : List AV} {h : Hp} {i : Nat} {x y : Int} (hx : R64 x) (hy : R64 y) (hd : decode M.2.1 pc = .ok (.invokestatic i, 3)) (hl : Cond.methodLink M.1.cls i yJ9_max_f86c9 ∈ lw_g) (hw : wtA st ≤ 20) (k : WW M (d + 1) post (pc + 3) L (.inr (.inl (max x y)) :: st) h) : WW M (d + 1) post pc L (.inr (.inl y) :: .inr (.inl x) :: st) h := by
  intro E A p l e s m args below meth c H locs ls F hX hA hK hP hD hS hL
  have e1 : (if Int64.ofInt y < Int64.ofInt x then Int64.ofInt x else Int64.ofInt y) = Int64.ofInt (max x y) := by
    by_cases q : y < x
    · rw [if_pos ((lt64 hy hx).mpr q)]; congr 1; omega
    · rw [if_neg (fun z => q ((lt64 hy hx).mp z))]; congr 1; omega
  refine va_mmax_long F.1 F.2.1 (F.2.2.1.trans hL.1.symm) F.2.2.2.2.2.1 (F.2.2.2.2.2.2 _ hl) (F.2.2.2.2.2.2 _ js_mmax_long) (F.2.2.2.2.2.2 _ ji_math) (F.2.2.2.2.2.2 _ jm_mmax_long) (by show 1 ≤ d + 1; omega) (by rw [wtA_eq]; show wtA st + _ ≤ 100 * (d + 1); omega) (Nat.le_refl _) (Nat.le_refl _) hd ?_
  rw [e1]
  exact k E A p l e s m args below meth c H locs ls F hX hA hK hP hD hS hL
