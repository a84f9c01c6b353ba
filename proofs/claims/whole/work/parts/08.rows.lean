/-! ROWS of the layer: shifts, fields, arrays, switches, returns, the entry -/
theorem nat32 (n : Nat) : nI n = Int32.ofInt (n : Int) := (Int32.ofInt_eq_ofNat (n := n)).symm
theorem bv32 (x : Int) : ((Int32.ofInt x).toBitVec.toNat : Int) = x % 4294967296 := by
  rw [Int32.toBitVec_ofInt, BitVec.toNat_ofInt]
  show ((x % 4294967296).toNat : Int) = x % 4294967296
  omega
theorem and32 (x : Int) (k : Nat) (m : Int) (hm : (Int32.ofInt m).toBitVec.toNat = 2 ^ k - 1) (q : Int) (hq : ((2 ^ k : Nat) : Int) = q) (hd : q ∣ 4294967296) : Int32.ofInt x &&& Int32.ofInt m = Int32.ofInt (x % q) := by
  rw [pk_and _ k hm, nat32]
  congr 1
  rw [Int.natCast_emod, hq, bv32]
  exact Int.emod_emod_of_dvd x hd
theorem pw1 (n : Nat) : (1 : Int) ≤ 2 ^ n := by
  have : 0 < (2 : Nat) ^ n := Nat.pow_pos (by decide)
  exact_mod_cast this
theorem shr_rng {x B : Int} (hB : 0 ≤ B) (h1 : -B ≤ x) (h2 : x ≤ B) (n : Nat) : -B ≤ x / 2 ^ n ∧ x / 2 ^ n ≤ B := by
  have hp := pw1 n
  constructor
  · refine (Int.le_ediv_iff_mul_le (by omega)).mpr ?_
    have h3 : B * 1 ≤ B * 2 ^ n := Int.mul_le_mul_of_nonneg_left hp hB
    rw [Int.neg_mul]
    omega
  · rcases Int.le_total 0 x with h | h
    · exact Int.le_trans (Int.ediv_le_self _ h) h2
    · have : x / 2 ^ n ≤ 0 := Int.ediv_le_of_le_mul (by omega) (by rw [Int.zero_mul]; exact h)
      omega
theorem shr32 {x : Int} (hx : R32 x) (n : Nat) (hn : n < 32) : Int32.ofInt x >>> (Int32.ofInt (n : Int) &&& 31) = Int32.ofInt (x / 2 ^ n) := by
  have e1 : ∀ n, n < 32 → ((Int32.ofInt ((n : Nat) : Int) &&& 31).toBitVec.smod 32).toNat = n := by decide +kernel
  have e2 := pk_shr (Int32.ofInt x) (Int32.ofInt (n : Int) &&& 31) n (e1 n hn)
  rw [Int32.toInt_ofInt_of_le (by omega) (by omega)] at e2
  rw [← Int32.toInt_inj, e2, Int.shiftRight_eq_div_pow x n]
  have h3 : ((2 ^ n : Nat) : Int) = 2 ^ n := by exact_mod_cast rfl
  have h4 : -2147483648 ≤ x / 2 ^ n ∧ x / 2 ^ n ≤ 2147483647 := by
    have hp := pw1 n
    refine ⟨(shr_rng (B := 2147483648) (by decide) (by omega) (by omega) n).1, ?_⟩
    rcases Int.le_total 0 x with h | h
    · exact Int.le_trans (Int.ediv_le_self _ h) hx.2
    · have : x / 2 ^ n ≤ 0 := Int.ediv_le_of_le_mul (by omega) (by rw [Int.zero_mul]; exact h)
      omega
  rw [h3, Int32.toInt_ofInt_of_le (by omega) (by omega)]
theorem shl32 (x : Int) (n : Nat) (hn : n < 32) : Int32.ofInt x <<< (Int32.ofInt (n : Int) &&& 31) = Int32.ofInt (x * 2 ^ n) := by
  have e1 : ∀ n, n < 32 → ((Int32.ofInt ((n : Nat) : Int) &&& 31).toBitVec.smod 32).toNat = n := by decide +kernel
  have e2 := pk_shl (Int32.ofInt x) (Int32.ofInt (n : Int) &&& 31) n (e1 n hn)
  apply Int32.toBitVec_inj.mp
  apply BitVec.eq_of_toNat_eq
  rw [e2]
  have h1 := bv32 x
  have h2 := bv32 (x * 2 ^ n)
  have h3 : (((Int32.ofInt x).toBitVec.toNat * 2 ^ n % 2 ^ 32 : Nat) : Int) = x * 2 ^ n % 4294967296 := by
    rw [Int.natCast_emod, Int.natCast_mul, h1]
    have : ((2 ^ n : Nat) : Int) = 2 ^ n := by exact_mod_cast rfl
    rw [this]
    show x % 4294967296 * 2 ^ n % 4294967296 = _
    rw [Int.mul_emod, Int.emod_emod, ← Int.mul_emod]
  have h4 : (((Int32.ofInt x).toBitVec.toNat * 2 ^ n % 2 ^ 32 : Nat) : Int) = ((Int32.ofInt (x * 2 ^ n)).toBitVec.toNat : Int) := by rw [h3, h2]
  exact_mod_cast h4
theorem lorN {x y n : Nat} (hx : x % 2 ^ n = 0) (hy : y < 2 ^ n) : x ||| y = x + y := by
  have e : x = 2 ^ n * (x / 2 ^ n) := by have := Nat.div_add_mod x (2 ^ n); omega
  rw [e, ← Nat.two_pow_add_eq_or_of_lt hy]
theorem or32 {x y : Int} (n : Nat) (hn : n < 31) (hx : R32 x ∧ 0 ≤ x ∧ x % 2 ^ n = 0) (hy : 0 ≤ y ∧ y < 2 ^ n) : Int32.ofInt x ||| Int32.ofInt y = Int32.ofInt (x + y) := by
  obtain ⟨a, rfl⟩ := Int.eq_ofNat_of_zero_le hx.2.1
  obtain ⟨b, rfl⟩ := Int.eq_ofNat_of_zero_le hy.1
  have h2 : ((2 ^ n : Nat) : Int) = 2 ^ n := by exact_mod_cast rfl
  have e1 : a % 2 ^ n = 0 := by have := hx.2.2; rw [← h2] at this; exact_mod_cast this
  have e2 : b < 2 ^ n := by have := hy.2; rw [← h2] at this; exact_mod_cast this
  have e3 := lorN e1 e2
  apply Int32.toBitVec_inj.mp
  rw [Int32.toBitVec_or]
  apply BitVec.eq_of_toNat_eq
  rw [BitVec.toNat_or, Int32.toBitVec_ofInt, Int32.toBitVec_ofInt, Int32.toBitVec_ofInt, ← Int.natCast_add, BitVec.ofInt_natCast, BitVec.ofInt_natCast, BitVec.ofInt_natCast, BitVec.toNat_ofNat, BitVec.toNat_ofNat, BitVec.toNat_ofNat, ← e3]
  exact (Nat.or_mod_two_pow).symm
theorem or64 {x y : Int} (n : Nat) (hn : n < 62) (hx : R64 x ∧ 0 ≤ x ∧ x % 2 ^ (n + 1) = 0) (hy : y = 2 ^ n) : Int64.ofInt x ||| Int64.ofInt y = Int64.ofInt (x + y) := by
  have hp : (0 : Int) ≤ 2 ^ n := by have := pw1 n; omega
  subst hy
  obtain ⟨a, rfl⟩ := Int.eq_ofNat_of_zero_le hx.2.1
  have h2 : ((2 ^ n : Nat) : Int) = 2 ^ n := by exact_mod_cast rfl
  have h3 : ((2 ^ (n + 1) : Nat) : Int) = 2 ^ (n + 1) := by exact_mod_cast rfl
  have e1 : a % 2 ^ (n + 1) = 0 := by have := hx.2.2; rw [← h3] at this; exact_mod_cast this
  have e2 : 2 ^ n < 2 ^ (n + 1) := Nat.pow_lt_pow_right (by decide) (by omega)
  have e3 := lorN e1 e2
  rw [← h2]
  apply Int64.toBitVec_inj.mp
  rw [Int64.toBitVec_or]
  apply BitVec.eq_of_toNat_eq
  rw [BitVec.toNat_or, Int64.toBitVec_ofInt, Int64.toBitVec_ofInt, Int64.toBitVec_ofInt, ← Int.natCast_add, BitVec.ofInt_natCast, BitVec.ofInt_natCast, BitVec.ofInt_natCast, BitVec.toNat_ofNat, BitVec.toNat_ofNat, BitVec.toNat_ofNat, ← e3]
  exact (Nat.or_mod_two_pow).symm
theorem shr64 {x : Int} (hx : R64 x) : Int64.ofInt x >>> ((Int32.ofInt 1).toInt64 &&& 63) = Int64.ofInt (x / 2) := by
  have e0 : ((Int32.ofInt 1).toInt64 &&& 63) = 1 := by decide +kernel
  rw [e0, ← Int64.toInt_inj, Int64.toInt_ofInt_of_le (by omega) (by omega)]
  have : (Int64.ofInt x >>> (1 : Int64)).toInt = (Int64.ofInt x).toInt >>> 1 := by
    rw [← Int64.toInt_toBitVec, Int64.toBitVec_shiftRight]
    exact BitVec.toInt_sshiftRight
  rw [this, Int64.toInt_ofInt_of_le (by omega) (by omega), Int.shiftRight_eq_div_pow]
  rfl
theorem cellE_obj {E : EV} {h : Hp} {a ci : Nat} {ts : List Nat} (hc : ci < 100) : cellE E h a (ci, ts) = .inr (ci, fvs E h a 0 ts) := by
  unfold cellE
  split
  · rename_i q
    have : ci = 101 := (Prod.mk.inj q).1
    omega
  · rename_i n ts' _ q
    obtain ⟨rfl, rfl⟩ := Prod.mk.inj q
    rw [if_pos hc]
theorem fvs_up {E : EV} {h : Hp} {a k : Nat} {ts : List Nat} {t : Nat} {x : Int} {v : Value} (ht : ix ts k = some t) (hv : fvv E (upH h a k x) a k t = v) : fvs E (upH h a k x) a 0 ts = (fvs E h a 0 ts).set k v := by
  rw [ix_eq] at ht
  apply List.ext_getElem?
  intro j
  by_cases hj : j = k
  · subst hj
    have hl : j < ts.length := (List.getElem?_eq_some_iff.mp ht).1
    rw [List.getElem?_set_self (by rw [fvs_len]; exact hl), fvs_at, ht]
    simp [hv]
  · rw [List.getElem?_set_ne (Ne.symm hj), fvs_at, fvs_at]
    congr 1
    funext t'
    have e1 : upH h a k x a (0 + j) = h a (0 + j) := up_nk (by omega)
    match t' with
    | 0 => simp only [fvv, e1]
    | 1 => simp only [fvv, e1]
    | t' + 2 => rfl
theorem upH_off {h : Hp} {a k : Nat} {x : Int} : ∀ a' k', a' ≠ a → upH h a k x a' k' = h a' k' := fun _ _ hne => up_nc hne
section
variable {M : MI} {d : Nat} {post : Pst} {pc : Nat} {L L' : List (Option AV)} {st : List AV} {h : Hp}
theorem r_ishr {x : Int} {n : Nat} {y : Int} (hd : decode M.2.1 pc = .ok (.ishr, 1)) (hx : R32 x) (hy : y = (n : Int)) (hn : n < 32) (k : WW M d post (pc + 1) L (.inl (x / 2 ^ n) :: st) h) : WW M d post pc L (.inl y :: .inl x :: st) h := by
  intro E A p l e s m args below meth c H locs ls F hX hA hK hP hD hS hL
  subst hy
  refine lv_ishr F.1 F.2.1 hd ?_
  rw [shr32 hx n hn]
  exact k E A p l e s m args below meth c H locs ls F hX hA hK hP hD hS hL
theorem r_iand {x mk q : Int} (n : Nat) (hd : decode M.2.1 pc = .ok (.iand, 1)) (hm : (Int32.ofInt mk).toBitVec.toNat = 2 ^ n - 1) (hq : ((2 ^ n : Nat) : Int) = q) (hv : q ∣ 4294967296) (k : WW M d post (pc + 1) L (.inl (x % q) :: st) h) : WW M d post pc L (.inl mk :: .inl x :: st) h := by
  intro E A p l e s m args below meth c H locs ls F hX hA hK hP hD hS hL
  refine lv_iand F.1 F.2.1 hd ?_
  rw [and32 x n mk hm q hq hv]
  exact k E A p l e s m args below meth c H locs ls F hX hA hK hP hD hS hL
theorem r_i2b {x : Int} (hd : decode M.2.1 pc = .ok (.i2b, 1)) (k : WW M d post (pc + 1) L (.inl (x.bmod 256) :: st) h) : WW M d post pc L (.inl x :: st) h := by
  intro E A p l e s m args below meth c H locs ls F hX hA hK hP hD hS hL
  refine lv_i2b F.1 F.2.1 hd (v := Int32.ofInt (x.bmod 256)) ?_ (k E A p l e s m args below meth c H locs ls F hX hA hK hP hD hS hL)
  have h1 : x.bmod 256 < 128 := by have := @Int.bmod_lt x 256 (by decide); omega
  have h2 : -128 ≤ x.bmod 256 := by have := @Int.le_bmod x 256 (by decide); omega
  rw [← Int32.toInt_inj, Int8.toInt_toInt32, Int32.toInt_ofInt_of_le (by omega) (by omega), Int32.toInt8_ofInt, Int8.toInt_ofInt]
theorem r_ishl {x y : Int} (n : Nat) (hd : decode M.2.1 pc = .ok (.ishl, 1)) (hy : y = (n : Int)) (hn : n < 32) (k : WW M d post (pc + 1) L (.inl (x * 2 ^ n) :: st) h) : WW M d post pc L (.inl y :: .inl x :: st) h := by
  intro E A p l e s m args below meth c H locs ls F hX hA hK hP hD hS hL
  subst hy
  refine lv_ishl F.1 F.2.1 hd ?_
  rw [shl32 x n hn]
  exact k E A p l e s m args below meth c H locs ls F hX hA hK hP hD hS hL
theorem r_ior {x y : Int} (n : Nat) (hd : decode M.2.1 pc = .ok (.ior, 1)) (hn : n < 31) (hx : R32 x ∧ 0 ≤ x ∧ x % 2 ^ n = 0) (hy : 0 ≤ y ∧ y < 2 ^ n) (k : WW M d post (pc + 1) L (.inl (x + y) :: st) h) : WW M d post pc L (.inl y :: .inl x :: st) h := by
  intro E A p l e s m args below meth c H locs ls F hX hA hK hP hD hS hL
  refine lv_ior F.1 F.2.1 hd ?_
  rw [or32 n hn hx hy]
  exact k E A p l e s m args below meth c H locs ls F hX hA hK hP hD hS hL
theorem r_lor {x y : Int} (n : Nat) (hd : decode M.2.1 pc = .ok (.lor, 1)) (hn : n < 62) (hx : R64 x ∧ 0 ≤ x ∧ x % 2 ^ (n + 1) = 0) (hy : y = 2 ^ n) (k : WW M d post (pc + 1) L (.inr (.inl (x + y)) :: st) h) : WW M d post pc L (.inr (.inl y) :: .inr (.inl x) :: st) h := by
  intro E A p l e s m args below meth c H locs ls F hX hA hK hP hD hS hL
  refine lv_lor F.1 F.2.1 hd ?_
  rw [or64 n hn hx hy]
  exact k E A p l e s m args below meth c H locs ls F hX hA hK hP hD hS hL
theorem r_lshr1 {x : Int} (hd : decode M.2.1 pc = .ok (.lshr, 1)) (hx : R64 x) (k : WW M d post (pc + 1) L (.inr (.inl (x / 2)) :: st) h) : WW M d post pc L (.inl 1 :: .inr (.inl x) :: st) h := by
  intro E A p l e s m args below meth c H locs ls F hX hA hK hP hD hS hL
  exact lv_lshr F.1 F.2.1 hd (shr64 hx) (k E A p l e s m args below meth c H locs ls F hX hA hK hP hD hS hL)
theorem r_getI {i a ci k : Nat} {ts : List Nat} {fin : Bool} {ty : FieldType} (hd : decode M.2.1 pc = .ok (.getfield i, 3)) (hf : FLk M.1.cls i ci k fin ty) (hs : ix SH a = some (ci, ts)) (ht : ix ts k = some 0) (kk : WW M d post (pc + 3) L (.inl (h a k) :: st) h) : WW M d post pc L (.inr (.inr a) :: st) h := by
  intro E A p l e s m args below meth c H locs ls F hX hA hK hP hD hS hL
  obtain ⟨C, T, N, ty0, f1, f2, f3, f4, f5, f6, f7, f8, f9⟩ := hf
  rw [ix_eq] at f1 ht
  have he := cls_at (E := E) (h := h) hs
  rw [cellE_obj f2] at he
  refine va_get F.1 F.2.1 F.2.2.2.2.2.2 f4 F.2.2.2.2.2.1 hK hP a he f1 k f3 (F.2.2.2.2.2.2 _ f7) (fun _ q => q) (v := .int (Int32.ofInt (h a k))) ?_ hd (kk E A p l e s m args below meth c H locs ls F hX hA hK hP hD hS hL)
  rw [fvs_at, ht]
  simp [fvv]
theorem r_getJ {i a ci k : Nat} {ts : List Nat} {fin : Bool} {ty : FieldType} (hd : decode M.2.1 pc = .ok (.getfield i, 3)) (hf : FLk M.1.cls i ci k fin ty) (hs : ix SH a = some (ci, ts)) (ht : ix ts k = some 1) (kk : WW M d post (pc + 3) L (.inr (.inl (h a k)) :: st) h) : WW M d post pc L (.inr (.inr a) :: st) h := by
  intro E A p l e s m args below meth c H locs ls F hX hA hK hP hD hS hL
  obtain ⟨C, T, N, ty0, f1, f2, f3, f4, f5, f6, f7, f8, f9⟩ := hf
  rw [ix_eq] at f1 ht
  have he := cls_at (E := E) (h := h) hs
  rw [cellE_obj f2] at he
  refine va_get F.1 F.2.1 F.2.2.2.2.2.2 f4 F.2.2.2.2.2.1 hK hP a he f1 k f3 (F.2.2.2.2.2.2 _ f7) (fun _ q => q) (v := .long (Int64.ofInt (h a k))) ?_ hd (kk E A p l e s m args below meth c H locs ls F hX hA hK hP hD hS hL)
  rw [fvs_at, ht]
  simp [fvv]
theorem r_getR {i a ci k b : Nat} {ts : List Nat} {fin : Bool} {ty : FieldType} (hd : decode M.2.1 pc = .ok (.getfield i, 3)) (hf : FLk M.1.cls i ci k fin ty) (hs : ix SH a = some (ci, ts)) (ht : ix ts k = some (b + 2)) (kk : WW M d post (pc + 3) L (.inr (.inr b) :: st) h) : WW M d post pc L (.inr (.inr a) :: st) h := by
  intro E A p l e s m args below meth c H locs ls F hX hA hK hP hD hS hL
  obtain ⟨C, T, N, ty0, f1, f2, f3, f4, f5, f6, f7, f8, f9⟩ := hf
  rw [ix_eq] at f1 ht
  have he := cls_at (E := E) (h := h) hs
  rw [cellE_obj f2] at he
  refine va_get F.1 F.2.1 F.2.2.2.2.2.2 f4 F.2.2.2.2.2.1 hK hP a he f1 k f3 (F.2.2.2.2.2.2 _ f7) (fun _ q => q) (v := .ref (E.2.1 b)) ?_ hd (kk E A p l e s m args below meth c H locs ls F hX hA hK hP hD hS hL)
  rw [fvs_at, ht]
  simp [fvv]
theorem r_putI {i a ci k : Nat} {x : Int} {ts : List Nat} (hd : decode M.2.1 pc = .ok (.putfield i, 3)) (hf : FLk M.1.cls i ci k false .int) (hs : ix SH a = some (ci, ts)) (ht : ix ts k = some 0) (kk : WW M d post (pc + 3) L st (upH h a k x)) : WW M d post pc L (.inl x :: .inr (.inr a) :: st) h := by
  intro E A p l e s m args below meth c H locs ls F hX hA hK hP hD hS hL
  obtain ⟨C, T, N, ty0, f1, f2, f3, f4, f5, f6, f7, f8, f9⟩ := hf
  rw [ix_eq] at f1
  have he := cls_at (E := E) (h := h) hs
  rw [cellE_obj f2] at he
  have hlen : k < ts.length := by rw [ix_eq] at ht; exact (List.getElem?_eq_some_iff.mp ht).1
  have e1 : (cls E h).set a (E.2.1 a, .inr (ci, (fvs E h a 0 ts).set k (.int (Int32.ofInt x)))) = cls E (upH h a k x) := by
    rw [cls_set (h' := upH h a k x) hs upH_off, cellE_obj f2, fvs_up (v := .int (Int32.ofInt x)) ht (by simp [fvv, up_s])]
  refine va_put F.1 F.2.1 F.2.2.2.2.2.2 f4 ty0 f5 f6 F.2.2.2.2.2.1 hK hP hD hS a he f1 k f3 (F.2.2.2.2.2.2 _ f7) (fun _ q => q) f8 (ty := .int) (v := .int (Int32.ofInt x)) (by rw [f5 k f3, f9]) rfl rfl (by rw [fvs_len]; exact hlen) hd (fun H1 locs1 hP1 hD1 hS1 => ?_)
  rw [e1] at hP1 hD1
  exact kk E A p l e s m args below meth c H1 locs1 ls F hX hA hK hP1 hD1 hS1 hL
theorem r_putJ {i a ci k : Nat} {x : Int} {ts : List Nat} (hd : decode M.2.1 pc = .ok (.putfield i, 3)) (hf : FLk M.1.cls i ci k false .long) (hs : ix SH a = some (ci, ts)) (ht : ix ts k = some 1) (kk : WW M d post (pc + 3) L st (upH h a k x)) : WW M d post pc L (.inr (.inl x) :: .inr (.inr a) :: st) h := by
  intro E A p l e s m args below meth c H locs ls F hX hA hK hP hD hS hL
  obtain ⟨C, T, N, ty0, f1, f2, f3, f4, f5, f6, f7, f8, f9⟩ := hf
  rw [ix_eq] at f1
  have he := cls_at (E := E) (h := h) hs
  rw [cellE_obj f2] at he
  have hlen : k < ts.length := by rw [ix_eq] at ht; exact (List.getElem?_eq_some_iff.mp ht).1
  have e1 : (cls E h).set a (E.2.1 a, .inr (ci, (fvs E h a 0 ts).set k (.long (Int64.ofInt x)))) = cls E (upH h a k x) := by
    rw [cls_set (h' := upH h a k x) hs upH_off, cellE_obj f2, fvs_up (v := .long (Int64.ofInt x)) ht (by simp [fvv, up_s])]
  refine va_put F.1 F.2.1 F.2.2.2.2.2.2 f4 ty0 f5 f6 F.2.2.2.2.2.1 hK hP hD hS a he f1 k f3 (F.2.2.2.2.2.2 _ f7) (fun _ q => q) f8 (ty := .long) (v := .long (Int64.ofInt x)) (by rw [f5 k f3, f9]) rfl rfl (by rw [fvs_len]; exact hlen) hd (fun H1 locs1 hP1 hD1 hS1 => ?_)
  rw [e1] at hP1 hD1
  exact kk E A p l e s m args below meth c H1 locs1 ls F hX hA hK hP1 hD1 hS1 hL
theorem r_putZ {i a ci k : Nat} {x : Int} {ts : List Nat} (hd : decode M.2.1 pc = .ok (.putfield i, 3)) (hf : FLk M.1.cls i ci k false .boolean) (hs : ix SH a = some (ci, ts)) (ht : ix ts k = some 0) (hx : x = 0 ∨ x = 1) (kk : WW M d post (pc + 3) L st (upH h a k x)) : WW M d post pc L (.inl x :: .inr (.inr a) :: st) h := by
  intro E A p l e s m args below meth c H locs ls F hX hA hK hP hD hS hL
  obtain ⟨C, T, N, ty0, f1, f2, f3, f4, f5, f6, f7, f8, f9⟩ := hf
  rw [ix_eq] at f1
  have he := cls_at (E := E) (h := h) hs
  rw [cellE_obj f2] at he
  have hlen : k < ts.length := by rw [ix_eq] at ht; exact (List.getElem?_eq_some_iff.mp ht).1
  have e1 : (cls E h).set a (E.2.1 a, .inr (ci, (fvs E h a 0 ts).set k (.int (Int32.ofInt x)))) = cls E (upH h a k x) := by
    rw [cls_set (h' := upH h a k x) hs upH_off, cellE_obj f2, fvs_up (v := .int (Int32.ofInt x)) ht (by simp [fvv, up_s])]
  refine va_put F.1 F.2.1 F.2.2.2.2.2.2 f4 ty0 f5 f6 F.2.2.2.2.2.1 hK hP hD hS a he f1 k f3 (F.2.2.2.2.2.2 _ f7) (fun _ q => q) f8 (ty := .boolean) (v := .int (Int32.ofInt x)) (by rw [f5 k f3, f9]) (by rcases hx with rfl | rfl <;> rfl) (by rcases hx with rfl | rfl <;> rfl) (by rw [fvs_len]; exact hlen) hd (fun H1 locs1 hP1 hD1 hS1 => ?_)
  rw [e1] at hP1 hD1
  exact kk E A p l e s m args below meth c H1 locs1 ls F hX hA hK hP1 hD1 hS1 hL
theorem r_iald {x : Int} {a n : Nat} (hd : decode M.2.1 pc = .ok (.iaload, 1)) (hs : ix SH a = some (100, [n])) (hn : n ≤ 2147483647) (h0 : 0 ≤ x ∧ x < n) (kk : WW M d post (pc + 1) L (.inl (h a x.toNat) :: st) h) : WW M d post pc L (.inl x :: .inr (.inr a) :: st) h := by
  intro E A p l e s m args below meth c H locs ls F hX hA hK hP hD hS hL
  refine va_iald F.1 F.2.1 hK hP a 0 (cls_at (E := E) (h := h) hs) rfl (in32 h0.1 h0.2 hn) hd ?_
  rw [tn32 h0.1 (by omega)]
  exact kk E A p l e s m args below meth c H locs ls F hX hA hK hP hD hS hL
theorem r_bald {x : Int} {a n : Nat} (hd : decode M.2.1 pc = .ok (.baload, 1)) (hs : ix SH a = some (102, [n])) (hn : n ≤ 2147483647) (h0 : 0 ≤ x ∧ x < n) (kk : WW M d post (pc + 1) L (.inl (h a x.toNat) :: st) h) : WW M d post pc L (.inl x :: .inr (.inr a) :: st) h := by
  intro E A p l e s m args below meth c H locs ls F hX hA hK hP hD hS hL
  refine va_bald F.1 F.2.1 hK hP a 2 (cls_at (E := E) (h := h) hs) rfl (in32 h0.1 h0.2 hn) hd ?_
  rw [tn32 h0.1 (by omega)]
  exact kk E A p l e s m args below meth c H locs ls F hX hA hK hP hD hS hL
theorem r_zald {x : Int} {a n : Nat} (hd : decode M.2.1 pc = .ok (.baload, 1)) (hs : ix SH a = some (103, [n])) (hn : n ≤ 2147483647) (h0 : 0 ≤ x ∧ x < n) (kk : WW M d post (pc + 1) L (.inl (h a x.toNat) :: st) h) : WW M d post pc L (.inl x :: .inr (.inr a) :: st) h := by
  intro E A p l e s m args below meth c H locs ls F hX hA hK hP hD hS hL
  refine va_zald F.1 F.2.1 hK hP a 3 (cls_at (E := E) (h := h) hs) rfl (in32 h0.1 h0.2 hn) hd ?_
  rw [tn32 h0.1 (by omega)]
  exact kk E A p l e s m args below meth c H locs ls F hX hA hK hP hD hS hL
theorem r_lald {x : Int} {a n : Nat} (hd : decode M.2.1 pc = .ok (.laload, 1)) (hs : ix SH a = some (101, [n])) (hn : n ≤ 2147483647) (h0 : 0 ≤ x ∧ x < n) (kk : WW M d post (pc + 1) L (.inr (.inl (h a x.toNat)) :: st) h) : WW M d post pc L (.inl x :: .inr (.inr a) :: st) h := by
  intro E A p l e s m args below meth c H locs ls F hX hA hK hP hD hS hL
  refine va_lald F.1 F.2.1 hK hP a 1 (cls_at (E := E) (h := h) hs) rfl (in32 h0.1 h0.2 hn) hd ?_
  rw [tn32 h0.1 (by omega)]
  exact kk E A p l e s m args below meth c H locs ls F hX hA hK hP hD hS hL
theorem upd_of {h : Hp} {a k : Nat} {y : Int} : upd (fun j => Int32.ofInt (h a j)) k (Int32.ofInt y) = fun j => Int32.ofInt (upH h a k y a j) := by
  funext j
  by_cases hj : j = k
  · subst hj; simp [upd, upH]
  · simp [upd, upH, hj]
theorem updL_of {h : Hp} {a k : Nat} {y : Int} : vp_updL (fun j => Int64.ofInt (h a j)) k (Int64.ofInt y) = fun j => Int64.ofInt (upH h a k y a j) := by
  funext j
  by_cases hj : j = k
  · subst hj; simp [vp_updL, upH]
  · simp [vp_updL, upH, hj]
theorem r_iast {x y : Int} {a n : Nat} (hd : decode M.2.1 pc = .ok (.iastore, 1)) (hs : ix SH a = some (100, [n])) (hn : n ≤ 2147483647) (h0 : 0 ≤ x ∧ x < n) (kk : WW M d post (pc + 1) L st (upH h a x.toNat y)) : WW M d post pc L (.inl y :: .inl x :: .inr (.inr a) :: st) h := by
  intro E A p l e s m args below meth c H locs ls F hX hA hK hP hD hS hL
  have e1 := cls_set (E := E) (h' := upH h a x.toNat y) hs upH_off
  refine va_iast F.1 F.2.1 hK hP hD hS a 0 (cls_at (E := E) (h := h) hs) rfl (in32 h0.1 h0.2 hn) hd (fun H1 locs1 hP1 hD1 hS1 => ?_)
  rw [tn32 h0.1 (by omega)] at hP1 hD1
  rw [upd_of] at hP1 hD1
  refine kk E A p l e s m args below meth c H1 locs1 ls F hX hA hK ?_ ?_ hS1 hL
  · rw [e1]; exact hP1
  · rw [e1]; exact hD1
theorem r_bast {x y : Int} {a n : Nat} (hd : decode M.2.1 pc = .ok (.bastore, 1)) (hs : ix SH a = some (102, [n])) (hn : n ≤ 2147483647) (h0 : 0 ≤ x ∧ x < n) (hy : -128 ≤ y ∧ y ≤ 127) (kk : WW M d post (pc + 1) L st (upH h a x.toNat y)) : WW M d post pc L (.inl y :: .inl x :: .inr (.inr a) :: st) h := by
  intro E A p l e s m args below meth c H locs ls F hX hA hK hP hD hS hL
  have e1 := cls_set (E := E) (h' := upH h a x.toNat y) hs upH_off
  refine va_bast F.1 F.2.1 hK hP hD hS a 2 (cls_at (E := E) (h := h) hs) rfl (in32 h0.1 h0.2 hn) hd (fun H1 locs1 hP1 hD1 hS1 => ?_)
  rw [tn32 h0.1 (by omega)] at hP1 hD1
  have e2 : vp_nar .byte (Int32.ofInt y) = Int32.ofInt y := by
    rw [vp_nar_byte, ← Int32.toInt_inj, Int8.toInt_toInt32, Int32.toInt_ofInt_of_le (by omega) (by omega), Int32.toInt8_ofInt, Int8.toInt_ofInt_of_le (by omega) (by omega)]
  rw [e2] at hP1 hD1
  rw [upd_of] at hP1 hD1
  refine kk E A p l e s m args below meth c H1 locs1 ls F hX hA hK ?_ ?_ hS1 hL
  · rw [e1]; exact hP1
  · rw [e1]; exact hD1
theorem r_zast {x y : Int} {a n : Nat} (hd : decode M.2.1 pc = .ok (.bastore, 1)) (hs : ix SH a = some (103, [n])) (hn : n ≤ 2147483647) (h0 : 0 ≤ x ∧ x < n) (hy : y = 0 ∨ y = 1) (kk : WW M d post (pc + 1) L st (upH h a x.toNat y)) : WW M d post pc L (.inl y :: .inl x :: .inr (.inr a) :: st) h := by
  intro E A p l e s m args below meth c H locs ls F hX hA hK hP hD hS hL
  have e1 := cls_set (E := E) (h' := upH h a x.toNat y) hs upH_off
  refine va_zast F.1 F.2.1 hK hP hD hS a 3 (cls_at (E := E) (h := h) hs) rfl (in32 h0.1 h0.2 hn) hd (fun H1 locs1 hP1 hD1 hS1 => ?_)
  rw [tn32 h0.1 (by omega)] at hP1 hD1
  have e2 : vp_nar .boolean (Int32.ofInt y) = Int32.ofInt y := by rcases hy with rfl | rfl <;> rfl
  rw [e2] at hP1 hD1
  rw [upd_of] at hP1 hD1
  refine kk E A p l e s m args below meth c H1 locs1 ls F hX hA hK ?_ ?_ hS1 hL
  · rw [e1]; exact hP1
  · rw [e1]; exact hD1
theorem r_last {x y : Int} {a n : Nat} (hd : decode M.2.1 pc = .ok (.lastore, 1)) (hs : ix SH a = some (101, [n])) (hn : n ≤ 2147483647) (h0 : 0 ≤ x ∧ x < n) (kk : WW M d post (pc + 1) L st (upH h a x.toNat y)) : WW M d post pc L (.inr (.inl y) :: .inl x :: .inr (.inr a) :: st) h := by
  intro E A p l e s m args below meth c H locs ls F hX hA hK hP hD hS hL
  have e1 := cls_set (E := E) (h' := upH h a x.toNat y) hs upH_off
  refine va_last F.1 F.2.1 hK hP hD hS a 1 (cls_at (E := E) (h := h) hs) rfl (in32 h0.1 h0.2 hn) hd (fun H1 locs1 hP1 hD1 hS1 => ?_)
  rw [tn32 h0.1 (by omega)] at hP1 hD1
  rw [updL_of] at hP1 hD1
  refine kk E A p l e s m args below meth c H1 locs1 ls F hX hA hK ?_ ?_ hS1 hL
  · rw [e1]; exact hP1
  · rw [e1]; exact hD1
theorem r_alen {a n : Nat} (hd : decode M.2.1 pc = .ok (.arraylength, 1)) (hs : ix SH a = some (100, [n])) (kk : WW M d post (pc + 1) L (.inl (n : Int) :: st) h) : WW M d post pc L (.inr (.inr a) :: st) h := by
  intro E A p l e s m args below meth c H locs ls F hX hA hK hP hD hS hL
  exact va_alen F.1 F.2.1 hK hP a 0 (cls_at (E := E) (h := h) hs) rfl (v := Int32.ofInt (n : Int)) Int32.ofInt_eq_ofNat.symm hd (kk E A p l e s m args below meth c H locs ls F hX hA hK hP hD hS hL)
theorem r_tsOut {dflt lo hi : Int} {offs : Array Int} {len tgt : Nat} {x : Int} (hd : decode M.2.1 pc = .ok (.tableswitch dflt lo hi offs, len)) (hx : R32 x) (hq : x < lo ∨ hi < x) (ht : (pc : Int) + dflt = (tgt : Int)) (k : WW M d post tgt L st h) : WW M d post pc L (.inl x :: st) h := by
  intro E A p l e s m args below meth c H locs ls F hX hA hK hP hD hS hL
  exact lv_tableOut F.1 F.2.1 hd (by rw [Int32.toInt_ofInt_of_le (by omega) (by omega)]; exact hq) ht (k E A p l e s m args below meth c H locs ls F hX hA hK hP hD hS hL)
theorem r_tsIn {dflt lo hi : Int} {offs : Array Int} {len tgt : Nat} {x v off : Int} (hd : decode M.2.1 pc = .ok (.tableswitch dflt lo hi offs, len)) (hv : x = v) (hr : R32 v) (h1 : ¬ v < lo) (h2 : ¬ hi < v) (ho : offs[(v - lo).toNat]? = some off) (ht : (pc : Int) + off = (tgt : Int)) (k : WW M d post tgt L st h) : WW M d post pc L (.inl x :: st) h := by
  intro E A p l e s m args below meth c H locs ls F hX hA hK hP hD hS hL
  subst hv
  have e1 : (Int32.ofInt x).toInt = x := Int32.toInt_ofInt_of_le (by omega) (by omega)
  exact lv_tableIn F.1 F.2.1 hd (by rw [e1]; exact h1) (by rw [e1]; exact h2) (by rw [e1]; exact ho) ht (k E A p l e s m args below meth c H locs ls F hX hA hK hP hD hS hL)
theorem r_lookup {dflt : Int} {ps : Array (Int × Int)} {len tgt : Nat} {x off : Int} (hd : decode M.2.1 pc = .ok (.lookupswitch dflt ps, len)) (hp : (ps.toList.zip (ps.toList.drop 1)).all (fun (a, next) => a.1 < next.1) = true) (hx : R32 x) (ho : Op.lookupswitch.offset ps.toList dflt x = off) (ht : (pc : Int) + off = (tgt : Int)) (k : WW M d post tgt L st h) : WW M d post pc L (.inl x :: st) h := by
  intro E A p l e s m args below meth c H locs ls F hX hA hK hP hD hS hL
  exact lv_lookup F.1 F.2.1 hd hp (by rw [Int32.toInt_ofInt_of_le (by omega) (by omega)]; exact ho) ht (k E A p l e s m args below meth c H locs ls F hX hA hK hP hD hS hL)
theorem r_iret {x : Int} (hd : decode M.2.1 pc = .ok (.ireturn, 1)) (hr : M.2.2.2 = some .int) (hp : post (some (.inl x)) h) : WW M d post pc L [.inl x] h := by
  intro E A p l e s m args below meth c H locs ls F hX hA hK hP hD hS hL
  exact W.iret F.1 F.2.1 (F.2.2.2.1.trans hr) (fun t ht hW => ⟨some (.inl x), h, rfl, hp, by rw [ht]; exact hP, va_K.moved hW.alike hK, hD, hS.F ht⟩) hS.2.2 hd F.2.2.2.2.1
theorem r_zret {x : Int} (hd : decode M.2.1 pc = .ok (.ireturn, 1)) (hr : M.2.2.2 = some .boolean) (hx : x = 0 ∨ x = 1) (hp : post (some (.inl x)) h) : WW M d post pc L [.inl x] h := by
  intro E A p l e s m args below meth c H locs ls F hX hA hK hP hD hS hL
  exact W.zret F.1 F.2.1 (F.2.2.2.1.trans hr) (by rcases hx with rfl | rfl <;> rfl) (fun t ht hW => ⟨some (.inl x), h, rfl, hp, by rw [ht]; exact hP, va_K.moved hW.alike hK, hD, hS.F ht⟩) hS.2.2 hd F.2.2.2.2.1
theorem r_lret {x : Int} (hd : decode M.2.1 pc = .ok (.lreturn, 1)) (hr : M.2.2.2 = some .long) (hp : post (some (.inr (.inl x))) h) : WW M d post pc L [.inr (.inl x)] h := by
  intro E A p l e s m args below meth c H locs ls F hX hA hK hP hD hS hL
  exact W.lret F.1 F.2.1 (F.2.2.2.1.trans hr) (fun t ht hW => ⟨some (.inr (.inl x)), h, rfl, hp, by rw [ht]; exact hP, va_K.moved hW.alike hK, hD, hS.F ht⟩) hS.2.2 hd F.2.2.2.2.1
theorem r_vret (hd : decode M.2.1 pc = .ok (.return_, 1)) (hr : M.2.2.2 = none) (hp : post none h) : WW M d post pc L [] h := by
  intro E A p l e s m args below meth c H locs ls F hX hA hK hP hD hS hL
  exact W.vret F.1 F.2.1 (F.2.2.2.1.trans hr) (fun t ht hW => ⟨none, h, rfl, hp, by rw [ht]; exact hP, va_K.moved hW.alike hK, hD, hS.F ht⟩) hS.2.2 hd F.2.2.2.2.1
theorem r_nmI {x : Int} (k : ∀ v, v = x → WW M d post pc L (.inl v :: st) h) : WW M d post pc L (.inl x :: st) h := k x rfl
theorem r_nmJ {x : Int} (k : ∀ v, v = x → WW M d post pc L (.inr (.inl v) :: st) h) : WW M d post pc L (.inr (.inl x) :: st) h := k x rfl
theorem r_eqI {x y : Int} (e : x = y) (k : WW M d post pc L (.inl y :: st) h) : WW M d post pc L (.inl x :: st) h := e ▸ k
theorem r_eqJ {x y : Int} (e : x = y) (k : WW M d post pc L (.inr (.inl y) :: st) h) : WW M d post pc L (.inr (.inl x) :: st) h := e ▸ k
theorem r_eqH {h' : Hp} (e : h = h') (k : WW M d post pc L st h') : WW M d post pc L st h := e ▸ k
end
def entL : Nat → List AV → List (Option AV)
  | n, [] => List.replicate n none
  | n, .inl z :: r => some (.inl z) :: entL (n - 1) r
  | n, .inr (.inl z) :: r => some (.inr (.inl z)) :: none :: entL (n - 2) r
  | n, .inr (.inr a) :: r => some (.inr (.inr a)) :: entL (n - 1) r
theorem entL_in (E : EV) : ∀ (av : List AV) (n b i : Nat) (v : AV), ix (entL n av) i = some (some v) → (b + i, tr E v) ∈ lv_args b (av.map (tr E))
  | [], n, b, i, v, h => by
    rw [ix_eq, entL, List.getElem?_replicate] at h
    split at h <;> cases h
  | .inl z :: r, n, b, i, v, h => by
    cases i with
    | zero => cases h; exact List.mem_cons_self
    | succ i =>
      have := entL_in E r (n - 1) (b + 1) i v h
      rw [show b + 1 + i = b + (i + 1) by omega] at this
      exact List.mem_cons_of_mem _ this
  | .inr (.inl z) :: r, n, b, i, v, h => by
    match i with
    | 0 => cases h; exact List.mem_cons_self
    | 1 => cases h
    | i + 2 =>
      have := entL_in E r (n - 2) (b + 2) i v h
      rw [show b + 2 + i = b + (i + 2) by omega] at this
      exact List.mem_cons_of_mem _ this
  | .inr (.inr a) :: r, n, b, i, v, h => by
    cases i with
    | zero => cases h; exact List.mem_cons_self
    | succ i =>
      have := entL_in E r (n - 1) (b + 1) i v h
      rw [show b + 1 + i = b + (i + 1) by omega] at this
      exact List.mem_cons_of_mem _ this
def wtA : List AV → Nat
  | [] => 0
  | .inl _ :: r => 1 + wtA r
  | .inr (.inl _) :: r => 2 + wtA r
  | .inr (.inr _) :: r => 1 + wtA r
theorem wtA_eq (E : EV) : ∀ st : List AV, ((st.map (tr E)).map fun v => v.category).sum = wtA st
  | [] => rfl
  | .inl z :: r => by simp only [List.map_cons, List.sum_cons, wtA_eq E r, wtA]; rfl
  | .inr (.inl z) :: r => by simp only [List.map_cons, List.sum_cons, wtA_eq E r, wtA]; rfl
  | .inr (.inr z) :: r => by simp only [List.map_cons, List.sum_cons, wtA_eq E r, wtA]; rfl
theorem slA_len (E : EV) : ∀ av : List AV, (lg_sl (av.map (tr E))).length = wtA av
  | [] => rfl
  | .inl z :: r => by
    have := slA_len E r
    simp only [lg_sl, List.map_cons, List.flatMap_cons, List.length_append, wtA] at this ⊢
    rw [this]; rfl
  | .inr (.inl z) :: r => by
    have := slA_len E r
    simp only [lg_sl, List.map_cons, List.flatMap_cons, List.length_append, wtA] at this ⊢
    rw [this]; rfl
  | .inr (.inr z) :: r => by
    have := slA_len E r
    simp only [lg_sl, List.map_cons, List.flatMap_cons, List.length_append, wtA] at this ⊢
    rw [this]; rfl
/-- the entry of a method -/
theorem Cl.of {M : MI} {d : Nat} {av : List AV} {h : Hp} {post : Pst} {L : List (Option AV)} (hy : plainName M.1.cls = true) (hn : wtA av ≤ M.2.2.1) (hs : entL M.2.2.1 av = L) (k : WW M d post 0 L [] h) : Cl d M av h post := by
  intro E sz l
  refine Met.ofW (cc := M.2.1) (maxL := M.2.2.1) (ret := M.2.2.2) hy rfl ?_
  intro p e s m args below meth c s₁ B hml hv
  obtain ⟨rfl, hsz, hP, hK, hD0, hX⟩ := hv
  subst hsz
  have hts := atoms_spec (ws := wsM M) B.pre
  have hl := lv_entry (av.map (tr E)) (n := M.2.2.1) (by rw [slA_len]; exact hn)
  rw [lg_entry_eq]
  refine k E (va_A (cls E h) s.heap.size) p l e s m _ below meth c s.heap [] _ ⟨B.exec, B.bytes, hml, B.returns, B.notSynchronized, findClass_of_methodNamed B.named, fun w hw => hts w (List.mem_cons_of_mem _ hw)⟩ hX (fun q hq => Or.inr hq) hK hP (hD0.self) va_S.rf ⟨hl.1, hl.2.1, fun i v hi => ?_⟩
  subst hs
  have := hl.2.2 _ (entL_in E av M.2.2.1 0 i v hi)
  simpa using this
theorem wsM_good {M : MI} (h : Cond.code M.1 M.2.1 M.2.2.1 M.2.2.2 ∈ lw_g) : GoodIn lw_g (wsM M) := fun w hw => (List.mem_cons.mp hw).elim (fun e => e ▸ lw_g_good _ h) (fun h => lw_g_good w h)
theorem WLD.blind {E : EV} {h : Hp} {sz : Nat} {av : List Value} : FrameBlind (va_Pc av (WLD E h sz)) := by
  intro a U g mk q
  obtain ⟨q0, q1, qP, qK, qD, qX⟩ := q
  refine ⟨q0, q1, qP, va_K.moved (u := U) (U := U.calling g mk a) (Vm.Alike.refl U.vm) qK, qD, ?_⟩
  exact ⟨vk_S.moved (u := U) (U := U.calling g mk a) (Vm.Alike.refl U.vm) qX.1, va_Z.moved (u := U) (U := U.calling g mk a) (Vm.Alike.refl U.vm) qX.2.1, va_Zq.moved (u := U) (U := U.calling g mk a) (Vm.Alike.refl U.vm) qX.2.2.1, fun i q hq => (qX.2.2.2.1 i q hq).same (U := U.calling g mk a) rfl, fun q hq => va_Nw.same (U := U.calling g mk a) rfl rfl (qX.2.2.2.2 q hq)⟩
theorem cls_free {E : EV} {h : Hp} {A : Nat → Prop} {H0 H : Heap} {locs : List Loc} (hD : va_D A (cls E h)) (hS : va_S A H0 H locs) (hA : ∀ q, H0.size ≤ q → A q) : ∀ q, va_A (cls E h) H.size q → A q := by
  intro q hq
  rcases hq with ⟨k, e, hk⟩ | hq
  · exact hD.2 k _ hk
  · exact hA q (Nat.le_trans hS.1 hq)
theorem WLD.at {E : EV} {h : Hp} {A : Nat → Prop} {s U : State} {H : Heap} {locs : List Loc} (hX : XT E A s s.heap) (hA : ∀ q, s.heap.size ≤ q → A q) (hK : KK E s) (hP : va_P E.1 vwCl (cls E h) H) (hD : va_D A (cls E h)) (hS : va_S A s.heap H locs) (hU : U.heap = H) (hW : s.WarmedH U.vm) : WLD E h H.size U := by
  refine ⟨by rw [hU], by rw [hU]; exact hP, va_K.moved hW.alike hK, hD.weaken (fun _ _ _ _ => trivial), ?_⟩
  have := hX.call hS hW (cls_free hD hS hA)
  rw [hU]
  exact this
section
variable {p : Program} {l : Launch} {e : Env} {R : Room} {s : State} {m : MethodId} {args : Array Value} {below : List Frame} {meth : Method} {c : Code} {H : Heap} {locs : List Loc} {Q : State → Prop} {pc : Nat} {ls : Array Slot} {rest st0 : List Value} {a : Array Value}
theorem q_call {E : EV} {A A1 : Nat → Prop} {P : Pst} (hr : va_Run p l e R s m args below meth c H locs 0 0 0 0 (F0 m pc ls st0) rest (QQ E A1 P a) A1) (hS : va_S A s.heap H locs) (hA1 : ∀ q, A1 q → A q)
    (kk : ∀ (v : Option AV) (h' : Hp) (t : State) (H1 : Heap) (locs1 : List Loc), t.heap = H1 → s.vm.Alike t.vm → P v h' → va_P E.1 vwCl (cls E h') H1 → KK E t → va_D A1 (cls E h') → va_S A s.heap H1 locs1 → W p l e R s m args below meth c H1 locs1 0 0 Q (F0 m (pc + 3) ls ((v.map (tr E)).toList ++ rest))) :
    W p l e R s m args below meth c H locs 0 0 Q (F0 m pc ls st0) := by
  intro T hT X
  obtain ⟨v, st₀, t, T', L, h0, X', hL, e1, e2, ⟨v', h', hv, hp, hP1, hK1, hD1, hz, hk⟩, st⟩ := hr T hT X
  cases hv
  rw [h0] at hz hk
  obtain ⟨t2, a1, b1⟩ := kk v' h' t T'.heap (locs ++ L) e1.symm (by rw [← e2]; exact X'.warmed.alike) hp (by rw [e1]; exact hP1) hK1 hD1
    ⟨Nat.le_trans hS.1 (by rw [e1]; exact hz), fun q h1 h2 => by rw [e1, hk q (Nat.lt_of_lt_of_le h1 hS.1) (fun z => h2 (hA1 q z))]; exact hS.2.1 q h1 h2, fun q hq => by
      rcases List.mem_append.mp hq with h | h
      · exact hS.2.2 q h
      · exact hA1 _ (hL q h)⟩ T' rfl X'
  exact ⟨t2, st t2 a1, b1⟩
end
def pI (P : Int → Hp → Prop) : Pst := fun v h => ∃ r, v = some (.inl r) ∧ P r h
def pJ (P : Int → Hp → Prop) : Pst := fun v h => ∃ r, v = some (.inr (.inl r)) ∧ P r h
def pV (P : Hp → Prop) : Pst := fun v h => v = none ∧ P h
section
variable {M M' : MI} {d : Nat} {post : Pst} {pc : Nat} {L L' : List (Option AV)} {st : List AV} {h : Hp}
theorem r_callV {i a ci n : Nat} {ts : List Nat} {r : vw_C} {st0 av : List AV} (hd : decode M.2.1 pc = .ok (.invokevirtual i, 3)) (hm : MVk M' n) (hl : Cond.methodLink M.1.cls i M'.1 ∈ lw_g) (hs : ix SH a = some (ci, ts)) (hc : ci < 100) (hr : ix vwCl ci = some r) (hrc : r.1 = M'.1.cls) (hn : av.length = n) (hst : st0 = av.reverse ++ .inr (.inr a) :: st) (hw : wtA st ≤ 8)
    (k : Cl d M' (.inr (.inr a) :: av) h (fun v h' => WW M (d + 1) post (pc + 3) L (v.toList ++ st) h')) : WW M (d + 1) post pc L st0 h := by
  intro E A p l e s m args below meth c H locs ls F hX hA hK hP hD hS hL
  obtain ⟨m1, m2, m3, m4, m5, m6⟩ := hm
  have hts := F.2.2.2.2.2.2
  have he := cls_at (E := E) (h := h) hs
  rw [cellE_obj hc] at he
  have hrv := va_recv hK hP (by rw [ix_eq] at hr; exact hr) he
  rw [hrc] at hrv
  have hF := cls_free hD hS hA
  have cb : CallB (rmD (d + 1)) s args M.1.cls i M'.1 M'.2.1 M'.2.2.1 M'.2.2.2 (wsM M') (rmD d) 0 0 n := callB_of n hts (wsM_good m4) rfl rfl rfl (hts _ m3) (hts _ hl) m5 ⟨Nat.le_refl _, by show 8 + (M'.2.2.1 + 11) + 100 * d ≤ 100 * (d + 1); omega⟩
  refine q_call (A1 := va_A (cls E h) H.size) (va_runV (As := av.map (tr E)) (rest := st.map (tr E)) (b := E.2.1 a) ⟨F.1, F.2.1, F.2.2.1, F.2.2.2.2.2.1, hts⟩ (k E H.size l) ⟨cb, hts _ m1, hts _ m2⟩ ⟨WLD.blind, hrv, fun U hU hW => ⟨rfl, WLD.at hX hA hK hP hD hS hU hW⟩⟩ rfl (by simpa using hn) hL.1 (by subst hst; simp [List.map_reverse]; rfl) (lv_room (by rw [wtA_eq]; exact hw)) hd ⟨Nat.zero_le _, Nat.zero_le _⟩) hS hF
    (fun v h' t H1 locs1 ht hvm hp hP1 hK1 hD1 hS1 => ?_)
  have := hp E A p l e s m args below meth c H1 locs1 ls F hX hA (va_K.moved hvm.symm hK1) hP1 (hD1.weaken (fun _ q _ z => hF q.1 z)) hS1 hL
  cases v with
  | none => exact this
  | some v => exact this
theorem r_callS {i n : Nat} {st0 av : List AV} (hd : decode M.2.1 pc = .ok (.invokestatic i, 3)) (hm : MSk M' n) (hl : Cond.methodLink M.1.cls i M'.1 ∈ lw_g) (hn : av.length = n) (hst : st0 = av.reverse ++ st) (hw : wtA st ≤ 8)
    (k : Cl d M' av h (fun v h' => WW M (d + 1) post (pc + 3) L (v.toList ++ st) h')) : WW M (d + 1) post pc L st0 h := by
  intro E A p l e s m args below meth c H locs ls F hX hA hK hP hD hS hL
  obtain ⟨m1, m3, m4, m5, m6⟩ := hm
  have hts := F.2.2.2.2.2.2
  have hF := cls_free hD hS hA
  have cb : CallB (rmD (d + 1)) s args M.1.cls i M'.1 M'.2.1 M'.2.2.1 M'.2.2.2 (wsM M') (rmD d) 0 0 n := callB_of n hts (wsM_good m4) rfl rfl rfl (hts _ m3) (hts _ hl) m5 ⟨Nat.le_refl _, by show 8 + (M'.2.2.1 + 11) + 100 * d ≤ 100 * (d + 1); omega⟩
  refine q_call (A1 := va_A (cls E h) H.size) (va_runS (As := av.map (tr E)) (rest := st.map (tr E)) ⟨F.1, F.2.1, F.2.2.1, F.2.2.2.2.2.1, hts⟩ (k E H.size l) ⟨cb, hts _ m1⟩ ⟨WLD.blind, fun U hU hW => ⟨rfl, WLD.at hX hA hK hP hD hS hU hW⟩⟩ rfl (by simpa using hn) hL.1 (by subst hst; simp [List.map_reverse]) (lv_room (by rw [wtA_eq]; exact hw)) hd ⟨Nat.zero_le _, Nat.zero_le _⟩) hS hF
    (fun v h' t H1 locs1 ht hvm hp hP1 hK1 hD1 hS1 => ?_)
  have := hp E A p l e s m args below meth c H1 locs1 ls F hX hA (va_K.moved hvm.symm hK1) hP1 (hD1.weaken (fun _ q _ z => hF q.1 z)) hS1 hL
  cases v with
  | none => exact this
  | some v => exact this
theorem r_callN {i n : Nat} {st0 av : List AV} (hd : decode M.2.1 pc = .ok (.invokestatic i, 3)) (hm : MSk M' n) (hl : (M.1.cls, i, M'.1) ∈ nestL) (hn : av.length = n) (hst : st0 = av.reverse ++ st) (hw : wtA st ≤ 8)
    (k : Cl d M' av h (fun v h' => WW M (d + 1) post (pc + 3) L (v.toList ++ st) h')) : WW M (d + 1) post pc L st0 h := by
  intro E A p l e s m args below meth c H locs ls F hX hA hK hP hD hS hL
  obtain ⟨m1, m3, m4, m5, m6⟩ := hm
  have hts := F.2.2.2.2.2.2
  have hF := cls_free hD hS hA
  have cb : va_CN (rmD (d + 1)) s args M.1.cls i M'.1 "CordPens" M'.2.1 M'.2.2.1 M'.2.2.2 (wsM M') (rmD d) 0 0 n := va_cnB n hts (wsM_good m4) rfl rfl rfl (hX.2.2.2.2 _ hl) (hts _ m3) m5 ⟨Nat.le_refl _, by show 8 + (M'.2.2.1 + 11) + 100 * d ≤ 100 * (d + 1); omega⟩
  refine q_call (A1 := va_A (cls E h) H.size) (va_runSN (As := av.map (tr E)) (rest := st.map (tr E)) ⟨F.1, F.2.1, F.2.2.1, F.2.2.2.2.2.1, hts⟩ (k E H.size l) ⟨cb, hts _ m1, trivial⟩ ⟨WLD.blind, fun U hU hW => ⟨rfl, WLD.at hX hA hK hP hD hS hU hW⟩⟩ rfl (by simpa using hn) hL.1 (by subst hst; simp [List.map_reverse]) (lv_room (by rw [wtA_eq]; exact hw)) hd ⟨Nat.zero_le _, Nat.zero_le _⟩) hS hF
    (fun v h' t H1 locs1 ht hvm hp hP1 hK1 hD1 hS1 => ?_)
  have := hp E A p l e s m args below meth c H1 locs1 ls F hX hA (va_K.moved hvm.symm hK1) hP1 (hD1.weaken (fun _ q _ z => hF q.1 z)) hS1 hL
  cases v with
  | none => exact this
  | some v => exact this
theorem r_callVI {i a ci n : Nat} {ts : List Nat} {r : vw_C} {st0 av : List AV} (hd : decode M.2.1 pc = .ok (.invokevirtual i, 3)) (hm : MVk M' n) (hl : Cond.methodLink M.1.cls i M'.1 ∈ lw_g) (hs : ix SH a = some (ci, ts)) (hc : ci < 100) (hr : ix vwCl ci = some r) (hrc : r.1 = M'.1.cls) (hn : av.length = n) (hst : st0 = av.reverse ++ .inr (.inr a) :: st) (hw : wtA st ≤ 8)
    (k : Cl d M' (.inr (.inr a) :: av) h (pI fun r h' => WW M (d + 1) post (pc + 3) L (.inl r :: st) h')) : WW M (d + 1) post pc L st0 h := by
  intro E A p l e s m args below meth c H locs ls F hX hA hK hP hD hS hL
  obtain ⟨m1, m2, m3, m4, m5, m6⟩ := hm
  have hts := F.2.2.2.2.2.2
  have he := cls_at (E := E) (h := h) hs
  rw [cellE_obj hc] at he
  have hrv := va_recv hK hP (by rw [ix_eq] at hr; exact hr) he
  rw [hrc] at hrv
  have hF := cls_free hD hS hA
  have cb : CallB (rmD (d + 1)) s args M.1.cls i M'.1 M'.2.1 M'.2.2.1 M'.2.2.2 (wsM M') (rmD d) 0 0 n := callB_of n hts (wsM_good m4) rfl rfl rfl (hts _ m3) (hts _ hl) m5 ⟨Nat.le_refl _, by show 8 + (M'.2.2.1 + 11) + 100 * d ≤ 100 * (d + 1); omega⟩
  refine q_call (A1 := va_A (cls E h) H.size) (va_runV (As := av.map (tr E)) (rest := st.map (tr E)) (b := E.2.1 a) ⟨F.1, F.2.1, F.2.2.1, F.2.2.2.2.2.1, hts⟩ (k E H.size l) ⟨cb, hts _ m1, hts _ m2⟩ ⟨WLD.blind, hrv, fun U hU hW => ⟨rfl, WLD.at hX hA hK hP hD hS hU hW⟩⟩ rfl (by simpa using hn) hL.1 (by subst hst; simp [List.map_reverse]; rfl) (lv_room (by rw [wtA_eq]; exact hw)) hd ⟨Nat.zero_le _, Nat.zero_le _⟩) hS hF
    (fun v h' t H1 locs1 ht hvm hp hP1 hK1 hD1 hS1 => ?_)
  obtain ⟨r, rfl, hp⟩ := hp
  exact hp E A p l e s m args below meth c H1 locs1 ls F hX hA (va_K.moved hvm.symm hK1) hP1 (hD1.weaken (fun _ q _ z => hF q.1 z)) hS1 hL
theorem r_callSI {i n : Nat} {st0 av : List AV} (hd : decode M.2.1 pc = .ok (.invokestatic i, 3)) (hm : MSk M' n) (hl : Cond.methodLink M.1.cls i M'.1 ∈ lw_g) (hn : av.length = n) (hst : st0 = av.reverse ++ st) (hw : wtA st ≤ 8)
    (k : Cl d M' av h (pI fun r h' => WW M (d + 1) post (pc + 3) L (.inl r :: st) h')) : WW M (d + 1) post pc L st0 h := by
  intro E A p l e s m args below meth c H locs ls F hX hA hK hP hD hS hL
  obtain ⟨m1, m3, m4, m5, m6⟩ := hm
  have hts := F.2.2.2.2.2.2
  have hF := cls_free hD hS hA
  have cb : CallB (rmD (d + 1)) s args M.1.cls i M'.1 M'.2.1 M'.2.2.1 M'.2.2.2 (wsM M') (rmD d) 0 0 n := callB_of n hts (wsM_good m4) rfl rfl rfl (hts _ m3) (hts _ hl) m5 ⟨Nat.le_refl _, by show 8 + (M'.2.2.1 + 11) + 100 * d ≤ 100 * (d + 1); omega⟩
  refine q_call (A1 := va_A (cls E h) H.size) (va_runS (As := av.map (tr E)) (rest := st.map (tr E)) ⟨F.1, F.2.1, F.2.2.1, F.2.2.2.2.2.1, hts⟩ (k E H.size l) ⟨cb, hts _ m1⟩ ⟨WLD.blind, fun U hU hW => ⟨rfl, WLD.at hX hA hK hP hD hS hU hW⟩⟩ rfl (by simpa using hn) hL.1 (by subst hst; simp [List.map_reverse]) (lv_room (by rw [wtA_eq]; exact hw)) hd ⟨Nat.zero_le _, Nat.zero_le _⟩) hS hF
    (fun v h' t H1 locs1 ht hvm hp hP1 hK1 hD1 hS1 => ?_)
  obtain ⟨r, rfl, hp⟩ := hp
  exact hp E A p l e s m args below meth c H1 locs1 ls F hX hA (va_K.moved hvm.symm hK1) hP1 (hD1.weaken (fun _ q _ z => hF q.1 z)) hS1 hL
theorem r_callNI {i n : Nat} {st0 av : List AV} (hd : decode M.2.1 pc = .ok (.invokestatic i, 3)) (hm : MSk M' n) (hl : (M.1.cls, i, M'.1) ∈ nestL) (hn : av.length = n) (hst : st0 = av.reverse ++ st) (hw : wtA st ≤ 8)
    (k : Cl d M' av h (pI fun r h' => WW M (d + 1) post (pc + 3) L (.inl r :: st) h')) : WW M (d + 1) post pc L st0 h := by
  intro E A p l e s m args below meth c H locs ls F hX hA hK hP hD hS hL
  obtain ⟨m1, m3, m4, m5, m6⟩ := hm
  have hts := F.2.2.2.2.2.2
  have hF := cls_free hD hS hA
  have cb : va_CN (rmD (d + 1)) s args M.1.cls i M'.1 "CordPens" M'.2.1 M'.2.2.1 M'.2.2.2 (wsM M') (rmD d) 0 0 n := va_cnB n hts (wsM_good m4) rfl rfl rfl (hX.2.2.2.2 _ hl) (hts _ m3) m5 ⟨Nat.le_refl _, by show 8 + (M'.2.2.1 + 11) + 100 * d ≤ 100 * (d + 1); omega⟩
  refine q_call (A1 := va_A (cls E h) H.size) (va_runSN (As := av.map (tr E)) (rest := st.map (tr E)) ⟨F.1, F.2.1, F.2.2.1, F.2.2.2.2.2.1, hts⟩ (k E H.size l) ⟨cb, hts _ m1, trivial⟩ ⟨WLD.blind, fun U hU hW => ⟨rfl, WLD.at hX hA hK hP hD hS hU hW⟩⟩ rfl (by simpa using hn) hL.1 (by subst hst; simp [List.map_reverse]) (lv_room (by rw [wtA_eq]; exact hw)) hd ⟨Nat.zero_le _, Nat.zero_le _⟩) hS hF
    (fun v h' t H1 locs1 ht hvm hp hP1 hK1 hD1 hS1 => ?_)
  obtain ⟨r, rfl, hp⟩ := hp
  exact hp E A p l e s m args below meth c H1 locs1 ls F hX hA (va_K.moved hvm.symm hK1) hP1 (hD1.weaken (fun _ q _ z => hF q.1 z)) hS1 hL
theorem r_callVJ {i a ci n : Nat} {ts : List Nat} {r : vw_C} {st0 av : List AV} (hd : decode M.2.1 pc = .ok (.invokevirtual i, 3)) (hm : MVk M' n) (hl : Cond.methodLink M.1.cls i M'.1 ∈ lw_g) (hs : ix SH a = some (ci, ts)) (hc : ci < 100) (hr : ix vwCl ci = some r) (hrc : r.1 = M'.1.cls) (hn : av.length = n) (hst : st0 = av.reverse ++ .inr (.inr a) :: st) (hw : wtA st ≤ 8)
    (k : Cl d M' (.inr (.inr a) :: av) h (pJ fun r h' => WW M (d + 1) post (pc + 3) L (.inr (.inl r) :: st) h')) : WW M (d + 1) post pc L st0 h := by
  intro E A p l e s m args below meth c H locs ls F hX hA hK hP hD hS hL
  obtain ⟨m1, m2, m3, m4, m5, m6⟩ := hm
  have hts := F.2.2.2.2.2.2
  have he := cls_at (E := E) (h := h) hs
  rw [cellE_obj hc] at he
  have hrv := va_recv hK hP (by rw [ix_eq] at hr; exact hr) he
  rw [hrc] at hrv
  have hF := cls_free hD hS hA
  have cb : CallB (rmD (d + 1)) s args M.1.cls i M'.1 M'.2.1 M'.2.2.1 M'.2.2.2 (wsM M') (rmD d) 0 0 n := callB_of n hts (wsM_good m4) rfl rfl rfl (hts _ m3) (hts _ hl) m5 ⟨Nat.le_refl _, by show 8 + (M'.2.2.1 + 11) + 100 * d ≤ 100 * (d + 1); omega⟩
  refine q_call (A1 := va_A (cls E h) H.size) (va_runV (As := av.map (tr E)) (rest := st.map (tr E)) (b := E.2.1 a) ⟨F.1, F.2.1, F.2.2.1, F.2.2.2.2.2.1, hts⟩ (k E H.size l) ⟨cb, hts _ m1, hts _ m2⟩ ⟨WLD.blind, hrv, fun U hU hW => ⟨rfl, WLD.at hX hA hK hP hD hS hU hW⟩⟩ rfl (by simpa using hn) hL.1 (by subst hst; simp [List.map_reverse]; rfl) (lv_room (by rw [wtA_eq]; exact hw)) hd ⟨Nat.zero_le _, Nat.zero_le _⟩) hS hF
    (fun v h' t H1 locs1 ht hvm hp hP1 hK1 hD1 hS1 => ?_)
  obtain ⟨r, rfl, hp⟩ := hp
  exact hp E A p l e s m args below meth c H1 locs1 ls F hX hA (va_K.moved hvm.symm hK1) hP1 (hD1.weaken (fun _ q _ z => hF q.1 z)) hS1 hL
theorem r_callSJ {i n : Nat} {st0 av : List AV} (hd : decode M.2.1 pc = .ok (.invokestatic i, 3)) (hm : MSk M' n) (hl : Cond.methodLink M.1.cls i M'.1 ∈ lw_g) (hn : av.length = n) (hst : st0 = av.reverse ++ st) (hw : wtA st ≤ 8)
    (k : Cl d M' av h (pJ fun r h' => WW M (d + 1) post (pc + 3) L (.inr (.inl r) :: st) h')) : WW M (d + 1) post pc L st0 h := by
  intro E A p l e s m args below meth c H locs ls F hX hA hK hP hD hS hL
  obtain ⟨m1, m3, m4, m5, m6⟩ := hm
  have hts := F.2.2.2.2.2.2
  have hF := cls_free hD hS hA
  have cb : CallB (rmD (d + 1)) s args M.1.cls i M'.1 M'.2.1 M'.2.2.1 M'.2.2.2 (wsM M') (rmD d) 0 0 n := callB_of n hts (wsM_good m4) rfl rfl rfl (hts _ m3) (hts _ hl) m5 ⟨Nat.le_refl _, by show 8 + (M'.2.2.1 + 11) + 100 * d ≤ 100 * (d + 1); omega⟩
  refine q_call (A1 := va_A (cls E h) H.size) (va_runS (As := av.map (tr E)) (rest := st.map (tr E)) ⟨F.1, F.2.1, F.2.2.1, F.2.2.2.2.2.1, hts⟩ (k E H.size l) ⟨cb, hts _ m1⟩ ⟨WLD.blind, fun U hU hW => ⟨rfl, WLD.at hX hA hK hP hD hS hU hW⟩⟩ rfl (by simpa using hn) hL.1 (by subst hst; simp [List.map_reverse]) (lv_room (by rw [wtA_eq]; exact hw)) hd ⟨Nat.zero_le _, Nat.zero_le _⟩) hS hF
    (fun v h' t H1 locs1 ht hvm hp hP1 hK1 hD1 hS1 => ?_)
  obtain ⟨r, rfl, hp⟩ := hp
  exact hp E A p l e s m args below meth c H1 locs1 ls F hX hA (va_K.moved hvm.symm hK1) hP1 (hD1.weaken (fun _ q _ z => hF q.1 z)) hS1 hL
theorem r_callNJ {i n : Nat} {st0 av : List AV} (hd : decode M.2.1 pc = .ok (.invokestatic i, 3)) (hm : MSk M' n) (hl : (M.1.cls, i, M'.1) ∈ nestL) (hn : av.length = n) (hst : st0 = av.reverse ++ st) (hw : wtA st ≤ 8)
    (k : Cl d M' av h (pJ fun r h' => WW M (d + 1) post (pc + 3) L (.inr (.inl r) :: st) h')) : WW M (d + 1) post pc L st0 h := by
  intro E A p l e s m args below meth c H locs ls F hX hA hK hP hD hS hL
  obtain ⟨m1, m3, m4, m5, m6⟩ := hm
  have hts := F.2.2.2.2.2.2
  have hF := cls_free hD hS hA
  have cb : va_CN (rmD (d + 1)) s args M.1.cls i M'.1 "CordPens" M'.2.1 M'.2.2.1 M'.2.2.2 (wsM M') (rmD d) 0 0 n := va_cnB n hts (wsM_good m4) rfl rfl rfl (hX.2.2.2.2 _ hl) (hts _ m3) m5 ⟨Nat.le_refl _, by show 8 + (M'.2.2.1 + 11) + 100 * d ≤ 100 * (d + 1); omega⟩
  refine q_call (A1 := va_A (cls E h) H.size) (va_runSN (As := av.map (tr E)) (rest := st.map (tr E)) ⟨F.1, F.2.1, F.2.2.1, F.2.2.2.2.2.1, hts⟩ (k E H.size l) ⟨cb, hts _ m1, trivial⟩ ⟨WLD.blind, fun U hU hW => ⟨rfl, WLD.at hX hA hK hP hD hS hU hW⟩⟩ rfl (by simpa using hn) hL.1 (by subst hst; simp [List.map_reverse]) (lv_room (by rw [wtA_eq]; exact hw)) hd ⟨Nat.zero_le _, Nat.zero_le _⟩) hS hF
    (fun v h' t H1 locs1 ht hvm hp hP1 hK1 hD1 hS1 => ?_)
  obtain ⟨r, rfl, hp⟩ := hp
  exact hp E A p l e s m args below meth c H1 locs1 ls F hX hA (va_K.moved hvm.symm hK1) hP1 (hD1.weaken (fun _ q _ z => hF q.1 z)) hS1 hL
theorem r_callVU {i a ci n : Nat} {ts : List Nat} {r : vw_C} {st0 av : List AV} (hd : decode M.2.1 pc = .ok (.invokevirtual i, 3)) (hm : MVk M' n) (hl : Cond.methodLink M.1.cls i M'.1 ∈ lw_g) (hs : ix SH a = some (ci, ts)) (hc : ci < 100) (hr : ix vwCl ci = some r) (hrc : r.1 = M'.1.cls) (hn : av.length = n) (hst : st0 = av.reverse ++ .inr (.inr a) :: st) (hw : wtA st ≤ 8)
    (k : Cl d M' (.inr (.inr a) :: av) h (pV fun h' => WW M (d + 1) post (pc + 3) L st h')) : WW M (d + 1) post pc L st0 h := by
  intro E A p l e s m args below meth c H locs ls F hX hA hK hP hD hS hL
  obtain ⟨m1, m2, m3, m4, m5, m6⟩ := hm
  have hts := F.2.2.2.2.2.2
  have he := cls_at (E := E) (h := h) hs
  rw [cellE_obj hc] at he
  have hrv := va_recv hK hP (by rw [ix_eq] at hr; exact hr) he
  rw [hrc] at hrv
  have hF := cls_free hD hS hA
  have cb : CallB (rmD (d + 1)) s args M.1.cls i M'.1 M'.2.1 M'.2.2.1 M'.2.2.2 (wsM M') (rmD d) 0 0 n := callB_of n hts (wsM_good m4) rfl rfl rfl (hts _ m3) (hts _ hl) m5 ⟨Nat.le_refl _, by show 8 + (M'.2.2.1 + 11) + 100 * d ≤ 100 * (d + 1); omega⟩
  refine q_call (A1 := va_A (cls E h) H.size) (va_runV (As := av.map (tr E)) (rest := st.map (tr E)) (b := E.2.1 a) ⟨F.1, F.2.1, F.2.2.1, F.2.2.2.2.2.1, hts⟩ (k E H.size l) ⟨cb, hts _ m1, hts _ m2⟩ ⟨WLD.blind, hrv, fun U hU hW => ⟨rfl, WLD.at hX hA hK hP hD hS hU hW⟩⟩ rfl (by simpa using hn) hL.1 (by subst hst; simp [List.map_reverse]; rfl) (lv_room (by rw [wtA_eq]; exact hw)) hd ⟨Nat.zero_le _, Nat.zero_le _⟩) hS hF
    (fun v h' t H1 locs1 ht hvm hp hP1 hK1 hD1 hS1 => ?_)
  obtain ⟨rfl, hp⟩ := hp
  exact hp E A p l e s m args below meth c H1 locs1 ls F hX hA (va_K.moved hvm.symm hK1) hP1 (hD1.weaken (fun _ q _ z => hF q.1 z)) hS1 hL
theorem r_callSU {i n : Nat} {st0 av : List AV} (hd : decode M.2.1 pc = .ok (.invokestatic i, 3)) (hm : MSk M' n) (hl : Cond.methodLink M.1.cls i M'.1 ∈ lw_g) (hn : av.length = n) (hst : st0 = av.reverse ++ st) (hw : wtA st ≤ 8)
    (k : Cl d M' av h (pV fun h' => WW M (d + 1) post (pc + 3) L st h')) : WW M (d + 1) post pc L st0 h := by
  intro E A p l e s m args below meth c H locs ls F hX hA hK hP hD hS hL
  obtain ⟨m1, m3, m4, m5, m6⟩ := hm
  have hts := F.2.2.2.2.2.2
  have hF := cls_free hD hS hA
  have cb : CallB (rmD (d + 1)) s args M.1.cls i M'.1 M'.2.1 M'.2.2.1 M'.2.2.2 (wsM M') (rmD d) 0 0 n := callB_of n hts (wsM_good m4) rfl rfl rfl (hts _ m3) (hts _ hl) m5 ⟨Nat.le_refl _, by show 8 + (M'.2.2.1 + 11) + 100 * d ≤ 100 * (d + 1); omega⟩
  refine q_call (A1 := va_A (cls E h) H.size) (va_runS (As := av.map (tr E)) (rest := st.map (tr E)) ⟨F.1, F.2.1, F.2.2.1, F.2.2.2.2.2.1, hts⟩ (k E H.size l) ⟨cb, hts _ m1⟩ ⟨WLD.blind, fun U hU hW => ⟨rfl, WLD.at hX hA hK hP hD hS hU hW⟩⟩ rfl (by simpa using hn) hL.1 (by subst hst; simp [List.map_reverse]) (lv_room (by rw [wtA_eq]; exact hw)) hd ⟨Nat.zero_le _, Nat.zero_le _⟩) hS hF
    (fun v h' t H1 locs1 ht hvm hp hP1 hK1 hD1 hS1 => ?_)
  obtain ⟨rfl, hp⟩ := hp
  exact hp E A p l e s m args below meth c H1 locs1 ls F hX hA (va_K.moved hvm.symm hK1) hP1 (hD1.weaken (fun _ q _ z => hF q.1 z)) hS1 hL
theorem r_callNU {i n : Nat} {st0 av : List AV} (hd : decode M.2.1 pc = .ok (.invokestatic i, 3)) (hm : MSk M' n) (hl : (M.1.cls, i, M'.1) ∈ nestL) (hn : av.length = n) (hst : st0 = av.reverse ++ st) (hw : wtA st ≤ 8)
    (k : Cl d M' av h (pV fun h' => WW M (d + 1) post (pc + 3) L st h')) : WW M (d + 1) post pc L st0 h := by
  intro E A p l e s m args below meth c H locs ls F hX hA hK hP hD hS hL
  obtain ⟨m1, m3, m4, m5, m6⟩ := hm
  have hts := F.2.2.2.2.2.2
  have hF := cls_free hD hS hA
  have cb : va_CN (rmD (d + 1)) s args M.1.cls i M'.1 "CordPens" M'.2.1 M'.2.2.1 M'.2.2.2 (wsM M') (rmD d) 0 0 n := va_cnB n hts (wsM_good m4) rfl rfl rfl (hX.2.2.2.2 _ hl) (hts _ m3) m5 ⟨Nat.le_refl _, by show 8 + (M'.2.2.1 + 11) + 100 * d ≤ 100 * (d + 1); omega⟩
  refine q_call (A1 := va_A (cls E h) H.size) (va_runSN (As := av.map (tr E)) (rest := st.map (tr E)) ⟨F.1, F.2.1, F.2.2.1, F.2.2.2.2.2.1, hts⟩ (k E H.size l) ⟨cb, hts _ m1, trivial⟩ ⟨WLD.blind, fun U hU hW => ⟨rfl, WLD.at hX hA hK hP hD hS hU hW⟩⟩ rfl (by simpa using hn) hL.1 (by subst hst; simp [List.map_reverse]) (lv_room (by rw [wtA_eq]; exact hw)) hd ⟨Nat.zero_le _, Nat.zero_le _⟩) hS hF
    (fun v h' t H1 locs1 ht hvm hp hP1 hK1 hD1 hS1 => ?_)
  obtain ⟨rfl, hp⟩ := hp
  exact hp E A p l e s m args below meth c H1 locs1 ls F hX hA (va_K.moved hvm.symm hK1) hP1 (hD1.weaken (fun _ q _ z => hF q.1 z)) hS1 hL
end
