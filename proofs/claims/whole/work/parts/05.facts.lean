/-! BASE: the words that a callee may use, a method's data, a field's, an instance method's, a static one's facts -/
abbrev MI : Type := MethodName × ByteArray × Nat × Option FieldType
def ix {α : Type} : List α → Nat → Option α
  | [], _ => none
  | a :: _, 0 => some a
  | _ :: l, n + 1 => ix l n
theorem ix_eq {α : Type} : ∀ (l : List α) (n : Nat), ix l n = l[n]?
  | [], _ => by simp [ix]
  | a :: l, 0 => by simp [ix]
  | a :: l, n + 1 => by simp [ix, ix_eq l n]
def lw_g : List Cond := lw_tbl.filter goodWord
theorem lw_g_good : GoodIn lw_g lw_g := fun w h => ⟨h, good_of_word (List.mem_filter.mp h).2⟩
theorem in_g {w : Cond} (h : w ∈ lw_tbl) (g : goodWord w = true) : w ∈ lw_g := List.mem_filter.mpr ⟨h, g⟩
/-- a field as an instruction of the class own names it -/
def FLk (own : String) (i ci k : Nat) (fin : Bool) (ty : FieldType) : Prop :=
  ∃ (C : String) (T : u_T) (N : Nat) (ty0 : Nat → FieldType), ix vwCl ci = some (C, T, N) ∧ ci < 100 ∧ k < N ∧ (∀ w ∈ u_ws C T N, w ∈ lw_g) ∧ (∀ k, k < N → parseFieldDescriptor (T k).2.2.1 = some (ty0 k)) ∧ (∀ a, a < N → ∀ b, b < N → a ≠ b → (T a).2.1 ≠ (T b).2.1) ∧
    Cond.fieldLink own i (T k).1 (T k).2.1 (T k).2.2.1 ∈ lw_g ∧ (T k).2.2.2 = fin ∧ ty0 k = ty
/-- what the tables say of an instance method, of a static one -/
def MVk (M : MI) (n : Nat) : Prop := Cond.instanceMethod M.1 ∈ lw_g ∧ Cond.selects M.1.cls M.1 M.1 ∈ lw_g ∧ Cond.initialized M.1.cls ∈ lw_g ∧ Cond.code M.1 M.2.1 M.2.2.1 M.2.2.2 ∈ lw_g ∧ (M.1.cls ≠ "java/lang/invoke/MethodHandle" ∧ M.1.cls ≠ "java/lang/invoke/VarHandle" ∧ (parseMethodDescriptor M.1.desc).map (fun d => d.parameters.length) = some n) ∧ M.2.2.1 ≤ 60
def MSk (M : MI) (n : Nat) : Prop := Cond.static M.1 ∈ lw_g ∧ Cond.initialized M.1.cls ∈ lw_g ∧ Cond.code M.1 M.2.1 M.2.2.1 M.2.2.2 ∈ lw_g ∧ (M.1.cls ≠ "java/lang/invoke/MethodHandle" ∧ M.1.cls ≠ "java/lang/invoke/VarHandle" ∧ (parseMethodDescriptor M.1.desc).map (fun d => d.parameters.length) = some n) ∧ M.2.2.1 ≤ 60

/-! FACTS out of the tables: fields, methods, calls, constants -/
theorem lay_X0 : ∀ w ∈ wsX00, w ∈ lw_g := by
  have e : wsX00 = ([448, 450, 452, 454, 456, 458, 460, 462, 464, 466, 468] : List Nat).filterMap (fun i => lw_tbl[i]?) := by decide +kernel
  have g : wsX00.all goodWord = true := by decide +kernel
  intro w hw
  refine in_g ?_ (List.all_eq_true.mp g w hw)
  rw [e] at hw
  obtain ⟨i, -, hi⟩ := List.mem_filterMap.mp hw
  exact List.mem_of_getElem? hi
theorem lay_X1 : ∀ w ∈ wsX10, w ∈ lw_g := by
  have e : wsX10 = ([491, 493, 495, 497, 499, 501, 503, 505, 507, 509] : List Nat).filterMap (fun i => lw_tbl[i]?) := by decide +kernel
  have g : wsX10.all goodWord = true := by decide +kernel
  intro w hw
  refine in_g ?_ (List.all_eq_true.mp g w hw)
  rw [e] at hw
  obtain ⟨i, -, hi⟩ := List.mem_filterMap.mp hw
  exact List.mem_of_getElem? hi
theorem lay_X2 : ∀ w ∈ wsX20, w ∈ lw_g := by
  have e : wsX20 = ([338, 340, 342, 344, 346, 348, 350, 352] : List Nat).filterMap (fun i => lw_tbl[i]?) := by decide +kernel
  have g : wsX20.all goodWord = true := by decide +kernel
  intro w hw
  refine in_g ?_ (List.all_eq_true.mp g w hw)
  rw [e] at hw
  obtain ⟨i, -, hi⟩ := List.mem_filterMap.mp hw
  exact List.mem_of_getElem? hi
theorem lay_X3 : ∀ w ∈ wsX30, w ∈ lw_g := by
  have e : wsX30 = ([289, 291, 293, 295, 297, 299] : List Nat).filterMap (fun i => lw_tbl[i]?) := by decide +kernel
  have g : wsX30.all goodWord = true := by decide +kernel
  intro w hw
  refine in_g ?_ (List.all_eq_true.mp g w hw)
  rw [e] at hw
  obtain ⟨i, -, hi⟩ := List.mem_filterMap.mp hw
  exact List.mem_of_getElem? hi
theorem lay_X4 : ∀ w ∈ wsX40, w ∈ lw_g := by
  have e : wsX40 = ([528, 530, 532, 534, 536, 538] : List Nat).filterMap (fun i => lw_tbl[i]?) := by decide +kernel
  have g : wsX40.all goodWord = true := by decide +kernel
  intro w hw
  refine in_g ?_ (List.all_eq_true.mp g w hw)
  rw [e] at hw
  obtain ⟨i, -, hi⟩ := List.mem_filterMap.mp hw
  exact List.mem_of_getElem? hi
theorem lay_X5 : ∀ w ∈ wsX50, w ∈ lw_g := by
  have e : wsX50 = ([374, 376, 378, 380, 382, 384, 386, 388, 390, 392, 394, 396] : List Nat).filterMap (fun i => lw_tbl[i]?) := by decide +kernel
  have g : wsX50.all goodWord = true := by decide +kernel
  intro w hw
  refine in_g ?_ (List.all_eq_true.mp g w hw)
  rw [e] at hw
  obtain ⟨i, -, hi⟩ := List.mem_filterMap.mp hw
  exact List.mem_of_getElem? hi
theorem lay_X6 : ∀ w ∈ wsX60, w ∈ lw_g := by
  have e : wsX60 = ([556, 558, 560, 562, 564] : List Nat).filterMap (fun i => lw_tbl[i]?) := by decide +kernel
  have g : wsX60.all goodWord = true := by decide +kernel
  intro w hw
  refine in_g ?_ (List.all_eq_true.mp g w hw)
  rw [e] at hw
  obtain ⟨i, -, hi⟩ := List.mem_filterMap.mp hw
  exact List.mem_of_getElem? hi
theorem lay_X7 : ∀ w ∈ wsX70, w ∈ lw_g := by
  have e : wsX70 = ([251, 253, 255, 257, 259, 261, 263, 265, 267, 269, 271] : List Nat).filterMap (fun i => lw_tbl[i]?) := by decide +kernel
  have g : wsX70.all goodWord = true := by decide +kernel
  intro w hw
  refine in_g ?_ (List.all_eq_true.mp g w hw)
  rw [e] at hw
  obtain ⟨i, -, hi⟩ := List.mem_filterMap.mp hw
  exact List.mem_of_getElem? hi
theorem lay_X8 : ∀ w ∈ wsX80, w ∈ lw_g := by
  have e : wsX80 = ([205, 207, 209, 211, 213, 215, 217] : List Nat).filterMap (fun i => lw_tbl[i]?) := by decide +kernel
  have g : wsX80.all goodWord = true := by decide +kernel
  intro w hw
  refine in_g ?_ (List.all_eq_true.mp g w hw)
  rw [e] at hw
  obtain ⟨i, -, hi⟩ := List.mem_filterMap.mp hw
  exact List.mem_of_getElem? hi
theorem lay_X9 : ∀ w ∈ wsX90, w ∈ lw_g := by
  have e : wsX90 = ([412, 414, 416, 418, 420, 422, 424] : List Nat).filterMap (fun i => lw_tbl[i]?) := by decide +kernel
  have g : wsX90.all goodWord = true := by decide +kernel
  intro w hw
  refine in_g ?_ (List.all_eq_true.mp g w hw)
  rw [e] at hw
  obtain ⟨i, -, hi⟩ := List.mem_filterMap.mp hw
  exact List.mem_of_getElem? hi
theorem lay_X10 : ∀ w ∈ wsX100, w ∈ lw_g := by
  have e : wsX100 = ([168, 170, 172, 174, 176, 178, 180, 182, 184] : List Nat).filterMap (fun i => lw_tbl[i]?) := by decide +kernel
  have g : wsX100.all goodWord = true := by decide +kernel
  intro w hw
  refine in_g ?_ (List.all_eq_true.mp g w hw)
  rw [e] at hw
  obtain ⟨i, -, hi⟩ := List.mem_filterMap.mp hw
  exact List.mem_of_getElem? hi
theorem lay_X11 : ∀ w ∈ wsX110, w ∈ lw_g := by
  have e : wsX110 = ([604, 606, 608, 610, 612, 614, 616, 618, 620, 622, 624, 626, 628] : List Nat).filterMap (fun i => lw_tbl[i]?) := by decide +kernel
  have g : wsX110.all goodWord = true := by decide +kernel
  intro w hw
  refine in_g ?_ (List.all_eq_true.mp g w hw)
  rw [e] at hw
  obtain ⟨i, -, hi⟩ := List.mem_filterMap.mp hw
  exact List.mem_of_getElem? hi
theorem lay_X12 : ∀ w ∈ wsX120, w ∈ lw_g := by
  have e : wsX120 = ([1393, 1395, 1397, 1399, 1401, 1403, 1405, 1407, 1409, 1411, 1413, 1415, 1417, 1419, 1421, 1423, 1425, 1427, 1429, 1431, 1433, 1435, 1437, 1439, 1441, 1443, 1445, 1447, 1449, 1451, 1453, 1455, 1457, 1459, 1461, 1463, 1465, 1467, 1469, 1471, 1473, 1475, 1477, 1479, 1481, 1483, 1485, 1487, 1489, 1491, 1493, 1495, 1497, 1499, 1501, 1503, 1505, 1507, 1509, 1511, 1513, 1515, 1517, 1519, 1521, 1523] : List Nat).filterMap (fun i => lw_tbl[i]?) := by decide +kernel
  have g : wsX120.all goodWord = true := by decide +kernel
  intro w hw
  refine in_g ?_ (List.all_eq_true.mp g w hw)
  rw [e] at hw
  obtain ⟨i, -, hi⟩ := List.mem_filterMap.mp hw
  exact List.mem_of_getElem? hi
theorem fl_X10_9 : FLk RX10 9 10 0 false .int := ⟨RX10, TX10, 9, tyX10, rfl, by decide, by decide, lay_X10, tyX10_ok, nmX10, in_g (List.mem_of_getElem? (i := 142) (by decide +kernel)) (by decide +kernel), rfl, rfl⟩
theorem fl_X5_56 : FLk RX5 56 10 0 false .int := ⟨RX10, TX10, 9, tyX10, rfl, by decide, by decide, lay_X10, tyX10_ok, nmX10, in_g (List.mem_of_getElem? (i := 143) (by decide +kernel)) (by decide +kernel), rfl, rfl⟩
theorem fl_X1_57 : FLk RX1 57 10 0 false .int := ⟨RX10, TX10, 9, tyX10, rfl, by decide, by decide, lay_X10, tyX10_ok, nmX10, in_g (List.mem_of_getElem? (i := 144) (by decide +kernel)) (by decide +kernel), rfl, rfl⟩
theorem fl_X2_39 : FLk RX2 39 10 0 false .int := ⟨RX10, TX10, 9, tyX10, rfl, by decide, by decide, lay_X10, tyX10_ok, nmX10, in_g (List.mem_of_getElem? (i := 145) (by decide +kernel)) (by decide +kernel), rfl, rfl⟩
theorem fl_X11_120 : FLk RX11 120 10 0 false .int := ⟨RX10, TX10, 9, tyX10, rfl, by decide, by decide, lay_X10, tyX10_ok, nmX10, in_g (List.mem_of_getElem? (i := 146) (by decide +kernel)) (by decide +kernel), rfl, rfl⟩
theorem fl_X10_15 : FLk RX10 15 10 1 false .int := ⟨RX10, TX10, 9, tyX10, rfl, by decide, by decide, lay_X10, tyX10_ok, nmX10, in_g (List.mem_of_getElem? (i := 147) (by decide +kernel)) (by decide +kernel), rfl, rfl⟩
theorem fl_X5_61 : FLk RX5 61 10 1 false .int := ⟨RX10, TX10, 9, tyX10, rfl, by decide, by decide, lay_X10, tyX10_ok, nmX10, in_g (List.mem_of_getElem? (i := 148) (by decide +kernel)) (by decide +kernel), rfl, rfl⟩
theorem fl_X2_44 : FLk RX2 44 10 1 false .int := ⟨RX10, TX10, 9, tyX10, rfl, by decide, by decide, lay_X10, tyX10_ok, nmX10, in_g (List.mem_of_getElem? (i := 149) (by decide +kernel)) (by decide +kernel), rfl, rfl⟩
theorem fl_X11_123 : FLk RX11 123 10 1 false .int := ⟨RX10, TX10, 9, tyX10, rfl, by decide, by decide, lay_X10, tyX10_ok, nmX10, in_g (List.mem_of_getElem? (i := 150) (by decide +kernel)) (by decide +kernel), rfl, rfl⟩
theorem fl_X10_18 : FLk RX10 18 10 2 false .int := ⟨RX10, TX10, 9, tyX10, rfl, by decide, by decide, lay_X10, tyX10_ok, nmX10, in_g (List.mem_of_getElem? (i := 151) (by decide +kernel)) (by decide +kernel), rfl, rfl⟩
theorem fl_X11_126 : FLk RX11 126 10 2 false .int := ⟨RX10, TX10, 9, tyX10, rfl, by decide, by decide, lay_X10, tyX10_ok, nmX10, in_g (List.mem_of_getElem? (i := 152) (by decide +kernel)) (by decide +kernel), rfl, rfl⟩
theorem fl_X10_21 : FLk RX10 21 10 3 false .int := ⟨RX10, TX10, 9, tyX10, rfl, by decide, by decide, lay_X10, tyX10_ok, nmX10, in_g (List.mem_of_getElem? (i := 153) (by decide +kernel)) (by decide +kernel), rfl, rfl⟩
theorem fl_X11_135 : FLk RX11 135 10 3 false .int := ⟨RX10, TX10, 9, tyX10, rfl, by decide, by decide, lay_X10, tyX10_ok, nmX10, in_g (List.mem_of_getElem? (i := 154) (by decide +kernel)) (by decide +kernel), rfl, rfl⟩
theorem fl_X10_24 : FLk RX10 24 10 4 false .int := ⟨RX10, TX10, 9, tyX10, rfl, by decide, by decide, lay_X10, tyX10_ok, nmX10, in_g (List.mem_of_getElem? (i := 155) (by decide +kernel)) (by decide +kernel), rfl, rfl⟩
theorem fl_X11_141 : FLk RX11 141 10 4 false .int := ⟨RX10, TX10, 9, tyX10, rfl, by decide, by decide, lay_X10, tyX10_ok, nmX10, in_g (List.mem_of_getElem? (i := 156) (by decide +kernel)) (by decide +kernel), rfl, rfl⟩
theorem fl_X10_27 : FLk RX10 27 10 5 false .int := ⟨RX10, TX10, 9, tyX10, rfl, by decide, by decide, lay_X10, tyX10_ok, nmX10, in_g (List.mem_of_getElem? (i := 157) (by decide +kernel)) (by decide +kernel), rfl, rfl⟩
theorem fl_X11_144 : FLk RX11 144 10 5 false .int := ⟨RX10, TX10, 9, tyX10, rfl, by decide, by decide, lay_X10, tyX10_ok, nmX10, in_g (List.mem_of_getElem? (i := 158) (by decide +kernel)) (by decide +kernel), rfl, rfl⟩
theorem fl_X10_30 : FLk RX10 30 10 6 false .long := ⟨RX10, TX10, 9, tyX10, rfl, by decide, by decide, lay_X10, tyX10_ok, nmX10, in_g (List.mem_of_getElem? (i := 159) (by decide +kernel)) (by decide +kernel), rfl, rfl⟩
theorem fl_X9_50 : FLk RX9 50 10 6 false .long := ⟨RX10, TX10, 9, tyX10, rfl, by decide, by decide, lay_X10, tyX10_ok, nmX10, in_g (List.mem_of_getElem? (i := 160) (by decide +kernel)) (by decide +kernel), rfl, rfl⟩
theorem fl_X0_81 : FLk RX0 81 10 6 false .long := ⟨RX10, TX10, 9, tyX10, rfl, by decide, by decide, lay_X10, tyX10_ok, nmX10, in_g (List.mem_of_getElem? (i := 161) (by decide +kernel)) (by decide +kernel), rfl, rfl⟩
theorem fl_X11_346 : FLk RX11 346 10 6 false .long := ⟨RX10, TX10, 9, tyX10, rfl, by decide, by decide, lay_X10, tyX10_ok, nmX10, in_g (List.mem_of_getElem? (i := 162) (by decide +kernel)) (by decide +kernel), rfl, rfl⟩
theorem fl_X10_34 : FLk RX10 34 10 7 false .long := ⟨RX10, TX10, 9, tyX10, rfl, by decide, by decide, lay_X10, tyX10_ok, nmX10, in_g (List.mem_of_getElem? (i := 163) (by decide +kernel)) (by decide +kernel), rfl, rfl⟩
theorem fl_X9_53 : FLk RX9 53 10 7 false .long := ⟨RX10, TX10, 9, tyX10, rfl, by decide, by decide, lay_X10, tyX10_ok, nmX10, in_g (List.mem_of_getElem? (i := 164) (by decide +kernel)) (by decide +kernel), rfl, rfl⟩
theorem fl_X0_89 : FLk RX0 89 10 7 false .long := ⟨RX10, TX10, 9, tyX10, rfl, by decide, by decide, lay_X10, tyX10_ok, nmX10, in_g (List.mem_of_getElem? (i := 165) (by decide +kernel)) (by decide +kernel), rfl, rfl⟩
theorem fl_X11_350 : FLk RX11 350 10 7 false .long := ⟨RX10, TX10, 9, tyX10, rfl, by decide, by decide, lay_X10, tyX10_ok, nmX10, in_g (List.mem_of_getElem? (i := 166) (by decide +kernel)) (by decide +kernel), rfl, rfl⟩
theorem fl_X10_37 : FLk RX10 37 10 8 false .int := ⟨RX10, TX10, 9, tyX10, rfl, by decide, by decide, lay_X10, tyX10_ok, nmX10, in_g (List.mem_of_getElem? (i := 167) (by decide +kernel)) (by decide +kernel), rfl, rfl⟩
theorem fl_X8_7 : FLk RX8 7 8 0 false .int := ⟨RX8, TX8, 7, tyX8, rfl, by decide, by decide, lay_X8, tyX8_ok, nmX8, in_g (List.mem_of_getElem? (i := 193) (by decide +kernel)) (by decide +kernel), rfl, rfl⟩
theorem fl_X11_108 : FLk RX11 108 8 0 false .int := ⟨RX8, TX8, 7, tyX8, rfl, by decide, by decide, lay_X8, tyX8_ok, nmX8, in_g (List.mem_of_getElem? (i := 194) (by decide +kernel)) (by decide +kernel), rfl, rfl⟩
theorem fl_X8_13 : FLk RX8 13 8 1 false .int := ⟨RX8, TX8, 7, tyX8, rfl, by decide, by decide, lay_X8, tyX8_ok, nmX8, in_g (List.mem_of_getElem? (i := 195) (by decide +kernel)) (by decide +kernel), rfl, rfl⟩
theorem fl_X3_46 : FLk RX3 46 8 1 false .int := ⟨RX8, TX8, 7, tyX8, rfl, by decide, by decide, lay_X8, tyX8_ok, nmX8, in_g (List.mem_of_getElem? (i := 196) (by decide +kernel)) (by decide +kernel), rfl, rfl⟩
theorem fl_X8_16 : FLk RX8 16 8 2 false .int := ⟨RX8, TX8, 7, tyX8, rfl, by decide, by decide, lay_X8, tyX8_ok, nmX8, in_g (List.mem_of_getElem? (i := 197) (by decide +kernel)) (by decide +kernel), rfl, rfl⟩
theorem fl_X3_122 : FLk RX3 122 8 2 false .int := ⟨RX8, TX8, 7, tyX8, rfl, by decide, by decide, lay_X8, tyX8_ok, nmX8, in_g (List.mem_of_getElem? (i := 198) (by decide +kernel)) (by decide +kernel), rfl, rfl⟩
theorem fl_X8_19 : FLk RX8 19 8 3 false .int := ⟨RX8, TX8, 7, tyX8, rfl, by decide, by decide, lay_X8, tyX8_ok, nmX8, in_g (List.mem_of_getElem? (i := 199) (by decide +kernel)) (by decide +kernel), rfl, rfl⟩
theorem fl_X3_125 : FLk RX3 125 8 3 false .int := ⟨RX8, TX8, 7, tyX8, rfl, by decide, by decide, lay_X8, tyX8_ok, nmX8, in_g (List.mem_of_getElem? (i := 200) (by decide +kernel)) (by decide +kernel), rfl, rfl⟩
theorem fl_X8_22 : FLk RX8 22 8 4 false .int := ⟨RX8, TX8, 7, tyX8, rfl, by decide, by decide, lay_X8, tyX8_ok, nmX8, in_g (List.mem_of_getElem? (i := 201) (by decide +kernel)) (by decide +kernel), rfl, rfl⟩
theorem fl_X3_149 : FLk RX3 149 8 4 false .int := ⟨RX8, TX8, 7, tyX8, rfl, by decide, by decide, lay_X8, tyX8_ok, nmX8, in_g (List.mem_of_getElem? (i := 202) (by decide +kernel)) (by decide +kernel), rfl, rfl⟩
theorem fl_X8_25 : FLk RX8 25 8 5 false .int := ⟨RX8, TX8, 7, tyX8, rfl, by decide, by decide, lay_X8, tyX8_ok, nmX8, in_g (List.mem_of_getElem? (i := 203) (by decide +kernel)) (by decide +kernel), rfl, rfl⟩
theorem fl_X8_28 : FLk RX8 28 8 6 true (.array .byte) := ⟨RX8, TX8, 7, tyX8, rfl, by decide, by decide, lay_X8, tyX8_ok, nmX8, in_g (List.mem_of_getElem? (i := 204) (by decide +kernel)) (by decide +kernel), rfl, rfl⟩
theorem fl_X7_7 : FLk RX7 7 7 0 false .int := ⟨RX7, TX7, 11, tyX7, rfl, by decide, by decide, lay_X7, tyX7_ok, nmX7, in_g (List.mem_of_getElem? (i := 227) (by decide +kernel)) (by decide +kernel), rfl, rfl⟩
theorem fl_X3_33 : FLk RX3 33 7 0 false .int := ⟨RX7, TX7, 11, tyX7, rfl, by decide, by decide, lay_X7, tyX7_ok, nmX7, in_g (List.mem_of_getElem? (i := 228) (by decide +kernel)) (by decide +kernel), rfl, rfl⟩
theorem fl_X5_64 : FLk RX5 64 7 0 false .int := ⟨RX7, TX7, 11, tyX7, rfl, by decide, by decide, lay_X7, tyX7_ok, nmX7, in_g (List.mem_of_getElem? (i := 229) (by decide +kernel)) (by decide +kernel), rfl, rfl⟩
theorem fl_X7_13 : FLk RX7 13 7 1 false .int := ⟨RX7, TX7, 11, tyX7, rfl, by decide, by decide, lay_X7, tyX7_ok, nmX7, in_g (List.mem_of_getElem? (i := 230) (by decide +kernel)) (by decide +kernel), rfl, rfl⟩
theorem fl_X3_38 : FLk RX3 38 7 1 false .int := ⟨RX7, TX7, 11, tyX7, rfl, by decide, by decide, lay_X7, tyX7_ok, nmX7, in_g (List.mem_of_getElem? (i := 231) (by decide +kernel)) (by decide +kernel), rfl, rfl⟩
theorem fl_X7_16 : FLk RX7 16 7 2 true (.array .int) := ⟨RX7, TX7, 11, tyX7, rfl, by decide, by decide, lay_X7, tyX7_ok, nmX7, in_g (List.mem_of_getElem? (i := 232) (by decide +kernel)) (by decide +kernel), rfl, rfl⟩
theorem fl_X5_73 : FLk RX5 73 7 2 true (.array .int) := ⟨RX7, TX7, 11, tyX7, rfl, by decide, by decide, lay_X7, tyX7_ok, nmX7, in_g (List.mem_of_getElem? (i := 233) (by decide +kernel)) (by decide +kernel), rfl, rfl⟩
theorem fl_X7_20 : FLk RX7 20 7 3 true (.array .int) := ⟨RX7, TX7, 11, tyX7, rfl, by decide, by decide, lay_X7, tyX7_ok, nmX7, in_g (List.mem_of_getElem? (i := 234) (by decide +kernel)) (by decide +kernel), rfl, rfl⟩
theorem fl_X3_49 : FLk RX3 49 7 3 true (.array .int) := ⟨RX7, TX7, 11, tyX7, rfl, by decide, by decide, lay_X7, tyX7_ok, nmX7, in_g (List.mem_of_getElem? (i := 235) (by decide +kernel)) (by decide +kernel), rfl, rfl⟩
theorem fl_X5_80 : FLk RX5 80 7 3 true (.array .int) := ⟨RX7, TX7, 11, tyX7, rfl, by decide, by decide, lay_X7, tyX7_ok, nmX7, in_g (List.mem_of_getElem? (i := 236) (by decide +kernel)) (by decide +kernel), rfl, rfl⟩
theorem fl_X7_23 : FLk RX7 23 7 4 true (.array .int) := ⟨RX7, TX7, 11, tyX7, rfl, by decide, by decide, lay_X7, tyX7_ok, nmX7, in_g (List.mem_of_getElem? (i := 237) (by decide +kernel)) (by decide +kernel), rfl, rfl⟩
theorem fl_X5_112 : FLk RX5 112 7 4 true (.array .int) := ⟨RX7, TX7, 11, tyX7, rfl, by decide, by decide, lay_X7, tyX7_ok, nmX7, in_g (List.mem_of_getElem? (i := 238) (by decide +kernel)) (by decide +kernel), rfl, rfl⟩
theorem fl_X3_134 : FLk RX3 134 7 4 true (.array .int) := ⟨RX7, TX7, 11, tyX7, rfl, by decide, by decide, lay_X7, tyX7_ok, nmX7, in_g (List.mem_of_getElem? (i := 239) (by decide +kernel)) (by decide +kernel), rfl, rfl⟩
theorem fl_X7_26 : FLk RX7 26 7 5 true (.array .int) := ⟨RX7, TX7, 11, tyX7, rfl, by decide, by decide, lay_X7, tyX7_ok, nmX7, in_g (List.mem_of_getElem? (i := 240) (by decide +kernel)) (by decide +kernel), rfl, rfl⟩
theorem fl_X7_29 : FLk RX7 29 7 6 true (.array .int) := ⟨RX7, TX7, 11, tyX7, rfl, by decide, by decide, lay_X7, tyX7_ok, nmX7, in_g (List.mem_of_getElem? (i := 241) (by decide +kernel)) (by decide +kernel), rfl, rfl⟩
theorem fl_X3_139 : FLk RX3 139 7 6 true (.array .int) := ⟨RX7, TX7, 11, tyX7, rfl, by decide, by decide, lay_X7, tyX7_ok, nmX7, in_g (List.mem_of_getElem? (i := 242) (by decide +kernel)) (by decide +kernel), rfl, rfl⟩
theorem fl_X7_32 : FLk RX7 32 7 7 true (.array .int) := ⟨RX7, TX7, 11, tyX7, rfl, by decide, by decide, lay_X7, tyX7_ok, nmX7, in_g (List.mem_of_getElem? (i := 243) (by decide +kernel)) (by decide +kernel), rfl, rfl⟩
theorem fl_X3_142 : FLk RX3 142 7 7 true (.array .int) := ⟨RX7, TX7, 11, tyX7, rfl, by decide, by decide, lay_X7, tyX7_ok, nmX7, in_g (List.mem_of_getElem? (i := 244) (by decide +kernel)) (by decide +kernel), rfl, rfl⟩
theorem fl_X7_35 : FLk RX7 35 7 8 true (.array .int) := ⟨RX7, TX7, 11, tyX7, rfl, by decide, by decide, lay_X7, tyX7_ok, nmX7, in_g (List.mem_of_getElem? (i := 245) (by decide +kernel)) (by decide +kernel), rfl, rfl⟩
theorem fl_X5_115 : FLk RX5 115 7 8 true (.array .int) := ⟨RX7, TX7, 11, tyX7, rfl, by decide, by decide, lay_X7, tyX7_ok, nmX7, in_g (List.mem_of_getElem? (i := 246) (by decide +kernel)) (by decide +kernel), rfl, rfl⟩
theorem fl_X7_38 : FLk RX7 38 7 9 true (.array .int) := ⟨RX7, TX7, 11, tyX7, rfl, by decide, by decide, lay_X7, tyX7_ok, nmX7, in_g (List.mem_of_getElem? (i := 247) (by decide +kernel)) (by decide +kernel), rfl, rfl⟩
theorem fl_X5_118 : FLk RX5 118 7 9 true (.array .int) := ⟨RX7, TX7, 11, tyX7, rfl, by decide, by decide, lay_X7, tyX7_ok, nmX7, in_g (List.mem_of_getElem? (i := 248) (by decide +kernel)) (by decide +kernel), rfl, rfl⟩
theorem fl_X7_41 : FLk RX7 41 7 10 true (.array .int) := ⟨RX7, TX7, 11, tyX7, rfl, by decide, by decide, lay_X7, tyX7_ok, nmX7, in_g (List.mem_of_getElem? (i := 249) (by decide +kernel)) (by decide +kernel), rfl, rfl⟩
theorem fl_X5_121 : FLk RX5 121 7 10 true (.array .int) := ⟨RX7, TX7, 11, tyX7, rfl, by decide, by decide, lay_X7, tyX7_ok, nmX7, in_g (List.mem_of_getElem? (i := 250) (by decide +kernel)) (by decide +kernel), rfl, rfl⟩
theorem fl_X3_25 : FLk RX3 25 3 0 true (.object "CordPens$Tape") := ⟨RX3, TX3, 6, tyX3, rfl, by decide, by decide, lay_X3, tyX3_ok, nmX3, in_g (List.mem_of_getElem? (i := 281) (by decide +kernel)) (by decide +kernel), rfl, rfl⟩
theorem fl_X3_29 : FLk RX3 29 3 1 true (.object "CordPens$Script") := ⟨RX3, TX3, 6, tyX3, rfl, by decide, by decide, lay_X3, tyX3_ok, nmX3, in_g (List.mem_of_getElem? (i := 282) (by decide +kernel)) (by decide +kernel), rfl, rfl⟩
theorem fl_X3_9 : FLk RX3 9 3 2 false .int := ⟨RX3, TX3, 6, tyX3, rfl, by decide, by decide, lay_X3, tyX3_ok, nmX3, in_g (List.mem_of_getElem? (i := 283) (by decide +kernel)) (by decide +kernel), rfl, rfl⟩
theorem fl_X11_158 : FLk RX11 158 3 2 false .int := ⟨RX3, TX3, 6, tyX3, rfl, by decide, by decide, lay_X3, tyX3_ok, nmX3, in_g (List.mem_of_getElem? (i := 284) (by decide +kernel)) (by decide +kernel), rfl, rfl⟩
theorem fl_X3_15 : FLk RX3 15 3 3 false .int := ⟨RX3, TX3, 6, tyX3, rfl, by decide, by decide, lay_X3, tyX3_ok, nmX3, in_g (List.mem_of_getElem? (i := 285) (by decide +kernel)) (by decide +kernel), rfl, rfl⟩
theorem fl_X11_161 : FLk RX11 161 3 3 false .int := ⟨RX3, TX3, 6, tyX3, rfl, by decide, by decide, lay_X3, tyX3_ok, nmX3, in_g (List.mem_of_getElem? (i := 286) (by decide +kernel)) (by decide +kernel), rfl, rfl⟩
theorem fl_X3_18 : FLk RX3 18 3 4 false .int := ⟨RX3, TX3, 6, tyX3, rfl, by decide, by decide, lay_X3, tyX3_ok, nmX3, in_g (List.mem_of_getElem? (i := 287) (by decide +kernel)) (by decide +kernel), rfl, rfl⟩
theorem fl_X3_21 : FLk RX3 21 3 5 true (.array .int) := ⟨RX3, TX3, 6, tyX3, rfl, by decide, by decide, lay_X3, tyX3_ok, nmX3, in_g (List.mem_of_getElem? (i := 288) (by decide +kernel)) (by decide +kernel), rfl, rfl⟩
theorem fl_X2_9 : FLk RX2 9 2 0 false .int := ⟨RX2, TX2, 8, tyX2, rfl, by decide, by decide, lay_X2, tyX2_ok, nmX2, in_g (List.mem_of_getElem? (i := 308) (by decide +kernel)) (by decide +kernel), rfl, rfl⟩
theorem fl_X6_33 : FLk RX6 33 2 0 false .int := ⟨RX2, TX2, 8, tyX2, rfl, by decide, by decide, lay_X2, tyX2_ok, nmX2, in_g (List.mem_of_getElem? (i := 309) (by decide +kernel)) (by decide +kernel), rfl, rfl⟩
theorem fl_X1_62 : FLk RX1 62 2 0 false .int := ⟨RX2, TX2, 8, tyX2, rfl, by decide, by decide, lay_X2, tyX2_ok, nmX2, in_g (List.mem_of_getElem? (i := 310) (by decide +kernel)) (by decide +kernel), rfl, rfl⟩
theorem fl_X11_155 : FLk RX11 155 2 0 false .int := ⟨RX2, TX2, 8, tyX2, rfl, by decide, by decide, lay_X2, tyX2_ok, nmX2, in_g (List.mem_of_getElem? (i := 311) (by decide +kernel)) (by decide +kernel), rfl, rfl⟩
theorem fl_X9_109 : FLk RX9 109 2 0 false .int := ⟨RX2, TX2, 8, tyX2, rfl, by decide, by decide, lay_X2, tyX2_ok, nmX2, in_g (List.mem_of_getElem? (i := 312) (by decide +kernel)) (by decide +kernel), rfl, rfl⟩
theorem fl_X2_15 : FLk RX2 15 2 1 true (.array .int) := ⟨RX2, TX2, 8, tyX2, rfl, by decide, by decide, lay_X2, tyX2_ok, nmX2, in_g (List.mem_of_getElem? (i := 313) (by decide +kernel)) (by decide +kernel), rfl, rfl⟩
theorem fl_X1_45 : FLk RX1 45 2 1 true (.array .int) := ⟨RX2, TX2, 8, tyX2, rfl, by decide, by decide, lay_X2, tyX2_ok, nmX2, in_g (List.mem_of_getElem? (i := 314) (by decide +kernel)) (by decide +kernel), rfl, rfl⟩
theorem fl_X9_68 : FLk RX9 68 2 1 true (.array .int) := ⟨RX2, TX2, 8, tyX2, rfl, by decide, by decide, lay_X2, tyX2_ok, nmX2, in_g (List.mem_of_getElem? (i := 315) (by decide +kernel)) (by decide +kernel), rfl, rfl⟩
theorem fl_X11_174 : FLk RX11 174 2 1 true (.array .int) := ⟨RX2, TX2, 8, tyX2, rfl, by decide, by decide, lay_X2, tyX2_ok, nmX2, in_g (List.mem_of_getElem? (i := 316) (by decide +kernel)) (by decide +kernel), rfl, rfl⟩
theorem fl_X2_19 : FLk RX2 19 2 2 true (.array .int) := ⟨RX2, TX2, 8, tyX2, rfl, by decide, by decide, lay_X2, tyX2_ok, nmX2, in_g (List.mem_of_getElem? (i := 317) (by decide +kernel)) (by decide +kernel), rfl, rfl⟩
theorem fl_X1_50 : FLk RX1 50 2 2 true (.array .int) := ⟨RX2, TX2, 8, tyX2, rfl, by decide, by decide, lay_X2, tyX2_ok, nmX2, in_g (List.mem_of_getElem? (i := 318) (by decide +kernel)) (by decide +kernel), rfl, rfl⟩
theorem fl_X9_71 : FLk RX9 71 2 2 true (.array .int) := ⟨RX2, TX2, 8, tyX2, rfl, by decide, by decide, lay_X2, tyX2_ok, nmX2, in_g (List.mem_of_getElem? (i := 319) (by decide +kernel)) (by decide +kernel), rfl, rfl⟩
theorem fl_X11_178 : FLk RX11 178 2 2 true (.array .int) := ⟨RX2, TX2, 8, tyX2, rfl, by decide, by decide, lay_X2, tyX2_ok, nmX2, in_g (List.mem_of_getElem? (i := 320) (by decide +kernel)) (by decide +kernel), rfl, rfl⟩
theorem fl_X2_22 : FLk RX2 22 2 3 true (.array .boolean) := ⟨RX2, TX2, 8, tyX2, rfl, by decide, by decide, lay_X2, tyX2_ok, nmX2, in_g (List.mem_of_getElem? (i := 321) (by decide +kernel)) (by decide +kernel), rfl, rfl⟩
theorem fl_X1_90 : FLk RX1 90 2 3 true (.array .boolean) := ⟨RX2, TX2, 8, tyX2, rfl, by decide, by decide, lay_X2, tyX2_ok, nmX2, in_g (List.mem_of_getElem? (i := 322) (by decide +kernel)) (by decide +kernel), rfl, rfl⟩
theorem fl_X9_113 : FLk RX9 113 2 3 true (.array .boolean) := ⟨RX2, TX2, 8, tyX2, rfl, by decide, by decide, lay_X2, tyX2_ok, nmX2, in_g (List.mem_of_getElem? (i := 323) (by decide +kernel)) (by decide +kernel), rfl, rfl⟩
theorem fl_X11_181 : FLk RX11 181 2 3 true (.array .boolean) := ⟨RX2, TX2, 8, tyX2, rfl, by decide, by decide, lay_X2, tyX2_ok, nmX2, in_g (List.mem_of_getElem? (i := 324) (by decide +kernel)) (by decide +kernel), rfl, rfl⟩
theorem fl_X2_26 : FLk RX2 26 2 4 true (.array .int) := ⟨RX2, TX2, 8, tyX2, rfl, by decide, by decide, lay_X2, tyX2_ok, nmX2, in_g (List.mem_of_getElem? (i := 325) (by decide +kernel)) (by decide +kernel), rfl, rfl⟩
theorem fl_X9_35 : FLk RX9 35 2 4 true (.array .int) := ⟨RX2, TX2, 8, tyX2, rfl, by decide, by decide, lay_X2, tyX2_ok, nmX2, in_g (List.mem_of_getElem? (i := 326) (by decide +kernel)) (by decide +kernel), rfl, rfl⟩
theorem fl_X6_41 : FLk RX6 41 2 4 true (.array .int) := ⟨RX2, TX2, 8, tyX2, rfl, by decide, by decide, lay_X2, tyX2_ok, nmX2, in_g (List.mem_of_getElem? (i := 327) (by decide +kernel)) (by decide +kernel), rfl, rfl⟩
theorem fl_X0_69 : FLk RX0 69 2 4 true (.array .int) := ⟨RX2, TX2, 8, tyX2, rfl, by decide, by decide, lay_X2, tyX2_ok, nmX2, in_g (List.mem_of_getElem? (i := 328) (by decide +kernel)) (by decide +kernel), rfl, rfl⟩
theorem fl_X11_189 : FLk RX11 189 2 4 true (.array .int) := ⟨RX2, TX2, 8, tyX2, rfl, by decide, by decide, lay_X2, tyX2_ok, nmX2, in_g (List.mem_of_getElem? (i := 329) (by decide +kernel)) (by decide +kernel), rfl, rfl⟩
theorem fl_X2_29 : FLk RX2 29 2 5 true (.array .int) := ⟨RX2, TX2, 8, tyX2, rfl, by decide, by decide, lay_X2, tyX2_ok, nmX2, in_g (List.mem_of_getElem? (i := 330) (by decide +kernel)) (by decide +kernel), rfl, rfl⟩
theorem fl_X9_41 : FLk RX9 41 2 5 true (.array .int) := ⟨RX2, TX2, 8, tyX2, rfl, by decide, by decide, lay_X2, tyX2_ok, nmX2, in_g (List.mem_of_getElem? (i := 331) (by decide +kernel)) (by decide +kernel), rfl, rfl⟩
theorem fl_X6_45 : FLk RX6 45 2 5 true (.array .int) := ⟨RX2, TX2, 8, tyX2, rfl, by decide, by decide, lay_X2, tyX2_ok, nmX2, in_g (List.mem_of_getElem? (i := 332) (by decide +kernel)) (by decide +kernel), rfl, rfl⟩
theorem fl_X0_72 : FLk RX0 72 2 5 true (.array .int) := ⟨RX2, TX2, 8, tyX2, rfl, by decide, by decide, lay_X2, tyX2_ok, nmX2, in_g (List.mem_of_getElem? (i := 333) (by decide +kernel)) (by decide +kernel), rfl, rfl⟩
theorem fl_X11_192 : FLk RX11 192 2 5 true (.array .int) := ⟨RX2, TX2, 8, tyX2, rfl, by decide, by decide, lay_X2, tyX2_ok, nmX2, in_g (List.mem_of_getElem? (i := 334) (by decide +kernel)) (by decide +kernel), rfl, rfl⟩
theorem fl_X2_32 : FLk RX2 32 2 6 true (.array .int) := ⟨RX2, TX2, 8, tyX2, rfl, by decide, by decide, lay_X2, tyX2_ok, nmX2, in_g (List.mem_of_getElem? (i := 335) (by decide +kernel)) (by decide +kernel), rfl, rfl⟩
theorem fl_X11_248 : FLk RX11 248 2 6 true (.array .int) := ⟨RX2, TX2, 8, tyX2, rfl, by decide, by decide, lay_X2, tyX2_ok, nmX2, in_g (List.mem_of_getElem? (i := 336) (by decide +kernel)) (by decide +kernel), rfl, rfl⟩
theorem fl_X2_35 : FLk RX2 35 2 7 true (.object "CordPens$Wall") := ⟨RX2, TX2, 8, tyX2, rfl, by decide, by decide, lay_X2, tyX2_ok, nmX2, in_g (List.mem_of_getElem? (i := 337) (by decide +kernel)) (by decide +kernel), rfl, rfl⟩
theorem fl_X5_39 : FLk RX5 39 5 0 true (.object "CordPens$Wall") := ⟨RX5, TX5, 12, tyX5, rfl, by decide, by decide, lay_X5, tyX5_ok, nmX5, in_g (List.mem_of_getElem? (i := 362) (by decide +kernel)) (by decide +kernel), rfl, rfl⟩
theorem fl_X5_43 : FLk RX5 43 5 1 true (.object "CordPens$Script") := ⟨RX5, TX5, 12, tyX5, rfl, by decide, by decide, lay_X5, tyX5_ok, nmX5, in_g (List.mem_of_getElem? (i := 363) (by decide +kernel)) (by decide +kernel), rfl, rfl⟩
theorem fl_X5_47 : FLk RX5 47 5 2 true (.object "CordPens$Moves") := ⟨RX5, TX5, 12, tyX5, rfl, by decide, by decide, lay_X5, tyX5_ok, nmX5, in_g (List.mem_of_getElem? (i := 364) (by decide +kernel)) (by decide +kernel), rfl, rfl⟩
theorem fl_X5_7 : FLk RX5 7 5 3 false .int := ⟨RX5, TX5, 12, tyX5, rfl, by decide, by decide, lay_X5, tyX5_ok, nmX5, in_g (List.mem_of_getElem? (i := 365) (by decide +kernel)) (by decide +kernel), rfl, rfl⟩
theorem fl_X5_13 : FLk RX5 13 5 4 false .int := ⟨RX5, TX5, 12, tyX5, rfl, by decide, by decide, lay_X5, tyX5_ok, nmX5, in_g (List.mem_of_getElem? (i := 366) (by decide +kernel)) (by decide +kernel), rfl, rfl⟩
theorem fl_X5_16 : FLk RX5 16 5 5 false .int := ⟨RX5, TX5, 12, tyX5, rfl, by decide, by decide, lay_X5, tyX5_ok, nmX5, in_g (List.mem_of_getElem? (i := 367) (by decide +kernel)) (by decide +kernel), rfl, rfl⟩
theorem fl_X5_19 : FLk RX5 19 5 6 false .int := ⟨RX5, TX5, 12, tyX5, rfl, by decide, by decide, lay_X5, tyX5_ok, nmX5, in_g (List.mem_of_getElem? (i := 368) (by decide +kernel)) (by decide +kernel), rfl, rfl⟩
theorem fl_X5_22 : FLk RX5 22 5 7 false .int := ⟨RX5, TX5, 12, tyX5, rfl, by decide, by decide, lay_X5, tyX5_ok, nmX5, in_g (List.mem_of_getElem? (i := 369) (by decide +kernel)) (by decide +kernel), rfl, rfl⟩
theorem fl_X5_25 : FLk RX5 25 5 8 false .int := ⟨RX5, TX5, 12, tyX5, rfl, by decide, by decide, lay_X5, tyX5_ok, nmX5, in_g (List.mem_of_getElem? (i := 370) (by decide +kernel)) (by decide +kernel), rfl, rfl⟩
theorem fl_X5_28 : FLk RX5 28 5 9 false .int := ⟨RX5, TX5, 12, tyX5, rfl, by decide, by decide, lay_X5, tyX5_ok, nmX5, in_g (List.mem_of_getElem? (i := 371) (by decide +kernel)) (by decide +kernel), rfl, rfl⟩
theorem fl_X5_31 : FLk RX5 31 5 10 false .boolean := ⟨RX5, TX5, 12, tyX5, rfl, by decide, by decide, lay_X5, tyX5_ok, nmX5, in_g (List.mem_of_getElem? (i := 372) (by decide +kernel)) (by decide +kernel), rfl, rfl⟩
theorem fl_X5_35 : FLk RX5 35 5 11 true (.array .int) := ⟨RX5, TX5, 12, tyX5, rfl, by decide, by decide, lay_X5, tyX5_ok, nmX5, in_g (List.mem_of_getElem? (i := 373) (by decide +kernel)) (by decide +kernel), rfl, rfl⟩
theorem fl_X9_27 : FLk RX9 27 9 0 true (.object "CordPens$Wall") := ⟨RX9, TX9, 7, tyX9, rfl, by decide, by decide, lay_X9, tyX9_ok, nmX9, in_g (List.mem_of_getElem? (i := 405) (by decide +kernel)) (by decide +kernel), rfl, rfl⟩
theorem fl_X9_31 : FLk RX9 31 9 1 true (.object "CordPens$Moves") := ⟨RX9, TX9, 7, tyX9, rfl, by decide, by decide, lay_X9, tyX9_ok, nmX9, in_g (List.mem_of_getElem? (i := 406) (by decide +kernel)) (by decide +kernel), rfl, rfl⟩
theorem fl_X9_9 : FLk RX9 9 9 2 false .long := ⟨RX9, TX9, 7, tyX9, rfl, by decide, by decide, lay_X9, tyX9_ok, nmX9, in_g (List.mem_of_getElem? (i := 407) (by decide +kernel)) (by decide +kernel), rfl, rfl⟩
theorem fl_X9_15 : FLk RX9 15 9 3 false .long := ⟨RX9, TX9, 7, tyX9, rfl, by decide, by decide, lay_X9, tyX9_ok, nmX9, in_g (List.mem_of_getElem? (i := 408) (by decide +kernel)) (by decide +kernel), rfl, rfl⟩
theorem fl_X9_18 : FLk RX9 18 9 4 false .long := ⟨RX9, TX9, 7, tyX9, rfl, by decide, by decide, lay_X9, tyX9_ok, nmX9, in_g (List.mem_of_getElem? (i := 409) (by decide +kernel)) (by decide +kernel), rfl, rfl⟩
theorem fl_X9_21 : FLk RX9 21 9 5 false .long := ⟨RX9, TX9, 7, tyX9, rfl, by decide, by decide, lay_X9, tyX9_ok, nmX9, in_g (List.mem_of_getElem? (i := 410) (by decide +kernel)) (by decide +kernel), rfl, rfl⟩
theorem fl_X9_24 : FLk RX9 24 9 6 false .long := ⟨RX9, TX9, 7, tyX9, rfl, by decide, by decide, lay_X9, tyX9_ok, nmX9, in_g (List.mem_of_getElem? (i := 411) (by decide +kernel)) (by decide +kernel), rfl, rfl⟩
theorem fl_X0_11 : FLk RX0 11 0 0 false .int := ⟨RX0, TX0, 11, tyX0, rfl, by decide, by decide, lay_X0, tyX0_ok, nmX0, in_g (List.mem_of_getElem? (i := 433) (by decide +kernel)) (by decide +kernel), rfl, rfl⟩
theorem fl_X11_260 : FLk RX11 260 0 0 false .int := ⟨RX0, TX0, 11, tyX0, rfl, by decide, by decide, lay_X0, tyX0_ok, nmX0, in_g (List.mem_of_getElem? (i := 434) (by decide +kernel)) (by decide +kernel), rfl, rfl⟩
theorem fl_X0_15 : FLk RX0 15 0 1 false .int := ⟨RX0, TX0, 11, tyX0, rfl, by decide, by decide, lay_X0, tyX0_ok, nmX0, in_g (List.mem_of_getElem? (i := 435) (by decide +kernel)) (by decide +kernel), rfl, rfl⟩
theorem fl_X11_264 : FLk RX11 264 0 1 false .int := ⟨RX0, TX0, 11, tyX0, rfl, by decide, by decide, lay_X0, tyX0_ok, nmX0, in_g (List.mem_of_getElem? (i := 436) (by decide +kernel)) (by decide +kernel), rfl, rfl⟩
theorem fl_X0_18 : FLk RX0 18 0 2 true (.array .int) := ⟨RX0, TX0, 11, tyX0, rfl, by decide, by decide, lay_X0, tyX0_ok, nmX0, in_g (List.mem_of_getElem? (i := 437) (by decide +kernel)) (by decide +kernel), rfl, rfl⟩
theorem fl_X11_267 : FLk RX11 267 0 2 true (.array .int) := ⟨RX0, TX0, 11, tyX0, rfl, by decide, by decide, lay_X0, tyX0_ok, nmX0, in_g (List.mem_of_getElem? (i := 438) (by decide +kernel)) (by decide +kernel), rfl, rfl⟩
theorem fl_X0_22 : FLk RX0 22 0 3 true (.array .int) := ⟨RX0, TX0, 11, tyX0, rfl, by decide, by decide, lay_X0, tyX0_ok, nmX0, in_g (List.mem_of_getElem? (i := 439) (by decide +kernel)) (by decide +kernel), rfl, rfl⟩
theorem fl_X11_270 : FLk RX11 270 0 3 true (.array .int) := ⟨RX0, TX0, 11, tyX0, rfl, by decide, by decide, lay_X0, tyX0_ok, nmX0, in_g (List.mem_of_getElem? (i := 440) (by decide +kernel)) (by decide +kernel), rfl, rfl⟩
theorem fl_X0_25 : FLk RX0 25 0 4 true (.array .int) := ⟨RX0, TX0, 11, tyX0, rfl, by decide, by decide, lay_X0, tyX0_ok, nmX0, in_g (List.mem_of_getElem? (i := 441) (by decide +kernel)) (by decide +kernel), rfl, rfl⟩
theorem fl_X0_28 : FLk RX0 28 0 5 true (.array .int) := ⟨RX0, TX0, 11, tyX0, rfl, by decide, by decide, lay_X0, tyX0_ok, nmX0, in_g (List.mem_of_getElem? (i := 442) (by decide +kernel)) (by decide +kernel), rfl, rfl⟩
theorem fl_X0_31 : FLk RX0 31 0 6 true (.array .int) := ⟨RX0, TX0, 11, tyX0, rfl, by decide, by decide, lay_X0, tyX0_ok, nmX0, in_g (List.mem_of_getElem? (i := 443) (by decide +kernel)) (by decide +kernel), rfl, rfl⟩
theorem fl_X0_34 : FLk RX0 34 0 7 true (.array .int) := ⟨RX0, TX0, 11, tyX0, rfl, by decide, by decide, lay_X0, tyX0_ok, nmX0, in_g (List.mem_of_getElem? (i := 444) (by decide +kernel)) (by decide +kernel), rfl, rfl⟩
theorem fl_X0_37 : FLk RX0 37 0 8 true (.array .int) := ⟨RX0, TX0, 11, tyX0, rfl, by decide, by decide, lay_X0, tyX0_ok, nmX0, in_g (List.mem_of_getElem? (i := 445) (by decide +kernel)) (by decide +kernel), rfl, rfl⟩
theorem fl_X0_40 : FLk RX0 40 0 9 true (.object "CordPens$Wall") := ⟨RX0, TX0, 11, tyX0, rfl, by decide, by decide, lay_X0, tyX0_ok, nmX0, in_g (List.mem_of_getElem? (i := 446) (by decide +kernel)) (by decide +kernel), rfl, rfl⟩
theorem fl_X0_44 : FLk RX0 44 0 10 true (.object "CordPens$Moves") := ⟨RX0, TX0, 11, tyX0, rfl, by decide, by decide, lay_X0, tyX0_ok, nmX0, in_g (List.mem_of_getElem? (i := 447) (by decide +kernel)) (by decide +kernel), rfl, rfl⟩
theorem fl_X1_9 : FLk RX1 9 1 0 false .int := ⟨RX1, TX1, 10, tyX1, rfl, by decide, by decide, lay_X1, tyX1_ok, nmX1, in_g (List.mem_of_getElem? (i := 477) (by decide +kernel)) (by decide +kernel), rfl, rfl⟩
theorem fl_X11_293 : FLk RX11 293 1 0 false .int := ⟨RX1, TX1, 10, tyX1, rfl, by decide, by decide, lay_X1, tyX1_ok, nmX1, in_g (List.mem_of_getElem? (i := 478) (by decide +kernel)) (by decide +kernel), rfl, rfl⟩
theorem fl_X1_15 : FLk RX1 15 1 1 false .int := ⟨RX1, TX1, 10, tyX1, rfl, by decide, by decide, lay_X1, tyX1_ok, nmX1, in_g (List.mem_of_getElem? (i := 479) (by decide +kernel)) (by decide +kernel), rfl, rfl⟩
theorem fl_X11_296 : FLk RX11 296 1 1 false .int := ⟨RX1, TX1, 10, tyX1, rfl, by decide, by decide, lay_X1, tyX1_ok, nmX1, in_g (List.mem_of_getElem? (i := 480) (by decide +kernel)) (by decide +kernel), rfl, rfl⟩
theorem fl_X1_18 : FLk RX1 18 1 2 false .int := ⟨RX1, TX1, 10, tyX1, rfl, by decide, by decide, lay_X1, tyX1_ok, nmX1, in_g (List.mem_of_getElem? (i := 481) (by decide +kernel)) (by decide +kernel), rfl, rfl⟩
theorem fl_X11_299 : FLk RX11 299 1 2 false .int := ⟨RX1, TX1, 10, tyX1, rfl, by decide, by decide, lay_X1, tyX1_ok, nmX1, in_g (List.mem_of_getElem? (i := 482) (by decide +kernel)) (by decide +kernel), rfl, rfl⟩
theorem fl_X1_21 : FLk RX1 21 1 3 false .int := ⟨RX1, TX1, 10, tyX1, rfl, by decide, by decide, lay_X1, tyX1_ok, nmX1, in_g (List.mem_of_getElem? (i := 483) (by decide +kernel)) (by decide +kernel), rfl, rfl⟩
theorem fl_X11_302 : FLk RX11 302 1 3 false .int := ⟨RX1, TX1, 10, tyX1, rfl, by decide, by decide, lay_X1, tyX1_ok, nmX1, in_g (List.mem_of_getElem? (i := 484) (by decide +kernel)) (by decide +kernel), rfl, rfl⟩
theorem fl_X1_34 : FLk RX1 34 1 4 true (.object "CordPens$Wall") := ⟨RX1, TX1, 10, tyX1, rfl, by decide, by decide, lay_X1, tyX1_ok, nmX1, in_g (List.mem_of_getElem? (i := 485) (by decide +kernel)) (by decide +kernel), rfl, rfl⟩
theorem fl_X1_38 : FLk RX1 38 1 5 true (.object "CordPens$Moves") := ⟨RX1, TX1, 10, tyX1, rfl, by decide, by decide, lay_X1, tyX1_ok, nmX1, in_g (List.mem_of_getElem? (i := 486) (by decide +kernel)) (by decide +kernel), rfl, rfl⟩
theorem fl_X1_42 : FLk RX1 42 1 6 true (.object "CordPens$Moves") := ⟨RX1, TX1, 10, tyX1, rfl, by decide, by decide, lay_X1, tyX1_ok, nmX1, in_g (List.mem_of_getElem? (i := 487) (by decide +kernel)) (by decide +kernel), rfl, rfl⟩
theorem fl_X1_24 : FLk RX1 24 1 7 true (.array .int) := ⟨RX1, TX1, 10, tyX1, rfl, by decide, by decide, lay_X1, tyX1_ok, nmX1, in_g (List.mem_of_getElem? (i := 488) (by decide +kernel)) (by decide +kernel), rfl, rfl⟩
theorem fl_X1_28 : FLk RX1 28 1 8 true (.array .int) := ⟨RX1, TX1, 10, tyX1, rfl, by decide, by decide, lay_X1, tyX1_ok, nmX1, in_g (List.mem_of_getElem? (i := 489) (by decide +kernel)) (by decide +kernel), rfl, rfl⟩
theorem fl_X1_31 : FLk RX1 31 1 9 true (.array .int) := ⟨RX1, TX1, 10, tyX1, rfl, by decide, by decide, lay_X1, tyX1_ok, nmX1, in_g (List.mem_of_getElem? (i := 490) (by decide +kernel)) (by decide +kernel), rfl, rfl⟩
theorem fl_X4_9 : FLk RX4 9 4 0 false .int := ⟨RX4, TX4, 6, tyX4, rfl, by decide, by decide, lay_X4, tyX4_ok, nmX4, in_g (List.mem_of_getElem? (i := 518) (by decide +kernel)) (by decide +kernel), rfl, rfl⟩
theorem fl_X11_338 : FLk RX11 338 4 0 false .int := ⟨RX4, TX4, 6, tyX4, rfl, by decide, by decide, lay_X4, tyX4_ok, nmX4, in_g (List.mem_of_getElem? (i := 519) (by decide +kernel)) (by decide +kernel), rfl, rfl⟩
theorem fl_X4_15 : FLk RX4 15 4 1 false .int := ⟨RX4, TX4, 6, tyX4, rfl, by decide, by decide, lay_X4, tyX4_ok, nmX4, in_g (List.mem_of_getElem? (i := 520) (by decide +kernel)) (by decide +kernel), rfl, rfl⟩
theorem fl_X11_310 : FLk RX11 310 4 1 false .int := ⟨RX4, TX4, 6, tyX4, rfl, by decide, by decide, lay_X4, tyX4_ok, nmX4, in_g (List.mem_of_getElem? (i := 521) (by decide +kernel)) (by decide +kernel), rfl, rfl⟩
theorem fl_X4_18 : FLk RX4 18 4 2 false .int := ⟨RX4, TX4, 6, tyX4, rfl, by decide, by decide, lay_X4, tyX4_ok, nmX4, in_g (List.mem_of_getElem? (i := 522) (by decide +kernel)) (by decide +kernel), rfl, rfl⟩
theorem fl_X11_313 : FLk RX11 313 4 2 false .int := ⟨RX4, TX4, 6, tyX4, rfl, by decide, by decide, lay_X4, tyX4_ok, nmX4, in_g (List.mem_of_getElem? (i := 523) (by decide +kernel)) (by decide +kernel), rfl, rfl⟩
theorem fl_X4_21 : FLk RX4 21 4 3 false .int := ⟨RX4, TX4, 6, tyX4, rfl, by decide, by decide, lay_X4, tyX4_ok, nmX4, in_g (List.mem_of_getElem? (i := 524) (by decide +kernel)) (by decide +kernel), rfl, rfl⟩
theorem fl_X11_316 : FLk RX11 316 4 3 false .int := ⟨RX4, TX4, 6, tyX4, rfl, by decide, by decide, lay_X4, tyX4_ok, nmX4, in_g (List.mem_of_getElem? (i := 525) (by decide +kernel)) (by decide +kernel), rfl, rfl⟩
theorem fl_X4_24 : FLk RX4 24 4 4 true (.array .long) := ⟨RX4, TX4, 6, tyX4, rfl, by decide, by decide, lay_X4, tyX4_ok, nmX4, in_g (List.mem_of_getElem? (i := 526) (by decide +kernel)) (by decide +kernel), rfl, rfl⟩
theorem fl_X4_28 : FLk RX4 28 4 5 true (.array .long) := ⟨RX4, TX4, 6, tyX4, rfl, by decide, by decide, lay_X4, tyX4_ok, nmX4, in_g (List.mem_of_getElem? (i := 527) (by decide +kernel)) (by decide +kernel), rfl, rfl⟩
theorem fl_X6_9 : FLk RX6 9 6 0 false .boolean := ⟨RX6, TX6, 5, tyX6, rfl, by decide, by decide, lay_X6, tyX6_ok, nmX6, in_g (List.mem_of_getElem? (i := 548) (by decide +kernel)) (by decide +kernel), rfl, rfl⟩
theorem fl_X11_322 : FLk RX11 322 6 0 false .boolean := ⟨RX6, TX6, 5, tyX6, rfl, by decide, by decide, lay_X6, tyX6_ok, nmX6, in_g (List.mem_of_getElem? (i := 549) (by decide +kernel)) (by decide +kernel), rfl, rfl⟩
theorem fl_X6_15 : FLk RX6 15 6 1 false .int := ⟨RX6, TX6, 5, tyX6, rfl, by decide, by decide, lay_X6, tyX6_ok, nmX6, in_g (List.mem_of_getElem? (i := 550) (by decide +kernel)) (by decide +kernel), rfl, rfl⟩
theorem fl_X11_329 : FLk RX11 329 6 1 false .int := ⟨RX6, TX6, 5, tyX6, rfl, by decide, by decide, lay_X6, tyX6_ok, nmX6, in_g (List.mem_of_getElem? (i := 551) (by decide +kernel)) (by decide +kernel), rfl, rfl⟩
theorem fl_X6_19 : FLk RX6 19 6 2 false .int := ⟨RX6, TX6, 5, tyX6, rfl, by decide, by decide, lay_X6, tyX6_ok, nmX6, in_g (List.mem_of_getElem? (i := 552) (by decide +kernel)) (by decide +kernel), rfl, rfl⟩
theorem fl_X11_332 : FLk RX11 332 6 2 false .int := ⟨RX6, TX6, 5, tyX6, rfl, by decide, by decide, lay_X6, tyX6_ok, nmX6, in_g (List.mem_of_getElem? (i := 553) (by decide +kernel)) (by decide +kernel), rfl, rfl⟩
theorem fl_X6_22 : FLk RX6 22 6 3 false .int := ⟨RX6, TX6, 5, tyX6, rfl, by decide, by decide, lay_X6, tyX6_ok, nmX6, in_g (List.mem_of_getElem? (i := 554) (by decide +kernel)) (by decide +kernel), rfl, rfl⟩
theorem fl_X6_25 : FLk RX6 25 6 4 true (.object "CordPens$Moves") := ⟨RX6, TX6, 5, tyX6, rfl, by decide, by decide, lay_X6, tyX6_ok, nmX6, in_g (List.mem_of_getElem? (i := 555) (by decide +kernel)) (by decide +kernel), rfl, rfl⟩
theorem fl_X11_10 : FLk RX11 10 11 0 true (.object "CordPens$Wall") := ⟨RX11, TX11, 13, tyX11, rfl, by decide, by decide, lay_X11, tyX11_ok, nmX11, in_g (List.mem_of_getElem? (i := 591) (by decide +kernel)) (by decide +kernel), rfl, rfl⟩
theorem fl_X11_19 : FLk RX11 19 11 1 true (.object "CordPens$Tape") := ⟨RX11, TX11, 13, tyX11, rfl, by decide, by decide, lay_X11, tyX11_ok, nmX11, in_g (List.mem_of_getElem? (i := 592) (by decide +kernel)) (by decide +kernel), rfl, rfl⟩
theorem fl_X11_26 : FLk RX11 26 11 2 true (.object "CordPens$Script") := ⟨RX11, TX11, 13, tyX11, rfl, by decide, by decide, lay_X11, tyX11_ok, nmX11, in_g (List.mem_of_getElem? (i := 593) (by decide +kernel)) (by decide +kernel), rfl, rfl⟩
theorem fl_X11_35 : FLk RX11 35 11 3 true (.object "CordPens$Parser") := ⟨RX11, TX11, 13, tyX11, rfl, by decide, by decide, lay_X11, tyX11_ok, nmX11, in_g (List.mem_of_getElem? (i := 594) (by decide +kernel)) (by decide +kernel), rfl, rfl⟩
theorem fl_X11_44 : FLk RX11 44 11 4 true (.object "CordPens$Moves") := ⟨RX11, TX11, 13, tyX11, rfl, by decide, by decide, lay_X11, tyX11_ok, nmX11, in_g (List.mem_of_getElem? (i := 595) (by decide +kernel)) (by decide +kernel), rfl, rfl⟩
theorem fl_X11_48 : FLk RX11 48 11 5 true (.object "CordPens$Moves") := ⟨RX11, TX11, 13, tyX11, rfl, by decide, by decide, lay_X11, tyX11_ok, nmX11, in_g (List.mem_of_getElem? (i := 596) (by decide +kernel)) (by decide +kernel), rfl, rfl⟩
theorem fl_X11_56 : FLk RX11 56 11 6 true (.object "CordPens$Plotter") := ⟨RX11, TX11, 13, tyX11, rfl, by decide, by decide, lay_X11, tyX11_ok, nmX11, in_g (List.mem_of_getElem? (i := 597) (by decide +kernel)) (by decide +kernel), rfl, rfl⟩
theorem fl_X11_65 : FLk RX11 65 11 7 true (.object "CordPens$Trace") := ⟨RX11, TX11, 13, tyX11, rfl, by decide, by decide, lay_X11, tyX11_ok, nmX11, in_g (List.mem_of_getElem? (i := 598) (by decide +kernel)) (by decide +kernel), rfl, rfl⟩
theorem fl_X11_72 : FLk RX11 72 11 8 true (.object "CordPens$Crosses") := ⟨RX11, TX11, 13, tyX11, rfl, by decide, by decide, lay_X11, tyX11_ok, nmX11, in_g (List.mem_of_getElem? (i := 599) (by decide +kernel)) (by decide +kernel), rfl, rfl⟩
theorem fl_X11_81 : FLk RX11 81 11 9 true (.object "CordPens$Duo") := ⟨RX11, TX11, 13, tyX11, rfl, by decide, by decide, lay_X11, tyX11_ok, nmX11, in_g (List.mem_of_getElem? (i := 600) (by decide +kernel)) (by decide +kernel), rfl, rfl⟩
theorem fl_X11_88 : FLk RX11 88 11 10 true (.object "CordPens$Pens") := ⟨RX11, TX11, 13, tyX11, rfl, by decide, by decide, lay_X11, tyX11_ok, nmX11, in_g (List.mem_of_getElem? (i := 601) (by decide +kernel)) (by decide +kernel), rfl, rfl⟩
theorem fl_X11_97 : FLk RX11 97 11 11 true (.object "CordPens$Run") := ⟨RX11, TX11, 13, tyX11, rfl, by decide, by decide, lay_X11, tyX11_ok, nmX11, in_g (List.mem_of_getElem? (i := 602) (by decide +kernel)) (by decide +kernel), rfl, rfl⟩
theorem fl_X11_101 : FLk RX11 101 11 12 false .boolean := ⟨RX11, TX11, 13, tyX11, rfl, by decide, by decide, lay_X11, tyX11_ok, nmX11, in_g (List.mem_of_getElem? (i := 603) (by decide +kernel)) (by decide +kernel), rfl, rfl⟩
theorem fl_X12_7 : FLk RX12 7 12 0 true (.array .int) := ⟨RX12, TX12, 66, tyX12, rfl, by decide, by decide, lay_X12, tyX12_ok, nmX12, in_g (List.mem_of_getElem? (i := 1327) (by decide +kernel)) (by decide +kernel), rfl, rfl⟩
theorem fl_X12_130 : FLk RX12 130 12 1 false .int := ⟨RX12, TX12, 66, tyX12, rfl, by decide, by decide, lay_X12, tyX12_ok, nmX12, in_g (List.mem_of_getElem? (i := 1328) (by decide +kernel)) (by decide +kernel), rfl, rfl⟩
theorem fl_X12_127 : FLk RX12 127 12 2 false .int := ⟨RX12, TX12, 66, tyX12, rfl, by decide, by decide, lay_X12, tyX12_ok, nmX12, in_g (List.mem_of_getElem? (i := 1329) (by decide +kernel)) (by decide +kernel), rfl, rfl⟩
theorem fl_X12_13 : FLk RX12 13 12 3 false .int := ⟨RX12, TX12, 66, tyX12, rfl, by decide, by decide, lay_X12, tyX12_ok, nmX12, in_g (List.mem_of_getElem? (i := 1330) (by decide +kernel)) (by decide +kernel), rfl, rfl⟩
theorem fl_X12_17 : FLk RX12 17 12 4 false .int := ⟨RX12, TX12, 66, tyX12, rfl, by decide, by decide, lay_X12, tyX12_ok, nmX12, in_g (List.mem_of_getElem? (i := 1331) (by decide +kernel)) (by decide +kernel), rfl, rfl⟩
theorem fl_X12_20 : FLk RX12 20 12 5 false .int := ⟨RX12, TX12, 66, tyX12, rfl, by decide, by decide, lay_X12, tyX12_ok, nmX12, in_g (List.mem_of_getElem? (i := 1332) (by decide +kernel)) (by decide +kernel), rfl, rfl⟩
theorem fl_X12_135 : FLk RX12 135 12 6 false .int := ⟨RX12, TX12, 66, tyX12, rfl, by decide, by decide, lay_X12, tyX12_ok, nmX12, in_g (List.mem_of_getElem? (i := 1333) (by decide +kernel)) (by decide +kernel), rfl, rfl⟩
theorem fl_X12_23 : FLk RX12 23 12 7 false .int := ⟨RX12, TX12, 66, tyX12, rfl, by decide, by decide, lay_X12, tyX12_ok, nmX12, in_g (List.mem_of_getElem? (i := 1334) (by decide +kernel)) (by decide +kernel), rfl, rfl⟩
theorem fl_X12_26 : FLk RX12 26 12 8 false .int := ⟨RX12, TX12, 66, tyX12, rfl, by decide, by decide, lay_X12, tyX12_ok, nmX12, in_g (List.mem_of_getElem? (i := 1335) (by decide +kernel)) (by decide +kernel), rfl, rfl⟩
theorem fl_X12_29 : FLk RX12 29 12 9 true (.array .int) := ⟨RX12, TX12, 66, tyX12, rfl, by decide, by decide, lay_X12, tyX12_ok, nmX12, in_g (List.mem_of_getElem? (i := 1336) (by decide +kernel)) (by decide +kernel), rfl, rfl⟩
theorem fl_X12_213 : FLk RX12 213 12 10 false .int := ⟨RX12, TX12, 66, tyX12, rfl, by decide, by decide, lay_X12, tyX12_ok, nmX12, in_g (List.mem_of_getElem? (i := 1337) (by decide +kernel)) (by decide +kernel), rfl, rfl⟩
theorem fl_X12_32 : FLk RX12 32 12 11 false .int := ⟨RX12, TX12, 66, tyX12, rfl, by decide, by decide, lay_X12, tyX12_ok, nmX12, in_g (List.mem_of_getElem? (i := 1338) (by decide +kernel)) (by decide +kernel), rfl, rfl⟩
theorem fl_X12_291 : FLk RX12 291 12 12 false .boolean := ⟨RX12, TX12, 66, tyX12, rfl, by decide, by decide, lay_X12, tyX12_ok, nmX12, in_g (List.mem_of_getElem? (i := 1339) (by decide +kernel)) (by decide +kernel), rfl, rfl⟩
theorem fl_X12_219 : FLk RX12 219 12 13 false .int := ⟨RX12, TX12, 66, tyX12, rfl, by decide, by decide, lay_X12, tyX12_ok, nmX12, in_g (List.mem_of_getElem? (i := 1340) (by decide +kernel)) (by decide +kernel), rfl, rfl⟩
theorem fl_X12_222 : FLk RX12 222 12 14 false .int := ⟨RX12, TX12, 66, tyX12, rfl, by decide, by decide, lay_X12, tyX12_ok, nmX12, in_g (List.mem_of_getElem? (i := 1341) (by decide +kernel)) (by decide +kernel), rfl, rfl⟩
theorem fl_X12_225 : FLk RX12 225 12 15 false .int := ⟨RX12, TX12, 66, tyX12, rfl, by decide, by decide, lay_X12, tyX12_ok, nmX12, in_g (List.mem_of_getElem? (i := 1342) (by decide +kernel)) (by decide +kernel), rfl, rfl⟩
theorem fl_X12_235 : FLk RX12 235 12 16 false .int := ⟨RX12, TX12, 66, tyX12, rfl, by decide, by decide, lay_X12, tyX12_ok, nmX12, in_g (List.mem_of_getElem? (i := 1343) (by decide +kernel)) (by decide +kernel), rfl, rfl⟩
theorem fl_X12_216 : FLk RX12 216 12 17 false .int := ⟨RX12, TX12, 66, tyX12, rfl, by decide, by decide, lay_X12, tyX12_ok, nmX12, in_g (List.mem_of_getElem? (i := 1344) (by decide +kernel)) (by decide +kernel), rfl, rfl⟩
theorem fl_X12_276 : FLk RX12 276 12 18 false .int := ⟨RX12, TX12, 66, tyX12, rfl, by decide, by decide, lay_X12, tyX12_ok, nmX12, in_g (List.mem_of_getElem? (i := 1345) (by decide +kernel)) (by decide +kernel), rfl, rfl⟩
theorem fl_X12_35 : FLk RX12 35 12 19 true (.array .int) := ⟨RX12, TX12, 66, tyX12, rfl, by decide, by decide, lay_X12, tyX12_ok, nmX12, in_g (List.mem_of_getElem? (i := 1346) (by decide +kernel)) (by decide +kernel), rfl, rfl⟩
theorem fl_X12_38 : FLk RX12 38 12 20 true (.array .int) := ⟨RX12, TX12, 66, tyX12, rfl, by decide, by decide, lay_X12, tyX12_ok, nmX12, in_g (List.mem_of_getElem? (i := 1347) (by decide +kernel)) (by decide +kernel), rfl, rfl⟩
theorem fl_X12_41 : FLk RX12 41 12 21 true (.array .int) := ⟨RX12, TX12, 66, tyX12, rfl, by decide, by decide, lay_X12, tyX12_ok, nmX12, in_g (List.mem_of_getElem? (i := 1348) (by decide +kernel)) (by decide +kernel), rfl, rfl⟩
theorem fl_X12_273 : FLk RX12 273 12 22 false .int := ⟨RX12, TX12, 66, tyX12, rfl, by decide, by decide, lay_X12, tyX12_ok, nmX12, in_g (List.mem_of_getElem? (i := 1349) (by decide +kernel)) (by decide +kernel), rfl, rfl⟩
theorem fl_X12_44 : FLk RX12 44 12 23 true (.array .int) := ⟨RX12, TX12, 66, tyX12, rfl, by decide, by decide, lay_X12, tyX12_ok, nmX12, in_g (List.mem_of_getElem? (i := 1350) (by decide +kernel)) (by decide +kernel), rfl, rfl⟩
theorem fl_X12_244 : FLk RX12 244 12 24 false .int := ⟨RX12, TX12, 66, tyX12, rfl, by decide, by decide, lay_X12, tyX12_ok, nmX12, in_g (List.mem_of_getElem? (i := 1351) (by decide +kernel)) (by decide +kernel), rfl, rfl⟩
theorem fl_X12_47 : FLk RX12 47 12 25 true (.array .int) := ⟨RX12, TX12, 66, tyX12, rfl, by decide, by decide, lay_X12, tyX12_ok, nmX12, in_g (List.mem_of_getElem? (i := 1352) (by decide +kernel)) (by decide +kernel), rfl, rfl⟩
theorem fl_X12_50 : FLk RX12 50 12 26 true (.array .int) := ⟨RX12, TX12, 66, tyX12, rfl, by decide, by decide, lay_X12, tyX12_ok, nmX12, in_g (List.mem_of_getElem? (i := 1353) (by decide +kernel)) (by decide +kernel), rfl, rfl⟩
theorem fl_X12_53 : FLk RX12 53 12 27 true (.array .int) := ⟨RX12, TX12, 66, tyX12, rfl, by decide, by decide, lay_X12, tyX12_ok, nmX12, in_g (List.mem_of_getElem? (i := 1354) (by decide +kernel)) (by decide +kernel), rfl, rfl⟩
theorem fl_X12_56 : FLk RX12 56 12 28 true (.array .int) := ⟨RX12, TX12, 66, tyX12, rfl, by decide, by decide, lay_X12, tyX12_ok, nmX12, in_g (List.mem_of_getElem? (i := 1355) (by decide +kernel)) (by decide +kernel), rfl, rfl⟩
theorem fl_X12_164 : FLk RX12 164 12 29 false .int := ⟨RX12, TX12, 66, tyX12, rfl, by decide, by decide, lay_X12, tyX12_ok, nmX12, in_g (List.mem_of_getElem? (i := 1356) (by decide +kernel)) (by decide +kernel), rfl, rfl⟩
theorem fl_X12_171 : FLk RX12 171 12 30 false .int := ⟨RX12, TX12, 66, tyX12, rfl, by decide, by decide, lay_X12, tyX12_ok, nmX12, in_g (List.mem_of_getElem? (i := 1357) (by decide +kernel)) (by decide +kernel), rfl, rfl⟩
theorem fl_X12_59 : FLk RX12 59 12 31 true (.array .int) := ⟨RX12, TX12, 66, tyX12, rfl, by decide, by decide, lay_X12, tyX12_ok, nmX12, in_g (List.mem_of_getElem? (i := 1358) (by decide +kernel)) (by decide +kernel), rfl, rfl⟩
theorem fl_X12_62 : FLk RX12 62 12 32 true (.array .int) := ⟨RX12, TX12, 66, tyX12, rfl, by decide, by decide, lay_X12, tyX12_ok, nmX12, in_g (List.mem_of_getElem? (i := 1359) (by decide +kernel)) (by decide +kernel), rfl, rfl⟩
theorem fl_X12_65 : FLk RX12 65 12 33 true (.array .boolean) := ⟨RX12, TX12, 66, tyX12, rfl, by decide, by decide, lay_X12, tyX12_ok, nmX12, in_g (List.mem_of_getElem? (i := 1360) (by decide +kernel)) (by decide +kernel), rfl, rfl⟩
theorem fl_X12_297 : FLk RX12 297 12 34 false .int := ⟨RX12, TX12, 66, tyX12, rfl, by decide, by decide, lay_X12, tyX12_ok, nmX12, in_g (List.mem_of_getElem? (i := 1361) (by decide +kernel)) (by decide +kernel), rfl, rfl⟩
theorem fl_X12_300 : FLk RX12 300 12 35 false .int := ⟨RX12, TX12, 66, tyX12, rfl, by decide, by decide, lay_X12, tyX12_ok, nmX12, in_g (List.mem_of_getElem? (i := 1362) (by decide +kernel)) (by decide +kernel), rfl, rfl⟩
theorem fl_X12_69 : FLk RX12 69 12 36 true (.array .int) := ⟨RX12, TX12, 66, tyX12, rfl, by decide, by decide, lay_X12, tyX12_ok, nmX12, in_g (List.mem_of_getElem? (i := 1363) (by decide +kernel)) (by decide +kernel), rfl, rfl⟩
theorem fl_X12_72 : FLk RX12 72 12 37 true (.array .int) := ⟨RX12, TX12, 66, tyX12, rfl, by decide, by decide, lay_X12, tyX12_ok, nmX12, in_g (List.mem_of_getElem? (i := 1364) (by decide +kernel)) (by decide +kernel), rfl, rfl⟩
theorem fl_X12_75 : FLk RX12 75 12 38 true (.array .int) := ⟨RX12, TX12, 66, tyX12, rfl, by decide, by decide, lay_X12, tyX12_ok, nmX12, in_g (List.mem_of_getElem? (i := 1365) (by decide +kernel)) (by decide +kernel), rfl, rfl⟩
theorem fl_X12_78 : FLk RX12 78 12 39 true (.array .int) := ⟨RX12, TX12, 66, tyX12, rfl, by decide, by decide, lay_X12, tyX12_ok, nmX12, in_g (List.mem_of_getElem? (i := 1366) (by decide +kernel)) (by decide +kernel), rfl, rfl⟩
theorem fl_X12_81 : FLk RX12 81 12 40 true (.array .long) := ⟨RX12, TX12, 66, tyX12, rfl, by decide, by decide, lay_X12, tyX12_ok, nmX12, in_g (List.mem_of_getElem? (i := 1367) (by decide +kernel)) (by decide +kernel), rfl, rfl⟩
theorem fl_X12_85 : FLk RX12 85 12 41 true (.array .long) := ⟨RX12, TX12, 66, tyX12, rfl, by decide, by decide, lay_X12, tyX12_ok, nmX12, in_g (List.mem_of_getElem? (i := 1368) (by decide +kernel)) (by decide +kernel), rfl, rfl⟩
theorem fl_X12_359 : FLk RX12 359 12 42 false .int := ⟨RX12, TX12, 66, tyX12, rfl, by decide, by decide, lay_X12, tyX12_ok, nmX12, in_g (List.mem_of_getElem? (i := 1369) (by decide +kernel)) (by decide +kernel), rfl, rfl⟩
theorem fl_X12_362 : FLk RX12 362 12 43 false .int := ⟨RX12, TX12, 66, tyX12, rfl, by decide, by decide, lay_X12, tyX12_ok, nmX12, in_g (List.mem_of_getElem? (i := 1370) (by decide +kernel)) (by decide +kernel), rfl, rfl⟩
theorem fl_X12_365 : FLk RX12 365 12 44 false .int := ⟨RX12, TX12, 66, tyX12, rfl, by decide, by decide, lay_X12, tyX12_ok, nmX12, in_g (List.mem_of_getElem? (i := 1371) (by decide +kernel)) (by decide +kernel), rfl, rfl⟩
theorem fl_X12_368 : FLk RX12 368 12 45 false .int := ⟨RX12, TX12, 66, tyX12, rfl, by decide, by decide, lay_X12, tyX12_ok, nmX12, in_g (List.mem_of_getElem? (i := 1372) (by decide +kernel)) (by decide +kernel), rfl, rfl⟩
theorem fl_X12_371 : FLk RX12 371 12 46 false .int := ⟨RX12, TX12, 66, tyX12, rfl, by decide, by decide, lay_X12, tyX12_ok, nmX12, in_g (List.mem_of_getElem? (i := 1373) (by decide +kernel)) (by decide +kernel), rfl, rfl⟩
theorem fl_X12_88 : FLk RX12 88 12 47 true (.array .int) := ⟨RX12, TX12, 66, tyX12, rfl, by decide, by decide, lay_X12, tyX12_ok, nmX12, in_g (List.mem_of_getElem? (i := 1374) (by decide +kernel)) (by decide +kernel), rfl, rfl⟩
theorem fl_X12_177 : FLk RX12 177 12 48 false .int := ⟨RX12, TX12, 66, tyX12, rfl, by decide, by decide, lay_X12, tyX12_ok, nmX12, in_g (List.mem_of_getElem? (i := 1375) (by decide +kernel)) (by decide +kernel), rfl, rfl⟩
theorem fl_X12_91 : FLk RX12 91 12 49 true (.array .int) := ⟨RX12, TX12, 66, tyX12, rfl, by decide, by decide, lay_X12, tyX12_ok, nmX12, in_g (List.mem_of_getElem? (i := 1376) (by decide +kernel)) (by decide +kernel), rfl, rfl⟩
theorem fl_X12_94 : FLk RX12 94 12 50 true (.array .int) := ⟨RX12, TX12, 66, tyX12, rfl, by decide, by decide, lay_X12, tyX12_ok, nmX12, in_g (List.mem_of_getElem? (i := 1377) (by decide +kernel)) (by decide +kernel), rfl, rfl⟩
theorem fl_X12_97 : FLk RX12 97 12 51 true (.array .int) := ⟨RX12, TX12, 66, tyX12, rfl, by decide, by decide, lay_X12, tyX12_ok, nmX12, in_g (List.mem_of_getElem? (i := 1378) (by decide +kernel)) (by decide +kernel), rfl, rfl⟩
theorem fl_X12_100 : FLk RX12 100 12 52 true (.array .int) := ⟨RX12, TX12, 66, tyX12, rfl, by decide, by decide, lay_X12, tyX12_ok, nmX12, in_g (List.mem_of_getElem? (i := 1379) (by decide +kernel)) (by decide +kernel), rfl, rfl⟩
theorem fl_X12_103 : FLk RX12 103 12 53 true (.array .int) := ⟨RX12, TX12, 66, tyX12, rfl, by decide, by decide, lay_X12, tyX12_ok, nmX12, in_g (List.mem_of_getElem? (i := 1380) (by decide +kernel)) (by decide +kernel), rfl, rfl⟩
theorem fl_X12_106 : FLk RX12 106 12 54 true (.array .int) := ⟨RX12, TX12, 66, tyX12, rfl, by decide, by decide, lay_X12, tyX12_ok, nmX12, in_g (List.mem_of_getElem? (i := 1381) (by decide +kernel)) (by decide +kernel), rfl, rfl⟩
theorem fl_X12_401 : FLk RX12 401 12 55 false .int := ⟨RX12, TX12, 66, tyX12, rfl, by decide, by decide, lay_X12, tyX12_ok, nmX12, in_g (List.mem_of_getElem? (i := 1382) (by decide +kernel)) (by decide +kernel), rfl, rfl⟩
theorem fl_X12_109 : FLk RX12 109 12 56 true (.array .int) := ⟨RX12, TX12, 66, tyX12, rfl, by decide, by decide, lay_X12, tyX12_ok, nmX12, in_g (List.mem_of_getElem? (i := 1383) (by decide +kernel)) (by decide +kernel), rfl, rfl⟩
theorem fl_X12_112 : FLk RX12 112 12 57 true (.array .int) := ⟨RX12, TX12, 66, tyX12, rfl, by decide, by decide, lay_X12, tyX12_ok, nmX12, in_g (List.mem_of_getElem? (i := 1384) (by decide +kernel)) (by decide +kernel), rfl, rfl⟩
theorem fl_X12_115 : FLk RX12 115 12 58 true (.array .int) := ⟨RX12, TX12, 66, tyX12, rfl, by decide, by decide, lay_X12, tyX12_ok, nmX12, in_g (List.mem_of_getElem? (i := 1385) (by decide +kernel)) (by decide +kernel), rfl, rfl⟩
theorem fl_X12_118 : FLk RX12 118 12 59 true (.array .int) := ⟨RX12, TX12, 66, tyX12, rfl, by decide, by decide, lay_X12, tyX12_ok, nmX12, in_g (List.mem_of_getElem? (i := 1386) (by decide +kernel)) (by decide +kernel), rfl, rfl⟩
theorem fl_X12_424 : FLk RX12 424 12 60 false .int := ⟨RX12, TX12, 66, tyX12, rfl, by decide, by decide, lay_X12, tyX12_ok, nmX12, in_g (List.mem_of_getElem? (i := 1387) (by decide +kernel)) (by decide +kernel), rfl, rfl⟩
theorem fl_X12_121 : FLk RX12 121 12 61 true (.array .int) := ⟨RX12, TX12, 66, tyX12, rfl, by decide, by decide, lay_X12, tyX12_ok, nmX12, in_g (List.mem_of_getElem? (i := 1388) (by decide +kernel)) (by decide +kernel), rfl, rfl⟩
theorem fl_X12_180 : FLk RX12 180 12 62 false .boolean := ⟨RX12, TX12, 66, tyX12, rfl, by decide, by decide, lay_X12, tyX12_ok, nmX12, in_g (List.mem_of_getElem? (i := 1389) (by decide +kernel)) (by decide +kernel), rfl, rfl⟩
theorem fl_X12_430 : FLk RX12 430 12 63 false .int := ⟨RX12, TX12, 66, tyX12, rfl, by decide, by decide, lay_X12, tyX12_ok, nmX12, in_g (List.mem_of_getElem? (i := 1390) (by decide +kernel)) (by decide +kernel), rfl, rfl⟩
theorem fl_X12_433 : FLk RX12 433 12 64 false .int := ⟨RX12, TX12, 66, tyX12, rfl, by decide, by decide, lay_X12, tyX12_ok, nmX12, in_g (List.mem_of_getElem? (i := 1391) (by decide +kernel)) (by decide +kernel), rfl, rfl⟩
theorem fl_X12_436 : FLk RX12 436 12 65 false .int := ⟨RX12, TX12, 66, tyX12, rfl, by decide, by decide, lay_X12, tyX12_ok, nmX12, in_g (List.mem_of_getElem? (i := 1392) (by decide +kernel)) (by decide +kernel), rfl, rfl⟩
abbrev mX11_begin : MI := (yX11_begin, cX11_begin, 1, none)
theorem vX11_begin : MVk mX11_begin 0 := ⟨in_g (List.mem_of_getElem? (i := 1184) (by decide +kernel)) (by decide +kernel), in_g (List.mem_of_getElem? (i := 1185) (by decide +kernel)) (by decide +kernel), in_g (List.mem_of_getElem? (i := 105) (by decide +kernel)) (by decide +kernel), in_g (List.mem_of_getElem? (i := 1186) (by decide +kernel)) (by decide +kernel), ⟨by decide +kernel, by decide +kernel, by decide +kernel⟩, by decide⟩
abbrev mX11_clear : MI := (yX11_clear, cX11_clear, 5, some .int)
theorem vX11_clear : MVk mX11_clear 4 := ⟨in_g (List.mem_of_getElem? (i := 1120) (by decide +kernel)) (by decide +kernel), in_g (List.mem_of_getElem? (i := 1121) (by decide +kernel)) (by decide +kernel), in_g (List.mem_of_getElem? (i := 105) (by decide +kernel)) (by decide +kernel), in_g (List.mem_of_getElem? (i := 1122) (by decide +kernel)) (by decide +kernel), ⟨by decide +kernel, by decide +kernel, by decide +kernel⟩, by decide⟩
abbrev mX11_count : MI := (yX11_count, cX11_count, 2, some .int)
theorem vX11_count : MVk mX11_count 1 := ⟨in_g (List.mem_of_getElem? (i := 1215) (by decide +kernel)) (by decide +kernel), in_g (List.mem_of_getElem? (i := 1216) (by decide +kernel)) (by decide +kernel), in_g (List.mem_of_getElem? (i := 105) (by decide +kernel)) (by decide +kernel), in_g (List.mem_of_getElem? (i := 1217) (by decide +kernel)) (by decide +kernel), ⟨by decide +kernel, by decide +kernel, by decide +kernel⟩, by decide⟩
abbrev mX11_draw : MI := (yX11_draw, cX11_draw, 3, some .int)
theorem vX11_draw : MVk mX11_draw 1 := ⟨in_g (List.mem_of_getElem? (i := 671) (by decide +kernel)) (by decide +kernel), in_g (List.mem_of_getElem? (i := 672) (by decide +kernel)) (by decide +kernel), in_g (List.mem_of_getElem? (i := 105) (by decide +kernel)) (by decide +kernel), in_g (List.mem_of_getElem? (i := 673) (by decide +kernel)) (by decide +kernel), ⟨by decide +kernel, by decide +kernel, by decide +kernel⟩, by decide⟩
abbrev mX11_dropWhatHangsOnMoves : MI := (yX11_dropWhatHangsOnMoves, cX11_dropWhatHangsOnMoves, 1, none)
theorem vX11_dropWhatHangsOnMoves : MVk mX11_dropWhatHangsOnMoves 0 := ⟨in_g (List.mem_of_getElem? (i := 652) (by decide +kernel)) (by decide +kernel), in_g (List.mem_of_getElem? (i := 1) (by decide +kernel)) (by decide +kernel), in_g (List.mem_of_getElem? (i := 105) (by decide +kernel)) (by decide +kernel), in_g (List.mem_of_getElem? (i := 653) (by decide +kernel)) (by decide +kernel), ⟨by decide +kernel, by decide +kernel, by decide +kernel⟩, by decide⟩
abbrev mX11_fault : MI := (yX11_fault, cX11_fault, 2, some .int)
theorem vX11_fault : MVk mX11_fault 1 := ⟨in_g (List.mem_of_getElem? (i := 886) (by decide +kernel)) (by decide +kernel), in_g (List.mem_of_getElem? (i := 887) (by decide +kernel)) (by decide +kernel), in_g (List.mem_of_getElem? (i := 105) (by decide +kernel)) (by decide +kernel), in_g (List.mem_of_getElem? (i := 888) (by decide +kernel)) (by decide +kernel), ⟨by decide +kernel, by decide +kernel, by decide +kernel⟩, by decide⟩
abbrev mX11_feed : MI := (yX11_feed, cX11_feed, 6, some .int)
theorem vX11_feed : MVk mX11_feed 5 := ⟨in_g (List.mem_of_getElem? (i := 632) (by decide +kernel)) (by decide +kernel), in_g (List.mem_of_getElem? (i := 633) (by decide +kernel)) (by decide +kernel), in_g (List.mem_of_getElem? (i := 105) (by decide +kernel)) (by decide +kernel), in_g (List.mem_of_getElem? (i := 634) (by decide +kernel)) (by decide +kernel), ⟨by decide +kernel, by decide +kernel, by decide +kernel⟩, by decide⟩
abbrev mX11_forget : MI := (yX11_forget, cX11_forget, 1, some .int)
theorem vX11_forget : MVk mX11_forget 0 := ⟨in_g (List.mem_of_getElem? (i := 1066) (by decide +kernel)) (by decide +kernel), in_g (List.mem_of_getElem? (i := 1067) (by decide +kernel)) (by decide +kernel), in_g (List.mem_of_getElem? (i := 105) (by decide +kernel)) (by decide +kernel), in_g (List.mem_of_getElem? (i := 1068) (by decide +kernel)) (by decide +kernel), ⟨by decide +kernel, by decide +kernel, by decide +kernel⟩, by decide⟩
abbrev mX11_found : MI := (yX11_found, cX11_found, 4, some .int)
theorem vX11_found : MVk mX11_found 2 := ⟨in_g (List.mem_of_getElem? (i := 1070) (by decide +kernel)) (by decide +kernel), in_g (List.mem_of_getElem? (i := 1071) (by decide +kernel)) (by decide +kernel), in_g (List.mem_of_getElem? (i := 105) (by decide +kernel)) (by decide +kernel), in_g (List.mem_of_getElem? (i := 1072) (by decide +kernel)) (by decide +kernel), ⟨by decide +kernel, by decide +kernel, by decide +kernel⟩, by decide⟩
abbrev mX11_grain : MI := (yX11_grain, cX11_grain, 3, some .int)
theorem vX11_grain : MVk mX11_grain 2 := ⟨in_g (List.mem_of_getElem? (i := 925) (by decide +kernel)) (by decide +kernel), in_g (List.mem_of_getElem? (i := 926) (by decide +kernel)) (by decide +kernel), in_g (List.mem_of_getElem? (i := 105) (by decide +kernel)) (by decide +kernel), in_g (List.mem_of_getElem? (i := 927) (by decide +kernel)) (by decide +kernel), ⟨by decide +kernel, by decide +kernel, by decide +kernel⟩, by decide⟩
abbrev mX11_isAxis : MI := (yX11_isAxis, cX11_isAxis, 1, some .boolean)
theorem sX11_isAxis : MSk mX11_isAxis 1 := ⟨in_g (List.mem_of_getElem? (i := 908) (by decide +kernel)) (by decide +kernel), in_g (List.mem_of_getElem? (i := 105) (by decide +kernel)) (by decide +kernel), in_g (List.mem_of_getElem? (i := 909) (by decide +kernel)) (by decide +kernel), ⟨by decide +kernel, by decide +kernel, by decide +kernel⟩, by decide⟩
abbrev mX11_isCord : MI := (yX11_isCord, cX11_isCord, 1, some .boolean)
theorem sX11_isCord : MSk mX11_isCord 1 := ⟨in_g (List.mem_of_getElem? (i := 899) (by decide +kernel)) (by decide +kernel), in_g (List.mem_of_getElem? (i := 105) (by decide +kernel)) (by decide +kernel), in_g (List.mem_of_getElem? (i := 900) (by decide +kernel)) (by decide +kernel), ⟨by decide +kernel, by decide +kernel, by decide +kernel⟩, by decide⟩
abbrev mX11_isPairing : MI := (yX11_isPairing, cX11_isPairing, 3, some .boolean)
theorem vX11_isPairing : MVk mX11_isPairing 2 := ⟨in_g (List.mem_of_getElem? (i := 1125) (by decide +kernel)) (by decide +kernel), in_g (List.mem_of_getElem? (i := 37) (by decide +kernel)) (by decide +kernel), in_g (List.mem_of_getElem? (i := 105) (by decide +kernel)) (by decide +kernel), in_g (List.mem_of_getElem? (i := 1126) (by decide +kernel)) (by decide +kernel), ⟨by decide +kernel, by decide +kernel, by decide +kernel⟩, by decide⟩
abbrev mX11_isWithin : MI := (yX11_isWithin, cX11_isWithin, 3, some .boolean)
theorem sX11_isWithin : MSk mX11_isWithin 3 := ⟨in_g (List.mem_of_getElem? (i := 644) (by decide +kernel)) (by decide +kernel), in_g (List.mem_of_getElem? (i := 105) (by decide +kernel)) (by decide +kernel), in_g (List.mem_of_getElem? (i := 645) (by decide +kernel)) (by decide +kernel), ⟨by decide +kernel, by decide +kernel, by decide +kernel⟩, by decide⟩
abbrev mX11_joint : MI := (yX11_joint, cX11_joint, 4, some .int)
theorem vX11_joint : MVk mX11_joint 3 := ⟨in_g (List.mem_of_getElem? (i := 1148) (by decide +kernel)) (by decide +kernel), in_g (List.mem_of_getElem? (i := 1149) (by decide +kernel)) (by decide +kernel), in_g (List.mem_of_getElem? (i := 105) (by decide +kernel)) (by decide +kernel), in_g (List.mem_of_getElem? (i := 1150) (by decide +kernel)) (by decide +kernel), ⟨by decide +kernel, by decide +kernel, by decide +kernel⟩, by decide⟩
abbrev mX11_look : MI := (yX11_look, cX11_look, 3, some .int)
theorem vX11_look : MVk mX11_look 2 := ⟨in_g (List.mem_of_getElem? (i := 1224) (by decide +kernel)) (by decide +kernel), in_g (List.mem_of_getElem? (i := 1225) (by decide +kernel)) (by decide +kernel), in_g (List.mem_of_getElem? (i := 105) (by decide +kernel)) (by decide +kernel), in_g (List.mem_of_getElem? (i := 1226) (by decide +kernel)) (by decide +kernel), ⟨by decide +kernel, by decide +kernel, by decide +kernel⟩, by decide⟩
abbrev mX11_mark : MI := (yX11_mark, cX11_mark, 5, some .int)
theorem vX11_mark : MVk mX11_mark 4 := ⟨in_g (List.mem_of_getElem? (i := 1163) (by decide +kernel)) (by decide +kernel), in_g (List.mem_of_getElem? (i := 1164) (by decide +kernel)) (by decide +kernel), in_g (List.mem_of_getElem? (i := 105) (by decide +kernel)) (by decide +kernel), in_g (List.mem_of_getElem? (i := 1165) (by decide +kernel)) (by decide +kernel), ⟨by decide +kernel, by decide +kernel, by decide +kernel⟩, by decide⟩
abbrev mX11_mended : MI := (yX11_mended, cX11_mended, 5, some .int)
theorem vX11_mended : MVk mX11_mended 3 := ⟨in_g (List.mem_of_getElem? (i := 1104) (by decide +kernel)) (by decide +kernel), in_g (List.mem_of_getElem? (i := 1105) (by decide +kernel)) (by decide +kernel), in_g (List.mem_of_getElem? (i := 105) (by decide +kernel)) (by decide +kernel), in_g (List.mem_of_getElem? (i := 1106) (by decide +kernel)) (by decide +kernel), ⟨by decide +kernel, by decide +kernel, by decide +kernel⟩, by decide⟩
abbrev mX11_miss : MI := (yX11_miss, cX11_miss, 4, some .boolean)
theorem vX11_miss : MVk mX11_miss 3 := ⟨in_g (List.mem_of_getElem? (i := 1042) (by decide +kernel)) (by decide +kernel), in_g (List.mem_of_getElem? (i := 1043) (by decide +kernel)) (by decide +kernel), in_g (List.mem_of_getElem? (i := 105) (by decide +kernel)) (by decide +kernel), in_g (List.mem_of_getElem? (i := 1044) (by decide +kernel)) (by decide +kernel), ⟨by decide +kernel, by decide +kernel, by decide +kernel⟩, by decide⟩
abbrev mX11_offset : MI := (yX11_offset, cX11_offset, 3, some .int)
theorem vX11_offset : MVk mX11_offset 2 := ⟨in_g (List.mem_of_getElem? (i := 1171) (by decide +kernel)) (by decide +kernel), in_g (List.mem_of_getElem? (i := 1172) (by decide +kernel)) (by decide +kernel), in_g (List.mem_of_getElem? (i := 105) (by decide +kernel)) (by decide +kernel), in_g (List.mem_of_getElem? (i := 1173) (by decide +kernel)) (by decide +kernel), ⟨by decide +kernel, by decide +kernel, by decide +kernel⟩, by decide⟩
abbrev mX11_other : MI := (yX11_other, cX11_other, 1, some .int)
theorem vX11_other : MVk mX11_other 0 := ⟨in_g (List.mem_of_getElem? (i := 1112) (by decide +kernel)) (by decide +kernel), in_g (List.mem_of_getElem? (i := 1113) (by decide +kernel)) (by decide +kernel), in_g (List.mem_of_getElem? (i := 105) (by decide +kernel)) (by decide +kernel), in_g (List.mem_of_getElem? (i := 1114) (by decide +kernel)) (by decide +kernel), ⟨by decide +kernel, by decide +kernel, by decide +kernel⟩, by decide⟩
abbrev mX11_parts : MI := (yX11_parts, cX11_parts, 3, some .int)
theorem vX11_parts : MVk mX11_parts 2 := ⟨in_g (List.mem_of_getElem? (i := 1004) (by decide +kernel)) (by decide +kernel), in_g (List.mem_of_getElem? (i := 1005) (by decide +kernel)) (by decide +kernel), in_g (List.mem_of_getElem? (i := 105) (by decide +kernel)) (by decide +kernel), in_g (List.mem_of_getElem? (i := 1006) (by decide +kernel)) (by decide +kernel), ⟨by decide +kernel, by decide +kernel, by decide +kernel⟩, by decide⟩
abbrev mX11_place : MI := (yX11_place, cX11_place, 4, some .int)
theorem vX11_place : MVk mX11_place 3 := ⟨in_g (List.mem_of_getElem? (i := 904) (by decide +kernel)) (by decide +kernel), in_g (List.mem_of_getElem? (i := 905) (by decide +kernel)) (by decide +kernel), in_g (List.mem_of_getElem? (i := 105) (by decide +kernel)) (by decide +kernel), in_g (List.mem_of_getElem? (i := 906) (by decide +kernel)) (by decide +kernel), ⟨by decide +kernel, by decide +kernel, by decide +kernel⟩, by decide⟩
abbrev mX11_placeNumber : MI := (yX11_placeNumber, cX11_placeNumber, 4, some .int)
theorem vX11_placeNumber : MVk mX11_placeNumber 3 := ⟨in_g (List.mem_of_getElem? (i := 913) (by decide +kernel)) (by decide +kernel), in_g (List.mem_of_getElem? (i := 24) (by decide +kernel)) (by decide +kernel), in_g (List.mem_of_getElem? (i := 105) (by decide +kernel)) (by decide +kernel), in_g (List.mem_of_getElem? (i := 914) (by decide +kernel)) (by decide +kernel), ⟨by decide +kernel, by decide +kernel, by decide +kernel⟩, by decide⟩
abbrev mX11_pull : MI := (yX11_pull, cX11_pull, 4, some .int)
theorem vX11_pull : MVk mX11_pull 3 := ⟨in_g (List.mem_of_getElem? (i := 945) (by decide +kernel)) (by decide +kernel), in_g (List.mem_of_getElem? (i := 946) (by decide +kernel)) (by decide +kernel), in_g (List.mem_of_getElem? (i := 105) (by decide +kernel)) (by decide +kernel), in_g (List.mem_of_getElem? (i := 947) (by decide +kernel)) (by decide +kernel), ⟨by decide +kernel, by decide +kernel, by decide +kernel⟩, by decide⟩
abbrev mX11_reach : MI := (yX11_reach, cX11_reach, 1, some .int)
theorem vX11_reach : MVk mX11_reach 0 := ⟨in_g (List.mem_of_getElem? (i := 963) (by decide +kernel)) (by decide +kernel), in_g (List.mem_of_getElem? (i := 964) (by decide +kernel)) (by decide +kernel), in_g (List.mem_of_getElem? (i := 105) (by decide +kernel)) (by decide +kernel), in_g (List.mem_of_getElem? (i := 965) (by decide +kernel)) (by decide +kernel), ⟨by decide +kernel, by decide +kernel, by decide +kernel⟩, by decide⟩
abbrev mX11_real : MI := (yX11_real, cX11_real, 3, some .int)
theorem vX11_real : MVk mX11_real 2 := ⟨in_g (List.mem_of_getElem? (i := 1046) (by decide +kernel)) (by decide +kernel), in_g (List.mem_of_getElem? (i := 1047) (by decide +kernel)) (by decide +kernel), in_g (List.mem_of_getElem? (i := 105) (by decide +kernel)) (by decide +kernel), in_g (List.mem_of_getElem? (i := 1048) (by decide +kernel)) (by decide +kernel), ⟨by decide +kernel, by decide +kernel, by decide +kernel⟩, by decide⟩
abbrev mX11_realNumber : MI := (yX11_realNumber, cX11_realNumber, 7, some .int)
theorem vX11_realNumber : MVk mX11_realNumber 4 := ⟨in_g (List.mem_of_getElem? (i := 1051) (by decide +kernel)) (by decide +kernel), in_g (List.mem_of_getElem? (i := 31) (by decide +kernel)) (by decide +kernel), in_g (List.mem_of_getElem? (i := 105) (by decide +kernel)) (by decide +kernel), in_g (List.mem_of_getElem? (i := 1052) (by decide +kernel)) (by decide +kernel), ⟨by decide +kernel, by decide +kernel, by decide +kernel⟩, by decide⟩
abbrev mX11_root : MI := (yX11_root, cX11_root, 11, some .long)
theorem sX11_root : MSk mX11_root 2 := ⟨in_g (List.mem_of_getElem? (i := 581) (by decide +kernel)) (by decide +kernel), in_g (List.mem_of_getElem? (i := 105) (by decide +kernel)) (by decide +kernel), in_g (List.mem_of_getElem? (i := 582) (by decide +kernel)) (by decide +kernel), ⟨by decide +kernel, by decide +kernel, by decide +kernel⟩, by decide⟩
abbrev mX11_run : MI := (yX11_run, cX11_run, 2, some .int)
theorem vX11_run : MVk mX11_run 1 := ⟨in_g (List.mem_of_getElem? (i := 1203) (by decide +kernel)) (by decide +kernel), in_g (List.mem_of_getElem? (i := 1204) (by decide +kernel)) (by decide +kernel), in_g (List.mem_of_getElem? (i := 105) (by decide +kernel)) (by decide +kernel), in_g (List.mem_of_getElem? (i := 1205) (by decide +kernel)) (by decide +kernel), ⟨by decide +kernel, by decide +kernel, by decide +kernel⟩, by decide⟩
abbrev mX11_sag : MI := (yX11_sag, cX11_sag, 2, some .int)
theorem vX11_sag : MVk mX11_sag 1 := ⟨in_g (List.mem_of_getElem? (i := 972) (by decide +kernel)) (by decide +kernel), in_g (List.mem_of_getElem? (i := 973) (by decide +kernel)) (by decide +kernel), in_g (List.mem_of_getElem? (i := 105) (by decide +kernel)) (by decide +kernel), in_g (List.mem_of_getElem? (i := 974) (by decide +kernel)) (by decide +kernel), ⟨by decide +kernel, by decide +kernel, by decide +kernel⟩, by decide⟩
abbrev mX11_seen : MI := (yX11_seen, cX11_seen, 4, some .int)
theorem vX11_seen : MVk mX11_seen 3 := ⟨in_g (List.mem_of_getElem? (i := 1058) (by decide +kernel)) (by decide +kernel), in_g (List.mem_of_getElem? (i := 1059) (by decide +kernel)) (by decide +kernel), in_g (List.mem_of_getElem? (i := 105) (by decide +kernel)) (by decide +kernel), in_g (List.mem_of_getElem? (i := 1060) (by decide +kernel)) (by decide +kernel), ⟨by decide +kernel, by decide +kernel, by decide +kernel⟩, by decide⟩
abbrev mX11_set : MI := (yX11_set, cX11_set, 3, some .boolean)
theorem vX11_set : MVk mX11_set 2 := ⟨in_g (List.mem_of_getElem? (i := 663) (by decide +kernel)) (by decide +kernel), in_g (List.mem_of_getElem? (i := 664) (by decide +kernel)) (by decide +kernel), in_g (List.mem_of_getElem? (i := 105) (by decide +kernel)) (by decide +kernel), in_g (List.mem_of_getElem? (i := 665) (by decide +kernel)) (by decide +kernel), ⟨by decide +kernel, by decide +kernel, by decide +kernel⟩, by decide⟩
abbrev mX11_sizeOf : MI := (yX11_sizeOf, cX11_sizeOf, 2, some .long)
theorem sX11_sizeOf : MSk mX11_sizeOf 1 := ⟨in_g (List.mem_of_getElem? (i := 939) (by decide +kernel)) (by decide +kernel), in_g (List.mem_of_getElem? (i := 105) (by decide +kernel)) (by decide +kernel), in_g (List.mem_of_getElem? (i := 940) (by decide +kernel)) (by decide +kernel), ⟨by decide +kernel, by decide +kernel, by decide +kernel⟩, by decide⟩
abbrev mX11_skips : MI := (yX11_skips, cX11_skips, 2, some .int)
theorem vX11_skips : MVk mX11_skips 1 := ⟨in_g (List.mem_of_getElem? (i := 1019) (by decide +kernel)) (by decide +kernel), in_g (List.mem_of_getElem? (i := 1020) (by decide +kernel)) (by decide +kernel), in_g (List.mem_of_getElem? (i := 105) (by decide +kernel)) (by decide +kernel), in_g (List.mem_of_getElem? (i := 1021) (by decide +kernel)) (by decide +kernel), ⟨by decide +kernel, by decide +kernel, by decide +kernel⟩, by decide⟩
abbrev mX11_steps : MI := (yX11_steps, cX11_steps, 4, some .int)
theorem vX11_steps : MVk mX11_steps 3 := ⟨in_g (List.mem_of_getElem? (i := 890) (by decide +kernel)) (by decide +kernel), in_g (List.mem_of_getElem? (i := 891) (by decide +kernel)) (by decide +kernel), in_g (List.mem_of_getElem? (i := 105) (by decide +kernel)) (by decide +kernel), in_g (List.mem_of_getElem? (i := 892) (by decide +kernel)) (by decide +kernel), ⟨by decide +kernel, by decide +kernel, by decide +kernel⟩, by decide⟩
abbrev mX11_tick : MI := (yX11_tick, cX11_tick, 2, some .int)
theorem vX11_tick : MVk mX11_tick 1 := ⟨in_g (List.mem_of_getElem? (i := 1197) (by decide +kernel)) (by decide +kernel), in_g (List.mem_of_getElem? (i := 1198) (by decide +kernel)) (by decide +kernel), in_g (List.mem_of_getElem? (i := 105) (by decide +kernel)) (by decide +kernel), in_g (List.mem_of_getElem? (i := 1199) (by decide +kernel)) (by decide +kernel), ⟨by decide +kernel, by decide +kernel, by decide +kernel⟩, by decide⟩
abbrev mX11_ticks : MI := (yX11_ticks, cX11_ticks, 4, some .int)
theorem vX11_ticks : MVk mX11_ticks 1 := ⟨in_g (List.mem_of_getElem? (i := 1037) (by decide +kernel)) (by decide +kernel), in_g (List.mem_of_getElem? (i := 1038) (by decide +kernel)) (by decide +kernel), in_g (List.mem_of_getElem? (i := 105) (by decide +kernel)) (by decide +kernel), in_g (List.mem_of_getElem? (i := 1039) (by decide +kernel)) (by decide +kernel), ⟨by decide +kernel, by decide +kernel, by decide +kernel⟩, by decide⟩
abbrev mX11_together : MI := (yX11_together, cX11_together, 3, some .int)
theorem vX11_together : MVk mX11_together 2 := ⟨in_g (List.mem_of_getElem? (i := 1135) (by decide +kernel)) (by decide +kernel), in_g (List.mem_of_getElem? (i := 1136) (by decide +kernel)) (by decide +kernel), in_g (List.mem_of_getElem? (i := 105) (by decide +kernel)) (by decide +kernel), in_g (List.mem_of_getElem? (i := 1137) (by decide +kernel)) (by decide +kernel), ⟨by decide +kernel, by decide +kernel, by decide +kernel⟩, by decide⟩
abbrev mX11_wall : MI := (yX11_wall, cX11_wall, 4, some .boolean)
theorem vX11_wall : MVk mX11_wall 3 := ⟨in_g (List.mem_of_getElem? (i := 640) (by decide +kernel)) (by decide +kernel), in_g (List.mem_of_getElem? (i := 641) (by decide +kernel)) (by decide +kernel), in_g (List.mem_of_getElem? (i := 105) (by decide +kernel)) (by decide +kernel), in_g (List.mem_of_getElem? (i := 642) (by decide +kernel)) (by decide +kernel), ⟨by decide +kernel, by decide +kernel, by decide +kernel⟩, by decide⟩
abbrev mX0_append : MI := (yX0_append, cX0_append, 4, some .int)
theorem vX0_append : MVk mX0_append 3 := ⟨in_g (List.mem_of_getElem? (i := 1062) (by decide +kernel)) (by decide +kernel), in_g (List.mem_of_getElem? (i := 1063) (by decide +kernel)) (by decide +kernel), in_g (List.mem_of_getElem? (i := 113) (by decide +kernel)) (by decide +kernel), in_g (List.mem_of_getElem? (i := 1064) (by decide +kernel)) (by decide +kernel), ⟨by decide +kernel, by decide +kernel, by decide +kernel⟩, by decide⟩
abbrev mX0_chooseLeast : MI := (yX0_chooseLeast, cX0_chooseLeast, 6, none)
theorem vX0_chooseLeast : MVk mX0_chooseLeast 0 := ⟨in_g (List.mem_of_getElem? (i := 1096) (by decide +kernel)) (by decide +kernel), in_g (List.mem_of_getElem? (i := 35) (by decide +kernel)) (by decide +kernel), in_g (List.mem_of_getElem? (i := 113) (by decide +kernel)) (by decide +kernel), in_g (List.mem_of_getElem? (i := 1097) (by decide +kernel)) (by decide +kernel), ⟨by decide +kernel, by decide +kernel, by decide +kernel⟩, by decide⟩
abbrev mX0_firstField : MI := (yX0_firstField, cX0_firstField, 7, some .int)
theorem vX0_firstField : MVk mX0_firstField 4 := ⟨in_g (List.mem_of_getElem? (i := 1100) (by decide +kernel)) (by decide +kernel), in_g (List.mem_of_getElem? (i := 36) (by decide +kernel)) (by decide +kernel), in_g (List.mem_of_getElem? (i := 113) (by decide +kernel)) (by decide +kernel), in_g (List.mem_of_getElem? (i := 1101) (by decide +kernel)) (by decide +kernel), ⟨by decide +kernel, by decide +kernel, by decide +kernel⟩, by decide⟩
abbrev mX0_fits : MI := (yX0_fits, cX0_fits, 6, some .boolean)
theorem vX0_fits : MVk mX0_fits 4 := ⟨in_g (List.mem_of_getElem? (i := 1083) (by decide +kernel)) (by decide +kernel), in_g (List.mem_of_getElem? (i := 33) (by decide +kernel)) (by decide +kernel), in_g (List.mem_of_getElem? (i := 113) (by decide +kernel)) (by decide +kernel), in_g (List.mem_of_getElem? (i := 1084) (by decide +kernel)) (by decide +kernel), ⟨by decide +kernel, by decide +kernel, by decide +kernel⟩, by decide⟩
abbrev mX0_latestAhead : MI := (yX0_latestAhead, cX0_latestAhead, 4, some .int)
theorem vX0_latestAhead : MVk mX0_latestAhead 1 := ⟨in_g (List.mem_of_getElem? (i := 1108) (by decide +kernel)) (by decide +kernel), in_g (List.mem_of_getElem? (i := 1109) (by decide +kernel)) (by decide +kernel), in_g (List.mem_of_getElem? (i := 113) (by decide +kernel)) (by decide +kernel), in_g (List.mem_of_getElem? (i := 1110) (by decide +kernel)) (by decide +kernel), ⟨by decide +kernel, by decide +kernel, by decide +kernel⟩, by decide⟩
abbrev mX0_removeAll : MI := (yX0_removeAll, cX0_removeAll, 2, some .int)
theorem vX0_removeAll : MVk mX0_removeAll 0 := ⟨in_g (List.mem_of_getElem? (i := 659) (by decide +kernel)) (by decide +kernel), in_g (List.mem_of_getElem? (i := 660) (by decide +kernel)) (by decide +kernel), in_g (List.mem_of_getElem? (i := 113) (by decide +kernel)) (by decide +kernel), in_g (List.mem_of_getElem? (i := 661) (by decide +kernel)) (by decide +kernel), ⟨by decide +kernel, by decide +kernel, by decide +kernel⟩, by decide⟩
abbrev mX0_solve : MI := (yX0_solve, cX0_solve, 3, some .boolean)
theorem vX0_solve : MVk mX0_solve 1 := ⟨in_g (List.mem_of_getElem? (i := 1074) (by decide +kernel)) (by decide +kernel), in_g (List.mem_of_getElem? (i := 1075) (by decide +kernel)) (by decide +kernel), in_g (List.mem_of_getElem? (i := 113) (by decide +kernel)) (by decide +kernel), in_g (List.mem_of_getElem? (i := 1076) (by decide +kernel)) (by decide +kernel), ⟨by decide +kernel, by decide +kernel, by decide +kernel⟩, by decide⟩
abbrev mX0_spread : MI := (yX0_spread, cX0_spread, 2, none)
theorem vX0_spread : MVk mX0_spread 0 := ⟨in_g (List.mem_of_getElem? (i := 1091) (by decide +kernel)) (by decide +kernel), in_g (List.mem_of_getElem? (i := 34) (by decide +kernel)) (by decide +kernel), in_g (List.mem_of_getElem? (i := 113) (by decide +kernel)) (by decide +kernel), in_g (List.mem_of_getElem? (i := 1092) (by decide +kernel)) (by decide +kernel), ⟨by decide +kernel, by decide +kernel, by decide +kernel⟩, by decide⟩
abbrev mX0_weigh : MI := (yX0_weigh, cX0_weigh, 5, none)
theorem vX0_weigh : MVk mX0_weigh 2 := ⟨in_g (List.mem_of_getElem? (i := 1079) (by decide +kernel)) (by decide +kernel), in_g (List.mem_of_getElem? (i := 32) (by decide +kernel)) (by decide +kernel), in_g (List.mem_of_getElem? (i := 113) (by decide +kernel)) (by decide +kernel), in_g (List.mem_of_getElem? (i := 1080) (by decide +kernel)) (by decide +kernel), ⟨by decide +kernel, by decide +kernel, by decide +kernel⟩, by decide⟩
abbrev mX1_fewestTicks : MI := (yX1_fewestTicks, cX1_fewestTicks, 8, some .int)
theorem vX1_fewestTicks : MVk mX1_fewestTicks 2 := ⟨in_g (List.mem_of_getElem? (i := 1139) (by decide +kernel)) (by decide +kernel), in_g (List.mem_of_getElem? (i := 1140) (by decide +kernel)) (by decide +kernel), in_g (List.mem_of_getElem? (i := 114) (by decide +kernel)) (by decide +kernel), in_g (List.mem_of_getElem? (i := 1141) (by decide +kernel)) (by decide +kernel), ⟨by decide +kernel, by decide +kernel, by decide +kernel⟩, by decide⟩
abbrev mX1_gather : MI := (yX1_gather, cX1_gather, 6, some .int)
theorem sX1_gather : MSk mX1_gather 3 := ⟨in_g (List.mem_of_getElem? (i := 1156) (by decide +kernel)) (by decide +kernel), in_g (List.mem_of_getElem? (i := 114) (by decide +kernel)) (by decide +kernel), in_g (List.mem_of_getElem? (i := 1157) (by decide +kernel)) (by decide +kernel), ⟨by decide +kernel, by decide +kernel, by decide +kernel⟩, by decide⟩
abbrev mX1_isAway : MI := (yX1_isAway, cX1_isAway, 22, some .boolean)
theorem sX1_isAway : MSk mX1_isAway 6 := ⟨in_g (List.mem_of_getElem? (i := 1132) (by decide +kernel)) (by decide +kernel), in_g (List.mem_of_getElem? (i := 114) (by decide +kernel)) (by decide +kernel), in_g (List.mem_of_getElem? (i := 1133) (by decide +kernel)) (by decide +kernel), ⟨by decide +kernel, by decide +kernel, by decide +kernel⟩, by decide⟩
abbrev mX1_isClear : MI := (yX1_isClear, cX1_isClear, 6, some .boolean)
theorem vX1_isClear : MVk mX1_isClear 4 := ⟨in_g (List.mem_of_getElem? (i := 1128) (by decide +kernel)) (by decide +kernel), in_g (List.mem_of_getElem? (i := 1129) (by decide +kernel)) (by decide +kernel), in_g (List.mem_of_getElem? (i := 114) (by decide +kernel)) (by decide +kernel), in_g (List.mem_of_getElem? (i := 1130) (by decide +kernel)) (by decide +kernel), ⟨by decide +kernel, by decide +kernel, by decide +kernel⟩, by decide⟩
abbrev mX1_join : MI := (yX1_join, cX1_join, 7, none)
theorem vX1_join : MVk mX1_join 2 := ⟨in_g (List.mem_of_getElem? (i := 1152) (by decide +kernel)) (by decide +kernel), in_g (List.mem_of_getElem? (i := 1153) (by decide +kernel)) (by decide +kernel), in_g (List.mem_of_getElem? (i := 114) (by decide +kernel)) (by decide +kernel), in_g (List.mem_of_getElem? (i := 1154) (by decide +kernel)) (by decide +kernel), ⟨by decide +kernel, by decide +kernel, by decide +kernel⟩, by decide⟩
abbrev mX1_sortIn : MI := (yX1_sortIn, cX1_sortIn, 4, none)
theorem sX1_sortIn : MSk mX1_sortIn 3 := ⟨in_g (List.mem_of_getElem? (i := 1159) (by decide +kernel)) (by decide +kernel), in_g (List.mem_of_getElem? (i := 114) (by decide +kernel)) (by decide +kernel), in_g (List.mem_of_getElem? (i := 1160) (by decide +kernel)) (by decide +kernel), ⟨by decide +kernel, by decide +kernel, by decide +kernel⟩, by decide⟩
abbrev mX2_append : MI := (yX2_append, cX2_append, 4, some .boolean)
theorem vX2_append : MVk mX2_append 3 := ⟨in_g (List.mem_of_getElem? (i := 868) (by decide +kernel)) (by decide +kernel), in_g (List.mem_of_getElem? (i := 869) (by decide +kernel)) (by decide +kernel), in_g (List.mem_of_getElem? (i := 110) (by decide +kernel)) (by decide +kernel), in_g (List.mem_of_getElem? (i := 870) (by decide +kernel)) (by decide +kernel), ⟨by decide +kernel, by decide +kernel, by decide +kernel⟩, by decide⟩
abbrev mX2_between : MI := (yX2_between, cX2_between, 4, some .int)
theorem sX2_between : MSk mX2_between 4 := ⟨in_g (List.mem_of_getElem? (i := 1001) (by decide +kernel)) (by decide +kernel), in_g (List.mem_of_getElem? (i := 110) (by decide +kernel)) (by decide +kernel), in_g (List.mem_of_getElem? (i := 1002) (by decide +kernel)) (by decide +kernel), ⟨by decide +kernel, by decide +kernel, by decide +kernel⟩, by decide⟩
abbrev mX2_copy : MI := (yX2_copy, cX2_copy, 3, none)
theorem vX2_copy : MVk mX2_copy 1 := ⟨in_g (List.mem_of_getElem? (i := 1116) (by decide +kernel)) (by decide +kernel), in_g (List.mem_of_getElem? (i := 1117) (by decide +kernel)) (by decide +kernel), in_g (List.mem_of_getElem? (i := 110) (by decide +kernel)) (by decide +kernel), in_g (List.mem_of_getElem? (i := 1118) (by decide +kernel)) (by decide +kernel), ⟨by decide +kernel, by decide +kernel, by decide +kernel⟩, by decide⟩
abbrev mX2_dropMissed : MI := (yX2_dropMissed, cX2_dropMissed, 2, none)
theorem vX2_dropMissed : MVk mX2_dropMissed 0 := ⟨in_g (List.mem_of_getElem? (i := 655) (by decide +kernel)) (by decide +kernel), in_g (List.mem_of_getElem? (i := 656) (by decide +kernel)) (by decide +kernel), in_g (List.mem_of_getElem? (i := 110) (by decide +kernel)) (by decide +kernel), in_g (List.mem_of_getElem? (i := 657) (by decide +kernel)) (by decide +kernel), ⟨by decide +kernel, by decide +kernel, by decide +kernel⟩, by decide⟩
abbrev mX2_goHome : MI := (yX2_goHome, cX2_goHome, 1, none)
theorem vX2_goHome : MVk mX2_goHome 0 := ⟨in_g (List.mem_of_getElem? (i := 568) (by decide +kernel)) (by decide +kernel), in_g (List.mem_of_getElem? (i := 569) (by decide +kernel)) (by decide +kernel), in_g (List.mem_of_getElem? (i := 110) (by decide +kernel)) (by decide +kernel), in_g (List.mem_of_getElem? (i := 570) (by decide +kernel)) (by decide +kernel), ⟨by decide +kernel, by decide +kernel, by decide +kernel⟩, by decide⟩
abbrev mX2_has : MI := (yX2_has, cX2_has, 2, some .boolean)
theorem vX2_has : MVk mX2_has 1 := ⟨in_g (List.mem_of_getElem? (i := 976) (by decide +kernel)) (by decide +kernel), in_g (List.mem_of_getElem? (i := 977) (by decide +kernel)) (by decide +kernel), in_g (List.mem_of_getElem? (i := 110) (by decide +kernel)) (by decide +kernel), in_g (List.mem_of_getElem? (i := 978) (by decide +kernel)) (by decide +kernel), ⟨by decide +kernel, by decide +kernel, by decide +kernel⟩, by decide⟩
abbrev mX2_measure : MI := (yX2_measure, cX2_measure, 2, none)
theorem vX2_measure : MVk mX2_measure 0 := ⟨in_g (List.mem_of_getElem? (i := 667) (by decide +kernel)) (by decide +kernel), in_g (List.mem_of_getElem? (i := 668) (by decide +kernel)) (by decide +kernel), in_g (List.mem_of_getElem? (i := 110) (by decide +kernel)) (by decide +kernel), in_g (List.mem_of_getElem? (i := 669) (by decide +kernel)) (by decide +kernel), ⟨by decide +kernel, by decide +kernel, by decide +kernel⟩, by decide⟩
abbrev mX2_measureOne : MI := (yX2_measureOne, cX2_measureOne, 2, none)
theorem vX2_measureOne : MVk mX2_measureOne 1 := ⟨in_g (List.mem_of_getElem? (i := 573) (by decide +kernel)) (by decide +kernel), in_g (List.mem_of_getElem? (i := 0) (by decide +kernel)) (by decide +kernel), in_g (List.mem_of_getElem? (i := 110) (by decide +kernel)) (by decide +kernel), in_g (List.mem_of_getElem? (i := 574) (by decide +kernel)) (by decide +kernel), ⟨by decide +kernel, by decide +kernel, by decide +kernel⟩, by decide⟩
abbrev mX2_missedBy : MI := (yX2_missedBy, cX2_missedBy, 5, some .int)
theorem vX2_missedBy : MVk mX2_missedBy 2 := ⟨in_g (List.mem_of_getElem? (i := 1054) (by decide +kernel)) (by decide +kernel), in_g (List.mem_of_getElem? (i := 1055) (by decide +kernel)) (by decide +kernel), in_g (List.mem_of_getElem? (i := 110) (by decide +kernel)) (by decide +kernel), in_g (List.mem_of_getElem? (i := 1056) (by decide +kernel)) (by decide +kernel), ⟨by decide +kernel, by decide +kernel, by decide +kernel⟩, by decide⟩
abbrev mX2_penIsAt : MI := (yX2_penIsAt, cX2_penIsAt, 3, some .boolean)
theorem vX2_penIsAt : MVk mX2_penIsAt 2 := ⟨in_g (List.mem_of_getElem? (i := 864) (by decide +kernel)) (by decide +kernel), in_g (List.mem_of_getElem? (i := 865) (by decide +kernel)) (by decide +kernel), in_g (List.mem_of_getElem? (i := 110) (by decide +kernel)) (by decide +kernel), in_g (List.mem_of_getElem? (i := 866) (by decide +kernel)) (by decide +kernel), ⟨by decide +kernel, by decide +kernel, by decide +kernel⟩, by decide⟩
abbrev mX2_ticksOf : MI := (yX2_ticksOf, cX2_ticksOf, 2, some .int)
theorem vX2_ticksOf : MVk mX2_ticksOf 1 := ⟨in_g (List.mem_of_getElem? (i := 1031) (by decide +kernel)) (by decide +kernel), in_g (List.mem_of_getElem? (i := 1032) (by decide +kernel)) (by decide +kernel), in_g (List.mem_of_getElem? (i := 110) (by decide +kernel)) (by decide +kernel), in_g (List.mem_of_getElem? (i := 1033) (by decide +kernel)) (by decide +kernel), ⟨by decide +kernel, by decide +kernel, by decide +kernel⟩, by decide⟩
abbrev mX3_checkAbove : MI := (yX3_checkAbove, cX3_checkAbove, 2, none)
theorem vX3_checkAbove : MVk mX3_checkAbove 1 := ⟨in_g (List.mem_of_getElem? (i := 830) (by decide +kernel)) (by decide +kernel), in_g (List.mem_of_getElem? (i := 14) (by decide +kernel)) (by decide +kernel), in_g (List.mem_of_getElem? (i := 109) (by decide +kernel)) (by decide +kernel), in_g (List.mem_of_getElem? (i := 831) (by decide +kernel)) (by decide +kernel), ⟨by decide +kernel, by decide +kernel, by decide +kernel⟩, by decide⟩
abbrev mX3_checkName : MI := (yX3_checkName, cX3_checkName, 1, none)
theorem vX3_checkName : MVk mX3_checkName 0 := ⟨in_g (List.mem_of_getElem? (i := 802) (by decide +kernel)) (by decide +kernel), in_g (List.mem_of_getElem? (i := 11) (by decide +kernel)) (by decide +kernel), in_g (List.mem_of_getElem? (i := 109) (by decide +kernel)) (by decide +kernel), in_g (List.mem_of_getElem? (i := 803) (by decide +kernel)) (by decide +kernel), ⟨by decide +kernel, by decide +kernel, by decide +kernel⟩, by decide⟩
abbrev mX3_fail : MI := (yX3_fail, cX3_fail, 2, none)
theorem vX3_fail : MVk mX3_fail 1 := ⟨in_g (List.mem_of_getElem? (i := 765) (by decide +kernel)) (by decide +kernel), in_g (List.mem_of_getElem? (i := 4) (by decide +kernel)) (by decide +kernel), in_g (List.mem_of_getElem? (i := 109) (by decide +kernel)) (by decide +kernel), in_g (List.mem_of_getElem? (i := 766) (by decide +kernel)) (by decide +kernel), ⟨by decide +kernel, by decide +kernel, by decide +kernel⟩, by decide⟩
abbrev mX3_formAtHand : MI := (yX3_formAtHand, cX3_formAtHand, 2, some .int)
theorem vX3_formAtHand : MVk mX3_formAtHand 0 := ⟨in_g (List.mem_of_getElem? (i := 806) (by decide +kernel)) (by decide +kernel), in_g (List.mem_of_getElem? (i := 12) (by decide +kernel)) (by decide +kernel), in_g (List.mem_of_getElem? (i := 109) (by decide +kernel)) (by decide +kernel), in_g (List.mem_of_getElem? (i := 807) (by decide +kernel)) (by decide +kernel), ⟨by decide +kernel, by decide +kernel, by decide +kernel⟩, by decide⟩
abbrev mX3_read : MI := (yX3_read, cX3_read, 3, some .boolean)
theorem vX3_read : MVk mX3_read 1 := ⟨in_g (List.mem_of_getElem? (i := 675) (by decide +kernel)) (by decide +kernel), in_g (List.mem_of_getElem? (i := 676) (by decide +kernel)) (by decide +kernel), in_g (List.mem_of_getElem? (i := 109) (by decide +kernel)) (by decide +kernel), in_g (List.mem_of_getElem? (i := 677) (by decide +kernel)) (by decide +kernel), ⟨by decide +kernel, by decide +kernel, by decide +kernel⟩, by decide⟩
abbrev mX3_readAgain : MI := (yX3_readAgain, cX3_readAgain, 2, none)
theorem vX3_readAgain : MVk mX3_readAgain 1 := ⟨in_g (List.mem_of_getElem? (i := 773) (by decide +kernel)) (by decide +kernel), in_g (List.mem_of_getElem? (i := 5) (by decide +kernel)) (by decide +kernel), in_g (List.mem_of_getElem? (i := 109) (by decide +kernel)) (by decide +kernel), in_g (List.mem_of_getElem? (i := 774) (by decide +kernel)) (by decide +kernel), ⟨by decide +kernel, by decide +kernel, by decide +kernel⟩, by decide⟩
abbrev mX3_readForm : MI := (yX3_readForm, cX3_readForm, 5, none)
theorem vX3_readForm : MVk mX3_readForm 0 := ⟨in_g (List.mem_of_getElem? (i := 798) (by decide +kernel)) (by decide +kernel), in_g (List.mem_of_getElem? (i := 10) (by decide +kernel)) (by decide +kernel), in_g (List.mem_of_getElem? (i := 109) (by decide +kernel)) (by decide +kernel), in_g (List.mem_of_getElem? (i := 799) (by decide +kernel)) (by decide +kernel), ⟨by decide +kernel, by decide +kernel, by decide +kernel⟩, by decide⟩
abbrev mX3_readFormName : MI := (yX3_readFormName, cX3_readFormName, 3, none)
theorem vX3_readFormName : MVk mX3_readFormName 1 := ⟨in_g (List.mem_of_getElem? (i := 822) (by decide +kernel)) (by decide +kernel), in_g (List.mem_of_getElem? (i := 13) (by decide +kernel)) (by decide +kernel), in_g (List.mem_of_getElem? (i := 109) (by decide +kernel)) (by decide +kernel), in_g (List.mem_of_getElem? (i := 823) (by decide +kernel)) (by decide +kernel), ⟨by decide +kernel, by decide +kernel, by decide +kernel⟩, by decide⟩
abbrev mX3_readNumbers : MI := (yX3_readNumbers, cX3_readNumbers, 5, none)
theorem vX3_readNumbers : MVk mX3_readNumbers 2 := ⟨in_g (List.mem_of_getElem? (i := 794) (by decide +kernel)) (by decide +kernel), in_g (List.mem_of_getElem? (i := 9) (by decide +kernel)) (by decide +kernel), in_g (List.mem_of_getElem? (i := 109) (by decide +kernel)) (by decide +kernel), in_g (List.mem_of_getElem? (i := 795) (by decide +kernel)) (by decide +kernel), ⟨by decide +kernel, by decide +kernel, by decide +kernel⟩, by decide⟩
abbrev mX3_readStatement : MI := (yX3_readStatement, cX3_readStatement, 4, none)
theorem vX3_readStatement : MVk mX3_readStatement 0 := ⟨in_g (List.mem_of_getElem? (i := 698) (by decide +kernel)) (by decide +kernel), in_g (List.mem_of_getElem? (i := 2) (by decide +kernel)) (by decide +kernel), in_g (List.mem_of_getElem? (i := 109) (by decide +kernel)) (by decide +kernel), in_g (List.mem_of_getElem? (i := 699) (by decide +kernel)) (by decide +kernel), ⟨by decide +kernel, by decide +kernel, by decide +kernel⟩, by decide⟩
abbrev mX3_takeNumber : MI := (yX3_takeNumber, cX3_takeNumber, 4, some .int)
theorem vX3_takeNumber : MVk mX3_takeNumber 2 := ⟨in_g (List.mem_of_getElem? (i := 777) (by decide +kernel)) (by decide +kernel), in_g (List.mem_of_getElem? (i := 6) (by decide +kernel)) (by decide +kernel), in_g (List.mem_of_getElem? (i := 109) (by decide +kernel)) (by decide +kernel), in_g (List.mem_of_getElem? (i := 778) (by decide +kernel)) (by decide +kernel), ⟨by decide +kernel, by decide +kernel, by decide +kernel⟩, by decide⟩
abbrev mX3_takeSign : MI := (yX3_takeSign, cX3_takeSign, 2, none)
theorem vX3_takeSign : MVk mX3_takeSign 1 := ⟨in_g (List.mem_of_getElem? (i := 790) (by decide +kernel)) (by decide +kernel), in_g (List.mem_of_getElem? (i := 8) (by decide +kernel)) (by decide +kernel), in_g (List.mem_of_getElem? (i := 109) (by decide +kernel)) (by decide +kernel), in_g (List.mem_of_getElem? (i := 791) (by decide +kernel)) (by decide +kernel), ⟨by decide +kernel, by decide +kernel, by decide +kernel⟩, by decide⟩
abbrev mX3_takeSigned : MI := (yX3_takeSigned, cX3_takeSigned, 1, some .int)
theorem vX3_takeSigned : MVk mX3_takeSigned 0 := ⟨in_g (List.mem_of_getElem? (i := 786) (by decide +kernel)) (by decide +kernel), in_g (List.mem_of_getElem? (i := 7) (by decide +kernel)) (by decide +kernel), in_g (List.mem_of_getElem? (i := 109) (by decide +kernel)) (by decide +kernel), in_g (List.mem_of_getElem? (i := 787) (by decide +kernel)) (by decide +kernel), ⟨by decide +kernel, by decide +kernel, by decide +kernel⟩, by decide⟩
abbrev mX3_verbAtHand : MI := (yX3_verbAtHand, cX3_verbAtHand, 1, some .int)
theorem vX3_verbAtHand : MVk mX3_verbAtHand 0 := ⟨in_g (List.mem_of_getElem? (i := 702) (by decide +kernel)) (by decide +kernel), in_g (List.mem_of_getElem? (i := 3) (by decide +kernel)) (by decide +kernel), in_g (List.mem_of_getElem? (i := 109) (by decide +kernel)) (by decide +kernel), in_g (List.mem_of_getElem? (i := 703) (by decide +kernel)) (by decide +kernel), ⟨by decide +kernel, by decide +kernel, by decide +kernel⟩, by decide⟩
abbrev mX4_append : MI := (yX4_append, cX4_append, 5, some .int)
theorem vX4_append : MVk mX4_append 2 := ⟨in_g (List.mem_of_getElem? (i := 1167) (by decide +kernel)) (by decide +kernel), in_g (List.mem_of_getElem? (i := 1168) (by decide +kernel)) (by decide +kernel), in_g (List.mem_of_getElem? (i := 115) (by decide +kernel)) (by decide +kernel), in_g (List.mem_of_getElem? (i := 1169) (by decide +kernel)) (by decide +kernel), ⟨by decide +kernel, by decide +kernel, by decide +kernel⟩, by decide⟩
abbrev mX4_countFits : MI := (yX4_countFits, cX4_countFits, 6, some .int)
theorem vX4_countFits : MVk mX4_countFits 3 := ⟨in_g (List.mem_of_getElem? (i := 1180) (by decide +kernel)) (by decide +kernel), in_g (List.mem_of_getElem? (i := 38) (by decide +kernel)) (by decide +kernel), in_g (List.mem_of_getElem? (i := 115) (by decide +kernel)) (by decide +kernel), in_g (List.mem_of_getElem? (i := 1181) (by decide +kernel)) (by decide +kernel), ⟨by decide +kernel, by decide +kernel, by decide +kernel⟩, by decide⟩
abbrev mX4_fit : MI := (yX4_fit, cX4_fit, 5, none)
theorem vX4_fit : MVk mX4_fit 1 := ⟨in_g (List.mem_of_getElem? (i := 1175) (by decide +kernel)) (by decide +kernel), in_g (List.mem_of_getElem? (i := 1176) (by decide +kernel)) (by decide +kernel), in_g (List.mem_of_getElem? (i := 115) (by decide +kernel)) (by decide +kernel), in_g (List.mem_of_getElem? (i := 1177) (by decide +kernel)) (by decide +kernel), ⟨by decide +kernel, by decide +kernel, by decide +kernel⟩, by decide⟩
abbrev mX5_bringToSide : MI := (yX5_bringToSide, cX5_bringToSide, 8, none)
theorem vX5_bringToSide : MVk mX5_bringToSide 4 := ⟨in_g (List.mem_of_getElem? (i := 861) (by decide +kernel)) (by decide +kernel), in_g (List.mem_of_getElem? (i := 20) (by decide +kernel)) (by decide +kernel), in_g (List.mem_of_getElem? (i := 111) (by decide +kernel)) (by decide +kernel), in_g (List.mem_of_getElem? (i := 862) (by decide +kernel)) (by decide +kernel), ⟨by decide +kernel, by decide +kernel, by decide +kernel⟩, by decide⟩
abbrev mX5_cut : MI := (yX5_cut, cX5_cut, 6, some .boolean)
theorem vX5_cut : MVk mX5_cut 3 := ⟨in_g (List.mem_of_getElem? (i := 857) (by decide +kernel)) (by decide +kernel), in_g (List.mem_of_getElem? (i := 19) (by decide +kernel)) (by decide +kernel), in_g (List.mem_of_getElem? (i := 111) (by decide +kernel)) (by decide +kernel), in_g (List.mem_of_getElem? (i := 858) (by decide +kernel)) (by decide +kernel), ⟨by decide +kernel, by decide +kernel, by decide +kernel⟩, by decide⟩
abbrev mX5_drawForm : MI := (yX5_drawForm, cX5_drawForm, 8, none)
theorem vX5_drawForm : MVk mX5_drawForm 1 := ⟨in_g (List.mem_of_getElem? (i := 849) (by decide +kernel)) (by decide +kernel), in_g (List.mem_of_getElem? (i := 17) (by decide +kernel)) (by decide +kernel), in_g (List.mem_of_getElem? (i := 111) (by decide +kernel)) (by decide +kernel), in_g (List.mem_of_getElem? (i := 850) (by decide +kernel)) (by decide +kernel), ⟨by decide +kernel, by decide +kernel, by decide +kernel⟩, by decide⟩
abbrev mX5_drawHatch : MI := (yX5_drawHatch, cX5_drawHatch, 10, none)
theorem vX5_drawHatch : MVk mX5_drawHatch 1 := ⟨in_g (List.mem_of_getElem? (i := 878) (by decide +kernel)) (by decide +kernel), in_g (List.mem_of_getElem? (i := 22) (by decide +kernel)) (by decide +kernel), in_g (List.mem_of_getElem? (i := 111) (by decide +kernel)) (by decide +kernel), in_g (List.mem_of_getElem? (i := 879) (by decide +kernel)) (by decide +kernel), ⟨by decide +kernel, by decide +kernel, by decide +kernel⟩, by decide⟩
abbrev mX5_drawLine : MI := (yX5_drawLine, cX5_drawLine, 6, none)
theorem vX5_drawLine : MVk mX5_drawLine 4 := ⟨in_g (List.mem_of_getElem? (i := 853) (by decide +kernel)) (by decide +kernel), in_g (List.mem_of_getElem? (i := 18) (by decide +kernel)) (by decide +kernel), in_g (List.mem_of_getElem? (i := 111) (by decide +kernel)) (by decide +kernel), in_g (List.mem_of_getElem? (i := 854) (by decide +kernel)) (by decide +kernel), ⟨by decide +kernel, by decide +kernel, by decide +kernel⟩, by decide⟩
abbrev mX5_goTo : MI := (yX5_goTo, cX5_goTo, 4, none)
theorem vX5_goTo : MVk mX5_goTo 2 := ⟨in_g (List.mem_of_getElem? (i := 873) (by decide +kernel)) (by decide +kernel), in_g (List.mem_of_getElem? (i := 21) (by decide +kernel)) (by decide +kernel), in_g (List.mem_of_getElem? (i := 111) (by decide +kernel)) (by decide +kernel), in_g (List.mem_of_getElem? (i := 874) (by decide +kernel)) (by decide +kernel), ⟨by decide +kernel, by decide +kernel, by decide +kernel⟩, by decide⟩
abbrev mX5_narrow : MI := (yX5_narrow, cX5_narrow, 2, none)
theorem vX5_narrow : MVk mX5_narrow 1 := ⟨in_g (List.mem_of_getElem? (i := 883) (by decide +kernel)) (by decide +kernel), in_g (List.mem_of_getElem? (i := 23) (by decide +kernel)) (by decide +kernel), in_g (List.mem_of_getElem? (i := 111) (by decide +kernel)) (by decide +kernel), in_g (List.mem_of_getElem? (i := 884) (by decide +kernel)) (by decide +kernel), ⟨by decide +kernel, by decide +kernel, by decide +kernel⟩, by decide⟩
abbrev mX5_perform : MI := (yX5_perform, cX5_perform, 5, none)
theorem vX5_perform : MVk mX5_perform 3 := ⟨in_g (List.mem_of_getElem? (i := 839) (by decide +kernel)) (by decide +kernel), in_g (List.mem_of_getElem? (i := 15) (by decide +kernel)) (by decide +kernel), in_g (List.mem_of_getElem? (i := 111) (by decide +kernel)) (by decide +kernel), in_g (List.mem_of_getElem? (i := 840) (by decide +kernel)) (by decide +kernel), ⟨by decide +kernel, by decide +kernel, by decide +kernel⟩, by decide⟩
abbrev mX5_plotAll : MI := (yX5_plotAll, cX5_plotAll, 1, some .boolean)
theorem vX5_plotAll : MVk mX5_plotAll 0 := ⟨in_g (List.mem_of_getElem? (i := 833) (by decide +kernel)) (by decide +kernel), in_g (List.mem_of_getElem? (i := 834) (by decide +kernel)) (by decide +kernel), in_g (List.mem_of_getElem? (i := 111) (by decide +kernel)) (by decide +kernel), in_g (List.mem_of_getElem? (i := 835) (by decide +kernel)) (by decide +kernel), ⟨by decide +kernel, by decide +kernel, by decide +kernel⟩, by decide⟩
abbrev mX5_repeat : MI := (yX5_repeat, cX5_repeat, 11, none)
theorem vX5_repeat : MVk mX5_repeat 2 := ⟨in_g (List.mem_of_getElem? (i := 843) (by decide +kernel)) (by decide +kernel), in_g (List.mem_of_getElem? (i := 16) (by decide +kernel)) (by decide +kernel), in_g (List.mem_of_getElem? (i := 111) (by decide +kernel)) (by decide +kernel), in_g (List.mem_of_getElem? (i := 844) (by decide +kernel)) (by decide +kernel), ⟨by decide +kernel, by decide +kernel, by decide +kernel⟩, by decide⟩
abbrev mX6_advance : MI := (yX6_advance, cX6_advance, 5, some .int)
theorem vX6_advance : MVk mX6_advance 1 := ⟨in_g (List.mem_of_getElem? (i := 1192) (by decide +kernel)) (by decide +kernel), in_g (List.mem_of_getElem? (i := 1193) (by decide +kernel)) (by decide +kernel), in_g (List.mem_of_getElem? (i := 116) (by decide +kernel)) (by decide +kernel), in_g (List.mem_of_getElem? (i := 1194) (by decide +kernel)) (by decide +kernel), ⟨by decide +kernel, by decide +kernel, by decide +kernel⟩, by decide⟩
abbrev mX6_start : MI := (yX6_start, cX6_start, 1, none)
theorem vX6_start : MVk mX6_start 0 := ⟨in_g (List.mem_of_getElem? (i := 1188) (by decide +kernel)) (by decide +kernel), in_g (List.mem_of_getElem? (i := 1189) (by decide +kernel)) (by decide +kernel), in_g (List.mem_of_getElem? (i := 116) (by decide +kernel)) (by decide +kernel), in_g (List.mem_of_getElem? (i := 1190) (by decide +kernel)) (by decide +kernel), ⟨by decide +kernel, by decide +kernel, by decide +kernel⟩, by decide⟩
abbrev mX6_trueSteps : MI := (yX6_trueSteps, cX6_trueSteps, 4, some .int)
theorem vX6_trueSteps : MVk mX6_trueSteps 1 := ⟨in_g (List.mem_of_getElem? (i := 1207) (by decide +kernel)) (by decide +kernel), in_g (List.mem_of_getElem? (i := 1208) (by decide +kernel)) (by decide +kernel), in_g (List.mem_of_getElem? (i := 116) (by decide +kernel)) (by decide +kernel), in_g (List.mem_of_getElem? (i := 1209) (by decide +kernel)) (by decide +kernel), ⟨by decide +kernel, by decide +kernel, by decide +kernel⟩, by decide⟩
abbrev mX7_add : MI := (yX7_add, cX7_add, 3, some .int)
theorem vX7_add : MVk mX7_add 1 := ⟨in_g (List.mem_of_getElem? (i := 768) (by decide +kernel)) (by decide +kernel), in_g (List.mem_of_getElem? (i := 769) (by decide +kernel)) (by decide +kernel), in_g (List.mem_of_getElem? (i := 108) (by decide +kernel)) (by decide +kernel), in_g (List.mem_of_getElem? (i := 770) (by decide +kernel)) (by decide +kernel), ⟨by decide +kernel, by decide +kernel, by decide +kernel⟩, by decide⟩
abbrev mX7_addForm : MI := (yX7_addForm, cX7_addForm, 4, some .int)
theorem vX7_addForm : MVk mX7_addForm 2 := ⟨in_g (List.mem_of_getElem? (i := 813) (by decide +kernel)) (by decide +kernel), in_g (List.mem_of_getElem? (i := 814) (by decide +kernel)) (by decide +kernel), in_g (List.mem_of_getElem? (i := 108) (by decide +kernel)) (by decide +kernel), in_g (List.mem_of_getElem? (i := 815) (by decide +kernel)) (by decide +kernel), ⟨by decide +kernel, by decide +kernel, by decide +kernel⟩, by decide⟩
abbrev mX7_addPoint : MI := (yX7_addPoint, cX7_addPoint, 5, none)
theorem vX7_addPoint : MVk mX7_addPoint 3 := ⟨in_g (List.mem_of_getElem? (i := 817) (by decide +kernel)) (by decide +kernel), in_g (List.mem_of_getElem? (i := 818) (by decide +kernel)) (by decide +kernel), in_g (List.mem_of_getElem? (i := 108) (by decide +kernel)) (by decide +kernel), in_g (List.mem_of_getElem? (i := 819) (by decide +kernel)) (by decide +kernel), ⟨by decide +kernel, by decide +kernel, by decide +kernel⟩, by decide⟩
abbrev mX7_get : MI := (yX7_get, cX7_get, 3, some .int)
theorem vX7_get : MVk mX7_get 2 := ⟨in_g (List.mem_of_getElem? (i := 825) (by decide +kernel)) (by decide +kernel), in_g (List.mem_of_getElem? (i := 826) (by decide +kernel)) (by decide +kernel), in_g (List.mem_of_getElem? (i := 108) (by decide +kernel)) (by decide +kernel), in_g (List.mem_of_getElem? (i := 827) (by decide +kernel)) (by decide +kernel), ⟨by decide +kernel, by decide +kernel, by decide +kernel⟩, by decide⟩
abbrev mX7_put : MI := (yX7_put, cX7_put, 4, none)
theorem vX7_put : MVk mX7_put 3 := ⟨in_g (List.mem_of_getElem? (i := 781) (by decide +kernel)) (by decide +kernel), in_g (List.mem_of_getElem? (i := 782) (by decide +kernel)) (by decide +kernel), in_g (List.mem_of_getElem? (i := 108) (by decide +kernel)) (by decide +kernel), in_g (List.mem_of_getElem? (i := 783) (by decide +kernel)) (by decide +kernel), ⟨by decide +kernel, by decide +kernel, by decide +kernel⟩, by decide⟩
abbrev mX8_append : MI := (yX8_append, cX8_append, 3, none)
theorem vX8_append : MVk mX8_append 1 := ⟨in_g (List.mem_of_getElem? (i := 636) (by decide +kernel)) (by decide +kernel), in_g (List.mem_of_getElem? (i := 637) (by decide +kernel)) (by decide +kernel), in_g (List.mem_of_getElem? (i := 107) (by decide +kernel)) (by decide +kernel), in_g (List.mem_of_getElem? (i := 638) (by decide +kernel)) (by decide +kernel), ⟨by decide +kernel, by decide +kernel, by decide +kernel⟩, by decide⟩
abbrev mX8_kindOf : MI := (yX8_kindOf, cX8_kindOf, 1, some .int)
theorem sX8_kindOf : MSk mX8_kindOf 1 := ⟨in_g (List.mem_of_getElem? (i := 693) (by decide +kernel)) (by decide +kernel), in_g (List.mem_of_getElem? (i := 107) (by decide +kernel)) (by decide +kernel), in_g (List.mem_of_getElem? (i := 694) (by decide +kernel)) (by decide +kernel), ⟨by decide +kernel, by decide +kernel, by decide +kernel⟩, by decide⟩
abbrev mX8_open : MI := (yX8_open, cX8_open, 2, none)
theorem vX8_open : MVk mX8_open 1 := ⟨in_g (List.mem_of_getElem? (i := 679) (by decide +kernel)) (by decide +kernel), in_g (List.mem_of_getElem? (i := 680) (by decide +kernel)) (by decide +kernel), in_g (List.mem_of_getElem? (i := 107) (by decide +kernel)) (by decide +kernel), in_g (List.mem_of_getElem? (i := 681) (by decide +kernel)) (by decide +kernel), ⟨by decide +kernel, by decide +kernel, by decide +kernel⟩, by decide⟩
abbrev mX8_repeats : MI := (yX8_repeats, cX8_repeats, 4, some .boolean)
theorem vX8_repeats : MVk mX8_repeats 2 := ⟨in_g (List.mem_of_getElem? (i := 809) (by decide +kernel)) (by decide +kernel), in_g (List.mem_of_getElem? (i := 810) (by decide +kernel)) (by decide +kernel), in_g (List.mem_of_getElem? (i := 107) (by decide +kernel)) (by decide +kernel), in_g (List.mem_of_getElem? (i := 811) (by decide +kernel)) (by decide +kernel), ⟨by decide +kernel, by decide +kernel, by decide +kernel⟩, by decide⟩
abbrev mX8_spells : MI := (yX8_spells, cX8_spells, 3, some .boolean)
theorem vX8_spells : MVk mX8_spells 1 := ⟨in_g (List.mem_of_getElem? (i := 706) (by decide +kernel)) (by decide +kernel), in_g (List.mem_of_getElem? (i := 707) (by decide +kernel)) (by decide +kernel), in_g (List.mem_of_getElem? (i := 107) (by decide +kernel)) (by decide +kernel), in_g (List.mem_of_getElem? (i := 708) (by decide +kernel)) (by decide +kernel), ⟨by decide +kernel, by decide +kernel, by decide +kernel⟩, by decide⟩
abbrev mX8_step : MI := (yX8_step, cX8_step, 2, none)
theorem vX8_step : MVk mX8_step 0 := ⟨in_g (List.mem_of_getElem? (i := 689) (by decide +kernel)) (by decide +kernel), in_g (List.mem_of_getElem? (i := 690) (by decide +kernel)) (by decide +kernel), in_g (List.mem_of_getElem? (i := 107) (by decide +kernel)) (by decide +kernel), in_g (List.mem_of_getElem? (i := 691) (by decide +kernel)) (by decide +kernel), ⟨by decide +kernel, by decide +kernel, by decide +kernel⟩, by decide⟩
abbrev mX9_aim : MI := (yX9_aim, cX9_aim, 9, none)
theorem vX9_aim : MVk mX9_aim 4 := ⟨in_g (List.mem_of_getElem? (i := 986) (by decide +kernel)) (by decide +kernel), in_g (List.mem_of_getElem? (i := 27) (by decide +kernel)) (by decide +kernel), in_g (List.mem_of_getElem? (i := 112) (by decide +kernel)) (by decide +kernel), in_g (List.mem_of_getElem? (i := 987) (by decide +kernel)) (by decide +kernel), ⟨by decide +kernel, by decide +kernel, by decide +kernel⟩, by decide⟩
abbrev mX9_countSkips : MI := (yX9_countSkips, cX9_countSkips, 4, some .int)
theorem vX9_countSkips : MVk mX9_countSkips 1 := ⟨in_g (List.mem_of_getElem? (i := 1023) (by decide +kernel)) (by decide +kernel), in_g (List.mem_of_getElem? (i := 1024) (by decide +kernel)) (by decide +kernel), in_g (List.mem_of_getElem? (i := 112) (by decide +kernel)) (by decide +kernel), in_g (List.mem_of_getElem? (i := 1025) (by decide +kernel)) (by decide +kernel), ⟨by decide +kernel, by decide +kernel, by decide +kernel⟩, by decide⟩
abbrev mX9_fewestParts : MI := (yX9_fewestParts, cX9_fewestParts, 4, some .int)
theorem vX9_fewestParts : MVk mX9_fewestParts 2 := ⟨in_g (List.mem_of_getElem? (i := 1008) (by decide +kernel)) (by decide +kernel), in_g (List.mem_of_getElem? (i := 1009) (by decide +kernel)) (by decide +kernel), in_g (List.mem_of_getElem? (i := 112) (by decide +kernel)) (by decide +kernel), in_g (List.mem_of_getElem? (i := 1010) (by decide +kernel)) (by decide +kernel), ⟨by decide +kernel, by decide +kernel, by decide +kernel⟩, by decide⟩
abbrev mX9_furthest : MI := (yX9_furthest, cX9_furthest, 11, some .long)
theorem vX9_furthest : MVk mX9_furthest 5 := ⟨in_g (List.mem_of_getElem? (i := 994) (by decide +kernel)) (by decide +kernel), in_g (List.mem_of_getElem? (i := 28) (by decide +kernel)) (by decide +kernel), in_g (List.mem_of_getElem? (i := 112) (by decide +kernel)) (by decide +kernel), in_g (List.mem_of_getElem? (i := 995) (by decide +kernel)) (by decide +kernel), ⟨by decide +kernel, by decide +kernel, by decide +kernel⟩, by decide⟩
abbrev mX9_isTrue : MI := (yX9_isTrue, cX9_isTrue, 13, some .boolean)
theorem vX9_isTrue : MVk mX9_isTrue 3 := ⟨in_g (List.mem_of_getElem? (i := 1014) (by decide +kernel)) (by decide +kernel), in_g (List.mem_of_getElem? (i := 29) (by decide +kernel)) (by decide +kernel), in_g (List.mem_of_getElem? (i := 112) (by decide +kernel)) (by decide +kernel), in_g (List.mem_of_getElem? (i := 1015) (by decide +kernel)) (by decide +kernel), ⟨by decide +kernel, by decide +kernel, by decide +kernel⟩, by decide⟩
abbrev mX9_sagOf : MI := (yX9_sagOf, cX9_sagOf, 8, some .int)
theorem vX9_sagOf : MVk mX9_sagOf 1 := ⟨in_g (List.mem_of_getElem? (i := 980) (by decide +kernel)) (by decide +kernel), in_g (List.mem_of_getElem? (i := 981) (by decide +kernel)) (by decide +kernel), in_g (List.mem_of_getElem? (i := 112) (by decide +kernel)) (by decide +kernel), in_g (List.mem_of_getElem? (i := 982) (by decide +kernel)) (by decide +kernel), ⟨by decide +kernel, by decide +kernel, by decide +kernel⟩, by decide⟩
abbrev mX9_skipsOf : MI := (yX9_skipsOf, cX9_skipsOf, 10, some .int)
theorem vX9_skipsOf : MVk mX9_skipsOf 2 := ⟨in_g (List.mem_of_getElem? (i := 1028) (by decide +kernel)) (by decide +kernel), in_g (List.mem_of_getElem? (i := 30) (by decide +kernel)) (by decide +kernel), in_g (List.mem_of_getElem? (i := 112) (by decide +kernel)) (by decide +kernel), in_g (List.mem_of_getElem? (i := 1029) (by decide +kernel)) (by decide +kernel), ⟨by decide +kernel, by decide +kernel, by decide +kernel⟩, by decide⟩
abbrev mX10_awayFrom : MI := (yX10_awayFrom, cX10_awayFrom, 7, some .long)
theorem vX10_awayFrom : MVk mX10_awayFrom 4 := ⟨in_g (List.mem_of_getElem? (i := 936) (by decide +kernel)) (by decide +kernel), in_g (List.mem_of_getElem? (i := 26) (by decide +kernel)) (by decide +kernel), in_g (List.mem_of_getElem? (i := 106) (by decide +kernel)) (by decide +kernel), in_g (List.mem_of_getElem? (i := 937) (by decide +kernel)) (by decide +kernel), ⟨by decide +kernel, by decide +kernel, by decide +kernel⟩, by decide⟩
abbrev mX10_bears : MI := (yX10_bears, cX10_bears, 3, some .boolean)
theorem vX10_bears : MVk mX10_bears 2 := ⟨in_g (List.mem_of_getElem? (i := 958) (by decide +kernel)) (by decide +kernel), in_g (List.mem_of_getElem? (i := 959) (by decide +kernel)) (by decide +kernel), in_g (List.mem_of_getElem? (i := 106) (by decide +kernel)) (by decide +kernel), in_g (List.mem_of_getElem? (i := 960) (by decide +kernel)) (by decide +kernel), ⟨by decide +kernel, by decide +kernel, by decide +kernel⟩, by decide⟩
abbrev mX10_countReach : MI := (yX10_countReach, cX10_countReach, 4, some .int)
theorem vX10_countReach : MVk mX10_countReach 0 := ⟨in_g (List.mem_of_getElem? (i := 967) (by decide +kernel)) (by decide +kernel), in_g (List.mem_of_getElem? (i := 968) (by decide +kernel)) (by decide +kernel), in_g (List.mem_of_getElem? (i := 106) (by decide +kernel)) (by decide +kernel), in_g (List.mem_of_getElem? (i := 969) (by decide +kernel)) (by decide +kernel), ⟨by decide +kernel, by decide +kernel, by decide +kernel⟩, by decide⟩
abbrev mX10_forgetReach : MI := (yX10_forgetReach, cX10_forgetReach, 1, none)
theorem vX10_forgetReach : MVk mX10_forgetReach 0 := ⟨in_g (List.mem_of_getElem? (i := 647) (by decide +kernel)) (by decide +kernel), in_g (List.mem_of_getElem? (i := 648) (by decide +kernel)) (by decide +kernel), in_g (List.mem_of_getElem? (i := 106) (by decide +kernel)) (by decide +kernel), in_g (List.mem_of_getElem? (i := 649) (by decide +kernel)) (by decide +kernel), ⟨by decide +kernel, by decide +kernel, by decide +kernel⟩, by decide⟩
abbrev mX10_grainAt : MI := (yX10_grainAt, cX10_grainAt, 11, some .int)
theorem vX10_grainAt : MVk mX10_grainAt 2 := ⟨in_g (List.mem_of_getElem? (i := 929) (by decide +kernel)) (by decide +kernel), in_g (List.mem_of_getElem? (i := 930) (by decide +kernel)) (by decide +kernel), in_g (List.mem_of_getElem? (i := 106) (by decide +kernel)) (by decide +kernel), in_g (List.mem_of_getElem? (i := 931) (by decide +kernel)) (by decide +kernel), ⟨by decide +kernel, by decide +kernel, by decide +kernel⟩, by decide⟩
abbrev mX10_holds : MI := (yX10_holds, cX10_holds, 3, some .boolean)
theorem vX10_holds : MVk mX10_holds 2 := ⟨in_g (List.mem_of_getElem? (i := 894) (by decide +kernel)) (by decide +kernel), in_g (List.mem_of_getElem? (i := 895) (by decide +kernel)) (by decide +kernel), in_g (List.mem_of_getElem? (i := 106) (by decide +kernel)) (by decide +kernel), in_g (List.mem_of_getElem? (i := 896) (by decide +kernel)) (by decide +kernel), ⟨by decide +kernel, by decide +kernel, by decide +kernel⟩, by decide⟩
abbrev mX10_hung : MI := (yX10_hung, cX10_hung, 3, some .long)
theorem vX10_hung : MVk mX10_hung 1 := ⟨in_g (List.mem_of_getElem? (i := 921) (by decide +kernel)) (by decide +kernel), in_g (List.mem_of_getElem? (i := 25) (by decide +kernel)) (by decide +kernel), in_g (List.mem_of_getElem? (i := 106) (by decide +kernel)) (by decide +kernel), in_g (List.mem_of_getElem? (i := 922) (by decide +kernel)) (by decide +kernel), ⟨by decide +kernel, by decide +kernel, by decide +kernel⟩, by decide⟩
abbrev mX10_leftPull : MI := (yX10_leftPull, cX10_leftPull, 5, some .int)
theorem vX10_leftPull : MVk mX10_leftPull 2 := ⟨in_g (List.mem_of_getElem? (i := 949) (by decide +kernel)) (by decide +kernel), in_g (List.mem_of_getElem? (i := 950) (by decide +kernel)) (by decide +kernel), in_g (List.mem_of_getElem? (i := 106) (by decide +kernel)) (by decide +kernel), in_g (List.mem_of_getElem? (i := 951) (by decide +kernel)) (by decide +kernel), ⟨by decide +kernel, by decide +kernel, by decide +kernel⟩, by decide⟩
abbrev mX10_leftSteps : MI := (yX10_leftSteps, cX10_leftSteps, 9, some .int)
theorem vX10_leftSteps : MVk mX10_leftSteps 2 := ⟨in_g (List.mem_of_getElem? (i := 577) (by decide +kernel)) (by decide +kernel), in_g (List.mem_of_getElem? (i := 578) (by decide +kernel)) (by decide +kernel), in_g (List.mem_of_getElem? (i := 106) (by decide +kernel)) (by decide +kernel), in_g (List.mem_of_getElem? (i := 579) (by decide +kernel)) (by decide +kernel), ⟨by decide +kernel, by decide +kernel, by decide +kernel⟩, by decide⟩
abbrev mX10_locate : MI := (yX10_locate, cX10_locate, 11, none)
theorem vX10_locate : MVk mX10_locate 2 := ⟨in_g (List.mem_of_getElem? (i := 916) (by decide +kernel)) (by decide +kernel), in_g (List.mem_of_getElem? (i := 917) (by decide +kernel)) (by decide +kernel), in_g (List.mem_of_getElem? (i := 106) (by decide +kernel)) (by decide +kernel), in_g (List.mem_of_getElem? (i := 918) (by decide +kernel)) (by decide +kernel), ⟨by decide +kernel, by decide +kernel, by decide +kernel⟩, by decide⟩
abbrev mX10_rightPull : MI := (yX10_rightPull, cX10_rightPull, 3, some .int)
theorem vX10_rightPull : MVk mX10_rightPull 2 := ⟨in_g (List.mem_of_getElem? (i := 953) (by decide +kernel)) (by decide +kernel), in_g (List.mem_of_getElem? (i := 954) (by decide +kernel)) (by decide +kernel), in_g (List.mem_of_getElem? (i := 106) (by decide +kernel)) (by decide +kernel), in_g (List.mem_of_getElem? (i := 955) (by decide +kernel)) (by decide +kernel), ⟨by decide +kernel, by decide +kernel, by decide +kernel⟩, by decide⟩
abbrev mX10_rightSteps : MI := (yX10_rightSteps, cX10_rightSteps, 5, some .int)
theorem vX10_rightSteps : MVk mX10_rightSteps 2 := ⟨in_g (List.mem_of_getElem? (i := 587) (by decide +kernel)) (by decide +kernel), in_g (List.mem_of_getElem? (i := 588) (by decide +kernel)) (by decide +kernel), in_g (List.mem_of_getElem? (i := 106) (by decide +kernel)) (by decide +kernel), in_g (List.mem_of_getElem? (i := 589) (by decide +kernel)) (by decide +kernel), ⟨by decide +kernel, by decide +kernel, by decide +kernel⟩, by decide⟩
abbrev mX12_actRead : MI := (yX12_actRead, cX12_actRead, 2, some .boolean)
theorem vX12_actRead : MVk mX12_actRead 0 := ⟨in_g (List.mem_of_getElem? (i := 1642) (by decide +kernel)) (by decide +kernel), in_g (List.mem_of_getElem? (i := 58) (by decide +kernel)) (by decide +kernel), in_g (List.mem_of_getElem? (i := 117) (by decide +kernel)) (by decide +kernel), in_g (List.mem_of_getElem? (i := 1643) (by decide +kernel)) (by decide +kernel), ⟨by decide +kernel, by decide +kernel, by decide +kernel⟩, by decide⟩
abbrev mX12_againRead : MI := (yX12_againRead, cX12_againRead, 2, some .boolean)
theorem vX12_againRead : MVk mX12_againRead 1 := ⟨in_g (List.mem_of_getElem? (i := 1682) (by decide +kernel)) (by decide +kernel), in_g (List.mem_of_getElem? (i := 68) (by decide +kernel)) (by decide +kernel), in_g (List.mem_of_getElem? (i := 117) (by decide +kernel)) (by decide +kernel), in_g (List.mem_of_getElem? (i := 1683) (by decide +kernel)) (by decide +kernel), ⟨by decide +kernel, by decide +kernel, by decide +kernel⟩, by decide⟩
abbrev mX12_agreeing : MI := (yX12_agreeing, cX12_agreeing, 10, some .int)
theorem vX12_agreeing : MVk mX12_agreeing 3 := ⟨in_g (List.mem_of_getElem? (i := 1891) (by decide +kernel)) (by decide +kernel), in_g (List.mem_of_getElem? (i := 101) (by decide +kernel)) (by decide +kernel), in_g (List.mem_of_getElem? (i := 117) (by decide +kernel)) (by decide +kernel), in_g (List.mem_of_getElem? (i := 1892) (by decide +kernel)) (by decide +kernel), ⟨by decide +kernel, by decide +kernel, by decide +kernel⟩, by decide⟩
abbrev mX12_backTo : MI := (yX12_backTo, cX12_backTo, 3, none)
theorem vX12_backTo : MVk mX12_backTo 1 := ⟨in_g (List.mem_of_getElem? (i := 1694) (by decide +kernel)) (by decide +kernel), in_g (List.mem_of_getElem? (i := 71) (by decide +kernel)) (by decide +kernel), in_g (List.mem_of_getElem? (i := 117) (by decide +kernel)) (by decide +kernel), in_g (List.mem_of_getElem? (i := 1695) (by decide +kernel)) (by decide +kernel), ⟨by decide +kernel, by decide +kernel, by decide +kernel⟩, by decide⟩
abbrev mX12_begin : MI := (yX12_begin, cX12_begin, 1, none)
theorem vX12_begin : MVk mX12_begin 0 := ⟨in_g (List.mem_of_getElem? (i := 1894) (by decide +kernel)) (by decide +kernel), in_g (List.mem_of_getElem? (i := 1895) (by decide +kernel)) (by decide +kernel), in_g (List.mem_of_getElem? (i := 117) (by decide +kernel)) (by decide +kernel), in_g (List.mem_of_getElem? (i := 1896) (by decide +kernel)) (by decide +kernel), ⟨by decide +kernel, by decide +kernel, by decide +kernel⟩, by decide⟩
abbrev mX12_begins : MI := (yX12_begins, cX12_begins, 1, none)
theorem vX12_begins : MVk mX12_begins 0 := ⟨in_g (List.mem_of_getElem? (i := 1317) (by decide +kernel)) (by decide +kernel), in_g (List.mem_of_getElem? (i := 40) (by decide +kernel)) (by decide +kernel), in_g (List.mem_of_getElem? (i := 117) (by decide +kernel)) (by decide +kernel), in_g (List.mem_of_getElem? (i := 1318) (by decide +kernel)) (by decide +kernel), ⟨by decide +kernel, by decide +kernel, by decide +kernel⟩, by decide⟩
abbrev mX12_clear : MI := (yX12_clear, cX12_clear, 5, some .int)
theorem vX12_clear : MVk mX12_clear 4 := ⟨in_g (List.mem_of_getElem? (i := 1850) (by decide +kernel)) (by decide +kernel), in_g (List.mem_of_getElem? (i := 1851) (by decide +kernel)) (by decide +kernel), in_g (List.mem_of_getElem? (i := 117) (by decide +kernel)) (by decide +kernel), in_g (List.mem_of_getElem? (i := 1852) (by decide +kernel)) (by decide +kernel), ⟨by decide +kernel, by decide +kernel, by decide +kernel⟩, by decide⟩
abbrev mX12_clipRead : MI := (yX12_clipRead, cX12_clipRead, 2, some .boolean)
theorem vX12_clipRead : MVk mX12_clipRead 1 := ⟨in_g (List.mem_of_getElem? (i := 1678) (by decide +kernel)) (by decide +kernel), in_g (List.mem_of_getElem? (i := 67) (by decide +kernel)) (by decide +kernel), in_g (List.mem_of_getElem? (i := 117) (by decide +kernel)) (by decide +kernel), in_g (List.mem_of_getElem? (i := 1679) (by decide +kernel)) (by decide +kernel), ⟨by decide +kernel, by decide +kernel, by decide +kernel⟩, by decide⟩
abbrev mX12_comesFrom : MI := (yX12_comesFrom, cX12_comesFrom, 4, some .int)
theorem vX12_comesFrom : MVk mX12_comesFrom 3 := ⟨in_g (List.mem_of_getElem? (i := 1871) (by decide +kernel)) (by decide +kernel), in_g (List.mem_of_getElem? (i := 99) (by decide +kernel)) (by decide +kernel), in_g (List.mem_of_getElem? (i := 117) (by decide +kernel)) (by decide +kernel), in_g (List.mem_of_getElem? (i := 1872) (by decide +kernel)) (by decide +kernel), ⟨by decide +kernel, by decide +kernel, by decide +kernel⟩, by decide⟩
abbrev mX12_count : MI := (yX12_count, cX12_count, 2, some .int)
theorem vX12_count : MVk mX12_count 1 := ⟨in_g (List.mem_of_getElem? (i := 1915) (by decide +kernel)) (by decide +kernel), in_g (List.mem_of_getElem? (i := 1916) (by decide +kernel)) (by decide +kernel), in_g (List.mem_of_getElem? (i := 117) (by decide +kernel)) (by decide +kernel), in_g (List.mem_of_getElem? (i := 1917) (by decide +kernel)) (by decide +kernel), ⟨by decide +kernel, by decide +kernel, by decide +kernel⟩, by decide⟩
abbrev mX12_cuts : MI := (yX12_cuts, cX12_cuts, 7, some .boolean)
theorem vX12_cuts : MVk mX12_cuts 1 := ⟨in_g (List.mem_of_getElem? (i := 1710) (by decide +kernel)) (by decide +kernel), in_g (List.mem_of_getElem? (i := 75) (by decide +kernel)) (by decide +kernel), in_g (List.mem_of_getElem? (i := 117) (by decide +kernel)) (by decide +kernel), in_g (List.mem_of_getElem? (i := 1711) (by decide +kernel)) (by decide +kernel), ⟨by decide +kernel, by decide +kernel, by decide +kernel⟩, by decide⟩
abbrev mX12_differs : MI := (yX12_differs, cX12_differs, 5, some .int)
theorem vX12_differs : MVk mX12_differs 4 := ⟨in_g (List.mem_of_getElem? (i := 1595) (by decide +kernel)) (by decide +kernel), in_g (List.mem_of_getElem? (i := 50) (by decide +kernel)) (by decide +kernel), in_g (List.mem_of_getElem? (i := 117) (by decide +kernel)) (by decide +kernel), in_g (List.mem_of_getElem? (i := 1596) (by decide +kernel)) (by decide +kernel), ⟨by decide +kernel, by decide +kernel, by decide +kernel⟩, by decide⟩
abbrev mX12_doAll : MI := (yX12_doAll, cX12_doAll, 5, none)
theorem vX12_doAll : MVk mX12_doAll 0 := ⟨in_g (List.mem_of_getElem? (i := 1690) (by decide +kernel)) (by decide +kernel), in_g (List.mem_of_getElem? (i := 70) (by decide +kernel)) (by decide +kernel), in_g (List.mem_of_getElem? (i := 117) (by decide +kernel)) (by decide +kernel), in_g (List.mem_of_getElem? (i := 1691) (by decide +kernel)) (by decide +kernel), ⟨by decide +kernel, by decide +kernel, by decide +kernel⟩, by decide⟩
abbrev mX12_does : MI := (yX12_does, cX12_does, 2, some .boolean)
theorem vX12_does : MVk mX12_does 1 := ⟨in_g (List.mem_of_getElem? (i := 1698) (by decide +kernel)) (by decide +kernel), in_g (List.mem_of_getElem? (i := 72) (by decide +kernel)) (by decide +kernel), in_g (List.mem_of_getElem? (i := 117) (by decide +kernel)) (by decide +kernel), in_g (List.mem_of_getElem? (i := 1699) (by decide +kernel)) (by decide +kernel), ⟨by decide +kernel, by decide +kernel, by decide +kernel⟩, by decide⟩
abbrev mX12_draw : MI := (yX12_draw, cX12_draw, 2, some .int)
theorem vX12_draw : MVk mX12_draw 1 := ⟨in_g (List.mem_of_getElem? (i := 1617) (by decide +kernel)) (by decide +kernel), in_g (List.mem_of_getElem? (i := 1618) (by decide +kernel)) (by decide +kernel), in_g (List.mem_of_getElem? (i := 117) (by decide +kernel)) (by decide +kernel), in_g (List.mem_of_getElem? (i := 1619) (by decide +kernel)) (by decide +kernel), ⟨by decide +kernel, by decide +kernel, by decide +kernel⟩, by decide⟩
abbrev mX12_ended : MI := (yX12_ended, cX12_ended, 1, some .boolean)
theorem vX12_ended : MVk mX12_ended 0 := ⟨in_g (List.mem_of_getElem? (i := 1674) (by decide +kernel)) (by decide +kernel), in_g (List.mem_of_getElem? (i := 66) (by decide +kernel)) (by decide +kernel), in_g (List.mem_of_getElem? (i := 117) (by decide +kernel)) (by decide +kernel), in_g (List.mem_of_getElem? (i := 1675) (by decide +kernel)) (by decide +kernel), ⟨by decide +kernel, by decide +kernel, by decide +kernel⟩, by decide⟩
abbrev mX12_fails : MI := (yX12_fails, cX12_fails, 2, some .int)
theorem vX12_fails : MVk mX12_fails 1 := ⟨in_g (List.mem_of_getElem? (i := 1754) (by decide +kernel)) (by decide +kernel), in_g (List.mem_of_getElem? (i := 84) (by decide +kernel)) (by decide +kernel), in_g (List.mem_of_getElem? (i := 117) (by decide +kernel)) (by decide +kernel), in_g (List.mem_of_getElem? (i := 1755) (by decide +kernel)) (by decide +kernel), ⟨by decide +kernel, by decide +kernel, by decide +kernel⟩, by decide⟩
abbrev mX12_fault : MI := (yX12_fault, cX12_fault, 2, some .int)
theorem vX12_fault : MVk mX12_fault 1 := ⟨in_g (List.mem_of_getElem? (i := 1741) (by decide +kernel)) (by decide +kernel), in_g (List.mem_of_getElem? (i := 1742) (by decide +kernel)) (by decide +kernel), in_g (List.mem_of_getElem? (i := 117) (by decide +kernel)) (by decide +kernel), in_g (List.mem_of_getElem? (i := 1743) (by decide +kernel)) (by decide +kernel), ⟨by decide +kernel, by decide +kernel, by decide +kernel⟩, by decide⟩
abbrev mX12_feed : MI := (yX12_feed, cX12_feed, 8, some .int)
theorem vX12_feed : MVk mX12_feed 5 := ⟨in_g (List.mem_of_getElem? (i := 1531) (by decide +kernel)) (by decide +kernel), in_g (List.mem_of_getElem? (i := 1532) (by decide +kernel)) (by decide +kernel), in_g (List.mem_of_getElem? (i := 117) (by decide +kernel)) (by decide +kernel), in_g (List.mem_of_getElem? (i := 1533) (by decide +kernel)) (by decide +kernel), ⟨by decide +kernel, by decide +kernel, by decide +kernel⟩, by decide⟩
abbrev mX12_finds : MI := (yX12_finds, cX12_finds, 5, some .boolean)
theorem vX12_finds : MVk mX12_finds 1 := ⟨in_g (List.mem_of_getElem? (i := 1830) (by decide +kernel)) (by decide +kernel), in_g (List.mem_of_getElem? (i := 94) (by decide +kernel)) (by decide +kernel), in_g (List.mem_of_getElem? (i := 117) (by decide +kernel)) (by decide +kernel), in_g (List.mem_of_getElem? (i := 1831) (by decide +kernel)) (by decide +kernel), ⟨by decide +kernel, by decide +kernel, by decide +kernel⟩, by decide⟩
abbrev mX12_fits : MI := (yX12_fits, cX12_fits, 11, some .boolean)
theorem vX12_fits : MVk mX12_fits 4 := ⟨in_g (List.mem_of_getElem? (i := 1834) (by decide +kernel)) (by decide +kernel), in_g (List.mem_of_getElem? (i := 95) (by decide +kernel)) (by decide +kernel), in_g (List.mem_of_getElem? (i := 117) (by decide +kernel)) (by decide +kernel), in_g (List.mem_of_getElem? (i := 1835) (by decide +kernel)) (by decide +kernel), ⟨by decide +kernel, by decide +kernel, by decide +kernel⟩, by decide⟩
abbrev mX12_forget : MI := (yX12_forget, cX12_forget, 2, some .int)
theorem vX12_forget : MVk mX12_forget 0 := ⟨in_g (List.mem_of_getElem? (i := 1821) (by decide +kernel)) (by decide +kernel), in_g (List.mem_of_getElem? (i := 1822) (by decide +kernel)) (by decide +kernel), in_g (List.mem_of_getElem? (i := 117) (by decide +kernel)) (by decide +kernel), in_g (List.mem_of_getElem? (i := 1823) (by decide +kernel)) (by decide +kernel), ⟨by decide +kernel, by decide +kernel, by decide +kernel⟩, by decide⟩
abbrev mX12_forgets : MI := (yX12_forgets, cX12_forgets, 2, none)
theorem vX12_forgets : MVk mX12_forgets 0 := ⟨in_g (List.mem_of_getElem? (i := 1325) (by decide +kernel)) (by decide +kernel), in_g (List.mem_of_getElem? (i := 42) (by decide +kernel)) (by decide +kernel), in_g (List.mem_of_getElem? (i := 117) (by decide +kernel)) (by decide +kernel), in_g (List.mem_of_getElem? (i := 1326) (by decide +kernel)) (by decide +kernel), ⟨by decide +kernel, by decide +kernel, by decide +kernel⟩, by decide⟩
abbrev mX12_formOf : MI := (yX12_formOf, cX12_formOf, 3, some .int)
theorem vX12_formOf : MVk mX12_formOf 1 := ⟨in_g (List.mem_of_getElem? (i := 1658) (by decide +kernel)) (by decide +kernel), in_g (List.mem_of_getElem? (i := 62) (by decide +kernel)) (by decide +kernel), in_g (List.mem_of_getElem? (i := 117) (by decide +kernel)) (by decide +kernel), in_g (List.mem_of_getElem? (i := 1659) (by decide +kernel)) (by decide +kernel), ⟨by decide +kernel, by decide +kernel, by decide +kernel⟩, by decide⟩
abbrev mX12_formRead : MI := (yX12_formRead, cX12_formRead, 2, some .boolean)
theorem vX12_formRead : MVk mX12_formRead 0 := ⟨in_g (List.mem_of_getElem? (i := 1654) (by decide +kernel)) (by decide +kernel), in_g (List.mem_of_getElem? (i := 61) (by decide +kernel)) (by decide +kernel), in_g (List.mem_of_getElem? (i := 117) (by decide +kernel)) (by decide +kernel), in_g (List.mem_of_getElem? (i := 1655) (by decide +kernel)) (by decide +kernel), ⟨by decide +kernel, by decide +kernel, by decide +kernel⟩, by decide⟩
abbrev mX12_found : MI := (yX12_found, cX12_found, 3, some .int)
theorem vX12_found : MVk mX12_found 2 := ⟨in_g (List.mem_of_getElem? (i := 1825) (by decide +kernel)) (by decide +kernel), in_g (List.mem_of_getElem? (i := 1826) (by decide +kernel)) (by decide +kernel), in_g (List.mem_of_getElem? (i := 117) (by decide +kernel)) (by decide +kernel), in_g (List.mem_of_getElem? (i := 1827) (by decide +kernel)) (by decide +kernel), ⟨by decide +kernel, by decide +kernel, by decide +kernel⟩, by decide⟩
abbrev mX12_goes : MI := (yX12_goes, cX12_goes, 6, some .boolean)
theorem vX12_goes : MVk mX12_goes 3 := ⟨in_g (List.mem_of_getElem? (i := 1722) (by decide +kernel)) (by decide +kernel), in_g (List.mem_of_getElem? (i := 78) (by decide +kernel)) (by decide +kernel), in_g (List.mem_of_getElem? (i := 117) (by decide +kernel)) (by decide +kernel), in_g (List.mem_of_getElem? (i := 1723) (by decide +kernel)) (by decide +kernel), ⟨by decide +kernel, by decide +kernel, by decide +kernel⟩, by decide⟩
abbrev mX12_goesOn : MI := (yX12_goesOn, cX12_goesOn, 7, some .int)
theorem vX12_goesOn : MVk mX12_goesOn 3 := ⟨in_g (List.mem_of_getElem? (i := 1839) (by decide +kernel)) (by decide +kernel), in_g (List.mem_of_getElem? (i := 96) (by decide +kernel)) (by decide +kernel), in_g (List.mem_of_getElem? (i := 117) (by decide +kernel)) (by decide +kernel), in_g (List.mem_of_getElem? (i := 1840) (by decide +kernel)) (by decide +kernel), ⟨by decide +kernel, by decide +kernel, by decide +kernel⟩, by decide⟩
abbrev mX12_grain : MI := (yX12_grain, cX12_grain, 9, some .int)
theorem vX12_grain : MVk mX12_grain 2 := ⟨in_g (List.mem_of_getElem? (i := 1590) (by decide +kernel)) (by decide +kernel), in_g (List.mem_of_getElem? (i := 1591) (by decide +kernel)) (by decide +kernel), in_g (List.mem_of_getElem? (i := 117) (by decide +kernel)) (by decide +kernel), in_g (List.mem_of_getElem? (i := 1592) (by decide +kernel)) (by decide +kernel), ⟨by decide +kernel, by decide +kernel, by decide +kernel⟩, by decide⟩
abbrev mX12_hatches : MI := (yX12_hatches, cX12_hatches, 6, some .boolean)
theorem vX12_hatches : MVk mX12_hatches 1 := ⟨in_g (List.mem_of_getElem? (i := 1730) (by decide +kernel)) (by decide +kernel), in_g (List.mem_of_getElem? (i := 80) (by decide +kernel)) (by decide +kernel), in_g (List.mem_of_getElem? (i := 117) (by decide +kernel)) (by decide +kernel), in_g (List.mem_of_getElem? (i := 1731) (by decide +kernel)) (by decide +kernel), ⟨by decide +kernel, by decide +kernel, by decide +kernel⟩, by decide⟩
abbrev mX12_home : MI := (yX12_home, cX12_home, 2, none)
theorem vX12_home : MVk mX12_home 1 := ⟨in_g (List.mem_of_getElem? (i := 1321) (by decide +kernel)) (by decide +kernel), in_g (List.mem_of_getElem? (i := 41) (by decide +kernel)) (by decide +kernel), in_g (List.mem_of_getElem? (i := 117) (by decide +kernel)) (by decide +kernel), in_g (List.mem_of_getElem? (i := 1322) (by decide +kernel)) (by decide +kernel), ⟨by decide +kernel, by decide +kernel, by decide +kernel⟩, by decide⟩
abbrev mX12_hung : MI := (yX12_hung, cX12_hung, 2, some .long)
theorem vX12_hung : MVk mX12_hung 1 := ⟨in_g (List.mem_of_getElem? (i := 1569) (by decide +kernel)) (by decide +kernel), in_g (List.mem_of_getElem? (i := 46) (by decide +kernel)) (by decide +kernel), in_g (List.mem_of_getElem? (i := 117) (by decide +kernel)) (by decide +kernel), in_g (List.mem_of_getElem? (i := 1570) (by decide +kernel)) (by decide +kernel), ⟨by decide +kernel, by decide +kernel, by decide +kernel⟩, by decide⟩
abbrev mX12_isAway : MI := (yX12_isAway, cX12_isAway, 20, some .boolean)
theorem sX12_isAway : MSk mX12_isAway 6 := ⟨in_g (List.mem_of_getElem? (i := 1862) (by decide +kernel)) (by decide +kernel), in_g (List.mem_of_getElem? (i := 117) (by decide +kernel)) (by decide +kernel), in_g (List.mem_of_getElem? (i := 1863) (by decide +kernel)) (by decide +kernel), ⟨by decide +kernel, by decide +kernel, by decide +kernel⟩, by decide⟩
abbrev mX12_isBeside : MI := (yX12_isBeside, cX12_isBeside, 2, some .boolean)
theorem vX12_isBeside : MVk mX12_isBeside 1 := ⟨in_g (List.mem_of_getElem? (i := 1855) (by decide +kernel)) (by decide +kernel), in_g (List.mem_of_getElem? (i := 97) (by decide +kernel)) (by decide +kernel), in_g (List.mem_of_getElem? (i := 117) (by decide +kernel)) (by decide +kernel), in_g (List.mem_of_getElem? (i := 1856) (by decide +kernel)) (by decide +kernel), ⟨by decide +kernel, by decide +kernel, by decide +kernel⟩, by decide⟩
abbrev mX12_isBeyond : MI := (yX12_isBeyond, cX12_isBeyond, 5, some .boolean)
theorem vX12_isBeyond : MVk mX12_isBeyond 2 := ⟨in_g (List.mem_of_getElem? (i := 1714) (by decide +kernel)) (by decide +kernel), in_g (List.mem_of_getElem? (i := 76) (by decide +kernel)) (by decide +kernel), in_g (List.mem_of_getElem? (i := 117) (by decide +kernel)) (by decide +kernel), in_g (List.mem_of_getElem? (i := 1715) (by decide +kernel)) (by decide +kernel), ⟨by decide +kernel, by decide +kernel, by decide +kernel⟩, by decide⟩
abbrev mX12_isClear : MI := (yX12_isClear, cX12_isClear, 9, some .boolean)
theorem vX12_isClear : MVk mX12_isClear 4 := ⟨in_g (List.mem_of_getElem? (i := 1859) (by decide +kernel)) (by decide +kernel), in_g (List.mem_of_getElem? (i := 98) (by decide +kernel)) (by decide +kernel), in_g (List.mem_of_getElem? (i := 117) (by decide +kernel)) (by decide +kernel), in_g (List.mem_of_getElem? (i := 1860) (by decide +kernel)) (by decide +kernel), ⟨by decide +kernel, by decide +kernel, by decide +kernel⟩, by decide⟩
abbrev mX12_isDigit : MI := (yX12_isDigit, cX12_isDigit, 2, some .boolean)
theorem vX12_isDigit : MVk mX12_isDigit 1 := ⟨in_g (List.mem_of_getElem? (i := 1638) (by decide +kernel)) (by decide +kernel), in_g (List.mem_of_getElem? (i := 57) (by decide +kernel)) (by decide +kernel), in_g (List.mem_of_getElem? (i := 117) (by decide +kernel)) (by decide +kernel), in_g (List.mem_of_getElem? (i := 1639) (by decide +kernel)) (by decide +kernel), ⟨by decide +kernel, by decide +kernel, by decide +kernel⟩, by decide⟩
abbrev mX12_isIn : MI := (yX12_isIn, cX12_isIn, 3, some .boolean)
theorem sX12_isIn : MSk mX12_isIn 3 := ⟨in_g (List.mem_of_getElem? (i := 1539) (by decide +kernel)) (by decide +kernel), in_g (List.mem_of_getElem? (i := 117) (by decide +kernel)) (by decide +kernel), in_g (List.mem_of_getElem? (i := 1540) (by decide +kernel)) (by decide +kernel), ⟨by decide +kernel, by decide +kernel, by decide +kernel⟩, by decide⟩
abbrev mX12_isMove : MI := (yX12_isMove, cX12_isMove, 2, some .boolean)
theorem vX12_isMove : MVk mX12_isMove 1 := ⟨in_g (List.mem_of_getElem? (i := 1750) (by decide +kernel)) (by decide +kernel), in_g (List.mem_of_getElem? (i := 83) (by decide +kernel)) (by decide +kernel), in_g (List.mem_of_getElem? (i := 117) (by decide +kernel)) (by decide +kernel), in_g (List.mem_of_getElem? (i := 1751) (by decide +kernel)) (by decide +kernel), ⟨by decide +kernel, by decide +kernel, by decide +kernel⟩, by decide⟩
abbrev mX12_isOnWall : MI := (yX12_isOnWall, cX12_isOnWall, 3, some .boolean)
theorem vX12_isOnWall : MVk mX12_isOnWall 2 := ⟨in_g (List.mem_of_getElem? (i := 1551) (by decide +kernel)) (by decide +kernel), in_g (List.mem_of_getElem? (i := 43) (by decide +kernel)) (by decide +kernel), in_g (List.mem_of_getElem? (i := 117) (by decide +kernel)) (by decide +kernel), in_g (List.mem_of_getElem? (i := 1552) (by decide +kernel)) (by decide +kernel), ⟨by decide +kernel, by decide +kernel, by decide +kernel⟩, by decide⟩
abbrev mX12_isSign : MI := (yX12_isSign, cX12_isSign, 2, some .boolean)
theorem vX12_isSign : MVk mX12_isSign 1 := ⟨in_g (List.mem_of_getElem? (i := 1646) (by decide +kernel)) (by decide +kernel), in_g (List.mem_of_getElem? (i := 59) (by decide +kernel)) (by decide +kernel), in_g (List.mem_of_getElem? (i := 117) (by decide +kernel)) (by decide +kernel), in_g (List.mem_of_getElem? (i := 1647) (by decide +kernel)) (by decide +kernel), ⟨by decide +kernel, by decide +kernel, by decide +kernel⟩, by decide⟩
abbrev mX12_isSmall : MI := (yX12_isSmall, cX12_isSmall, 2, some .boolean)
theorem vX12_isSmall : MVk mX12_isSmall 1 := ⟨in_g (List.mem_of_getElem? (i := 1626) (by decide +kernel)) (by decide +kernel), in_g (List.mem_of_getElem? (i := 54) (by decide +kernel)) (by decide +kernel), in_g (List.mem_of_getElem? (i := 117) (by decide +kernel)) (by decide +kernel), in_g (List.mem_of_getElem? (i := 1627) (by decide +kernel)) (by decide +kernel), ⟨by decide +kernel, by decide +kernel, by decide +kernel⟩, by decide⟩
abbrev mX12_isThere : MI := (yX12_isThere, cX12_isThere, 5, some .boolean)
theorem vX12_isThere : MVk mX12_isThere 2 := ⟨in_g (List.mem_of_getElem? (i := 1718) (by decide +kernel)) (by decide +kernel), in_g (List.mem_of_getElem? (i := 77) (by decide +kernel)) (by decide +kernel), in_g (List.mem_of_getElem? (i := 117) (by decide +kernel)) (by decide +kernel), in_g (List.mem_of_getElem? (i := 1719) (by decide +kernel)) (by decide +kernel), ⟨by decide +kernel, by decide +kernel, by decide +kernel⟩, by decide⟩
abbrev mX12_joint : MI := (yX12_joint, cX12_joint, 11, some .int)
theorem vX12_joint : MVk mX12_joint 3 := ⟨in_g (List.mem_of_getElem? (i := 1874) (by decide +kernel)) (by decide +kernel), in_g (List.mem_of_getElem? (i := 1875) (by decide +kernel)) (by decide +kernel), in_g (List.mem_of_getElem? (i := 117) (by decide +kernel)) (by decide +kernel), in_g (List.mem_of_getElem? (i := 1876) (by decide +kernel)) (by decide +kernel), ⟨by decide +kernel, by decide +kernel, by decide +kernel⟩, by decide⟩
abbrev mX12_keeps : MI := (yX12_keeps, cX12_keeps, 3, none)
theorem vX12_keeps : MVk mX12_keeps 1 := ⟨in_g (List.mem_of_getElem? (i := 1738) (by decide +kernel)) (by decide +kernel), in_g (List.mem_of_getElem? (i := 82) (by decide +kernel)) (by decide +kernel), in_g (List.mem_of_getElem? (i := 117) (by decide +kernel)) (by decide +kernel), in_g (List.mem_of_getElem? (i := 1739) (by decide +kernel)) (by decide +kernel), ⟨by decide +kernel, by decide +kernel, by decide +kernel⟩, by decide⟩
abbrev mX12_layHeights : MI := (yX12_layHeights, cX12_layHeights, 9, some .int)
theorem vX12_layHeights : MVk mX12_layHeights 4 := ⟨in_g (List.mem_of_getElem? (i := 1879) (by decide +kernel)) (by decide +kernel), in_g (List.mem_of_getElem? (i := 100) (by decide +kernel)) (by decide +kernel), in_g (List.mem_of_getElem? (i := 117) (by decide +kernel)) (by decide +kernel), in_g (List.mem_of_getElem? (i := 1880) (by decide +kernel)) (by decide +kernel), ⟨by decide +kernel, by decide +kernel, by decide +kernel⟩, by decide⟩
abbrev mX12_layWay : MI := (yX12_layWay, cX12_layWay, 5, none)
theorem vX12_layWay : MVk mX12_layWay 4 := ⟨in_g (List.mem_of_getElem? (i := 1774) (by decide +kernel)) (by decide +kernel), in_g (List.mem_of_getElem? (i := 88) (by decide +kernel)) (by decide +kernel), in_g (List.mem_of_getElem? (i := 117) (by decide +kernel)) (by decide +kernel), in_g (List.mem_of_getElem? (i := 1775) (by decide +kernel)) (by decide +kernel), ⟨by decide +kernel, by decide +kernel, by decide +kernel⟩, by decide⟩
abbrev mX12_leftAt : MI := (yX12_leftAt, cX12_leftAt, 2, some .int)
theorem vX12_leftAt : MVk mX12_leftAt 1 := ⟨in_g (List.mem_of_getElem? (i := 1762) (by decide +kernel)) (by decide +kernel), in_g (List.mem_of_getElem? (i := 86) (by decide +kernel)) (by decide +kernel), in_g (List.mem_of_getElem? (i := 117) (by decide +kernel)) (by decide +kernel), in_g (List.mem_of_getElem? (i := 1763) (by decide +kernel)) (by decide +kernel), ⟨by decide +kernel, by decide +kernel, by decide +kernel⟩, by decide⟩
abbrev mX12_leftOf : MI := (yX12_leftOf, cX12_leftOf, 3, some .int)
theorem vX12_leftOf : MVk mX12_leftOf 2 := ⟨in_g (List.mem_of_getElem? (i := 1555) (by decide +kernel)) (by decide +kernel), in_g (List.mem_of_getElem? (i := 44) (by decide +kernel)) (by decide +kernel), in_g (List.mem_of_getElem? (i := 117) (by decide +kernel)) (by decide +kernel), in_g (List.mem_of_getElem? (i := 1556) (by decide +kernel)) (by decide +kernel), ⟨by decide +kernel, by decide +kernel, by decide +kernel⟩, by decide⟩
abbrev mX12_lifts : MI := (yX12_lifts, cX12_lifts, 4, some .boolean)
theorem vX12_lifts : MVk mX12_lifts 1 := ⟨in_g (List.mem_of_getElem? (i := 1726) (by decide +kernel)) (by decide +kernel), in_g (List.mem_of_getElem? (i := 79) (by decide +kernel)) (by decide +kernel), in_g (List.mem_of_getElem? (i := 117) (by decide +kernel)) (by decide +kernel), in_g (List.mem_of_getElem? (i := 1727) (by decide +kernel)) (by decide +kernel), ⟨by decide +kernel, by decide +kernel, by decide +kernel⟩, by decide⟩
abbrev mX12_lines : MI := (yX12_lines, cX12_lines, 6, some .boolean)
theorem vX12_lines : MVk mX12_lines 4 := ⟨in_g (List.mem_of_getElem? (i := 1706) (by decide +kernel)) (by decide +kernel), in_g (List.mem_of_getElem? (i := 74) (by decide +kernel)) (by decide +kernel), in_g (List.mem_of_getElem? (i := 117) (by decide +kernel)) (by decide +kernel), in_g (List.mem_of_getElem? (i := 1707) (by decide +kernel)) (by decide +kernel), ⟨by decide +kernel, by decide +kernel, by decide +kernel⟩, by decide⟩
abbrev mX12_look : MI := (yX12_look, cX12_look, 3, some .int)
theorem vX12_look : MVk mX12_look 2 := ⟨in_g (List.mem_of_getElem? (i := 1745) (by decide +kernel)) (by decide +kernel), in_g (List.mem_of_getElem? (i := 1746) (by decide +kernel)) (by decide +kernel), in_g (List.mem_of_getElem? (i := 117) (by decide +kernel)) (by decide +kernel), in_g (List.mem_of_getElem? (i := 1747) (by decide +kernel)) (by decide +kernel), ⟨by decide +kernel, by decide +kernel, by decide +kernel⟩, by decide⟩
abbrev mX12_mark : MI := (yX12_mark, cX12_mark, 5, some .int)
theorem vX12_mark : MVk mX12_mark 4 := ⟨in_g (List.mem_of_getElem? (i := 1882) (by decide +kernel)) (by decide +kernel), in_g (List.mem_of_getElem? (i := 1883) (by decide +kernel)) (by decide +kernel), in_g (List.mem_of_getElem? (i := 117) (by decide +kernel)) (by decide +kernel), in_g (List.mem_of_getElem? (i := 1884) (by decide +kernel)) (by decide +kernel), ⟨by decide +kernel, by decide +kernel, by decide +kernel⟩, by decide⟩
abbrev mX12_mayDraw : MI := (yX12_mayDraw, cX12_mayDraw, 3, some .boolean)
theorem vX12_mayDraw : MVk mX12_mayDraw 2 := ⟨in_g (List.mem_of_getElem? (i := 1610) (by decide +kernel)) (by decide +kernel), in_g (List.mem_of_getElem? (i := 52) (by decide +kernel)) (by decide +kernel), in_g (List.mem_of_getElem? (i := 117) (by decide +kernel)) (by decide +kernel), in_g (List.mem_of_getElem? (i := 1611) (by decide +kernel)) (by decide +kernel), ⟨by decide +kernel, by decide +kernel, by decide +kernel⟩, by decide⟩
abbrev mX12_mended : MI := (yX12_mended, cX12_mended, 8, some .int)
theorem vX12_mended : MVk mX12_mended 3 := ⟨in_g (List.mem_of_getElem? (i := 1842) (by decide +kernel)) (by decide +kernel), in_g (List.mem_of_getElem? (i := 1843) (by decide +kernel)) (by decide +kernel), in_g (List.mem_of_getElem? (i := 117) (by decide +kernel)) (by decide +kernel), in_g (List.mem_of_getElem? (i := 1844) (by decide +kernel)) (by decide +kernel), ⟨by decide +kernel, by decide +kernel, by decide +kernel⟩, by decide⟩
abbrev mX12_miss : MI := (yX12_miss, cX12_miss, 4, some .boolean)
theorem vX12_miss : MVk mX12_miss 3 := ⟨in_g (List.mem_of_getElem? (i := 1805) (by decide +kernel)) (by decide +kernel), in_g (List.mem_of_getElem? (i := 1806) (by decide +kernel)) (by decide +kernel), in_g (List.mem_of_getElem? (i := 117) (by decide +kernel)) (by decide +kernel), in_g (List.mem_of_getElem? (i := 1807) (by decide +kernel)) (by decide +kernel), ⟨by decide +kernel, by decide +kernel, by decide +kernel⟩, by decide⟩
abbrev mX12_moreBy : MI := (yX12_moreBy, cX12_moreBy, 5, some .int)
theorem vX12_moreBy : MVk mX12_moreBy 2 := ⟨in_g (List.mem_of_getElem? (i := 1814) (by decide +kernel)) (by decide +kernel), in_g (List.mem_of_getElem? (i := 93) (by decide +kernel)) (by decide +kernel), in_g (List.mem_of_getElem? (i := 117) (by decide +kernel)) (by decide +kernel), in_g (List.mem_of_getElem? (i := 1815) (by decide +kernel)) (by decide +kernel), ⟨by decide +kernel, by decide +kernel, by decide +kernel⟩, by decide⟩
abbrev mX12_numberRead : MI := (yX12_numberRead, cX12_numberRead, 3, some .boolean)
theorem vX12_numberRead : MVk mX12_numberRead 2 := ⟨in_g (List.mem_of_getElem? (i := 1662) (by decide +kernel)) (by decide +kernel), in_g (List.mem_of_getElem? (i := 63) (by decide +kernel)) (by decide +kernel), in_g (List.mem_of_getElem? (i := 117) (by decide +kernel)) (by decide +kernel), in_g (List.mem_of_getElem? (i := 1663) (by decide +kernel)) (by decide +kernel), ⟨by decide +kernel, by decide +kernel, by decide +kernel⟩, by decide⟩
abbrev mX12_offset : MI := (yX12_offset, cX12_offset, 9, some .int)
theorem vX12_offset : MVk mX12_offset 2 := ⟨in_g (List.mem_of_getElem? (i := 1886) (by decide +kernel)) (by decide +kernel), in_g (List.mem_of_getElem? (i := 1887) (by decide +kernel)) (by decide +kernel), in_g (List.mem_of_getElem? (i := 117) (by decide +kernel)) (by decide +kernel), in_g (List.mem_of_getElem? (i := 1888) (by decide +kernel)) (by decide +kernel), ⟨by decide +kernel, by decide +kernel, by decide +kernel⟩, by decide⟩
abbrev mX12_opens : MI := (yX12_opens, cX12_opens, 2, none)
theorem vX12_opens : MVk mX12_opens 1 := ⟨in_g (List.mem_of_getElem? (i := 1734) (by decide +kernel)) (by decide +kernel), in_g (List.mem_of_getElem? (i := 81) (by decide +kernel)) (by decide +kernel), in_g (List.mem_of_getElem? (i := 117) (by decide +kernel)) (by decide +kernel), in_g (List.mem_of_getElem? (i := 1735) (by decide +kernel)) (by decide +kernel), ⟨by decide +kernel, by decide +kernel, by decide +kernel⟩, by decide⟩
abbrev mX12_other : MI := (yX12_other, cX12_other, 2, some .int)
theorem vX12_other : MVk mX12_other 0 := ⟨in_g (List.mem_of_getElem? (i := 1846) (by decide +kernel)) (by decide +kernel), in_g (List.mem_of_getElem? (i := 1847) (by decide +kernel)) (by decide +kernel), in_g (List.mem_of_getElem? (i := 117) (by decide +kernel)) (by decide +kernel), in_g (List.mem_of_getElem? (i := 1848) (by decide +kernel)) (by decide +kernel), ⟨by decide +kernel, by decide +kernel, by decide +kernel⟩, by decide⟩
abbrev mX12_packed : MI := (yX12_packed, cX12_packed, 5, some .int)
theorem vX12_packed : MVk mX12_packed 2 := ⟨in_g (List.mem_of_getElem? (i := 1634) (by decide +kernel)) (by decide +kernel), in_g (List.mem_of_getElem? (i := 56) (by decide +kernel)) (by decide +kernel), in_g (List.mem_of_getElem? (i := 117) (by decide +kernel)) (by decide +kernel), in_g (List.mem_of_getElem? (i := 1635) (by decide +kernel)) (by decide +kernel), ⟨by decide +kernel, by decide +kernel, by decide +kernel⟩, by decide⟩
abbrev mX12_parts : MI := (yX12_parts, cX12_parts, 4, some .int)
theorem vX12_parts : MVk mX12_parts 2 := ⟨in_g (List.mem_of_getElem? (i := 1789) (by decide +kernel)) (by decide +kernel), in_g (List.mem_of_getElem? (i := 1790) (by decide +kernel)) (by decide +kernel), in_g (List.mem_of_getElem? (i := 117) (by decide +kernel)) (by decide +kernel), in_g (List.mem_of_getElem? (i := 1791) (by decide +kernel)) (by decide +kernel), ⟨by decide +kernel, by decide +kernel, by decide +kernel⟩, by decide⟩
abbrev mX12_passes : MI := (yX12_passes, cX12_passes, 1, none)
theorem vX12_passes : MVk mX12_passes 0 := ⟨in_g (List.mem_of_getElem? (i := 1899) (by decide +kernel)) (by decide +kernel), in_g (List.mem_of_getElem? (i := 102) (by decide +kernel)) (by decide +kernel), in_g (List.mem_of_getElem? (i := 117) (by decide +kernel)) (by decide +kernel), in_g (List.mem_of_getElem? (i := 1900) (by decide +kernel)) (by decide +kernel), ⟨by decide +kernel, by decide +kernel, by decide +kernel⟩, by decide⟩
abbrev mX12_place : MI := (yX12_place, cX12_place, 4, some .int)
theorem vX12_place : MVk mX12_place 3 := ⟨in_g (List.mem_of_getElem? (i := 1576) (by decide +kernel)) (by decide +kernel), in_g (List.mem_of_getElem? (i := 1577) (by decide +kernel)) (by decide +kernel), in_g (List.mem_of_getElem? (i := 117) (by decide +kernel)) (by decide +kernel), in_g (List.mem_of_getElem? (i := 1578) (by decide +kernel)) (by decide +kernel), ⟨by decide +kernel, by decide +kernel, by decide +kernel⟩, by decide⟩
abbrev mX12_placeX : MI := (yX12_placeX, cX12_placeX, 9, some .int)
theorem vX12_placeX : MVk mX12_placeX 2 := ⟨in_g (List.mem_of_getElem? (i := 1582) (by decide +kernel)) (by decide +kernel), in_g (List.mem_of_getElem? (i := 48) (by decide +kernel)) (by decide +kernel), in_g (List.mem_of_getElem? (i := 117) (by decide +kernel)) (by decide +kernel), in_g (List.mem_of_getElem? (i := 1583) (by decide +kernel)) (by decide +kernel), ⟨by decide +kernel, by decide +kernel, by decide +kernel⟩, by decide⟩
abbrev mX12_placeY : MI := (yX12_placeY, cX12_placeY, 9, some .int)
theorem vX12_placeY : MVk mX12_placeY 2 := ⟨in_g (List.mem_of_getElem? (i := 1587) (by decide +kernel)) (by decide +kernel), in_g (List.mem_of_getElem? (i := 49) (by decide +kernel)) (by decide +kernel), in_g (List.mem_of_getElem? (i := 117) (by decide +kernel)) (by decide +kernel), in_g (List.mem_of_getElem? (i := 1588) (by decide +kernel)) (by decide +kernel), ⟨by decide +kernel, by decide +kernel, by decide +kernel⟩, by decide⟩
abbrev mX12_pull : MI := (yX12_pull, cX12_pull, 4, some .int)
theorem vX12_pull : MVk mX12_pull 3 := ⟨in_g (List.mem_of_getElem? (i := 1601) (by decide +kernel)) (by decide +kernel), in_g (List.mem_of_getElem? (i := 1602) (by decide +kernel)) (by decide +kernel), in_g (List.mem_of_getElem? (i := 117) (by decide +kernel)) (by decide +kernel), in_g (List.mem_of_getElem? (i := 1603) (by decide +kernel)) (by decide +kernel), ⟨by decide +kernel, by decide +kernel, by decide +kernel⟩, by decide⟩
abbrev mX12_pullOf : MI := (yX12_pullOf, cX12_pullOf, 5, some .int)
theorem vX12_pullOf : MVk mX12_pullOf 3 := ⟨in_g (List.mem_of_getElem? (i := 1606) (by decide +kernel)) (by decide +kernel), in_g (List.mem_of_getElem? (i := 51) (by decide +kernel)) (by decide +kernel), in_g (List.mem_of_getElem? (i := 117) (by decide +kernel)) (by decide +kernel), in_g (List.mem_of_getElem? (i := 1607) (by decide +kernel)) (by decide +kernel), ⟨by decide +kernel, by decide +kernel, by decide +kernel⟩, by decide⟩
abbrev mX12_putRead : MI := (yX12_putRead, cX12_putRead, 3, some .boolean)
theorem vX12_putRead : MVk mX12_putRead 1 := ⟨in_g (List.mem_of_getElem? (i := 1666) (by decide +kernel)) (by decide +kernel), in_g (List.mem_of_getElem? (i := 64) (by decide +kernel)) (by decide +kernel), in_g (List.mem_of_getElem? (i := 117) (by decide +kernel)) (by decide +kernel), in_g (List.mem_of_getElem? (i := 1667) (by decide +kernel)) (by decide +kernel), ⟨by decide +kernel, by decide +kernel, by decide +kernel⟩, by decide⟩
abbrev mX12_puts : MI := (yX12_puts, cX12_puts, 7, some .boolean)
theorem vX12_puts : MVk mX12_puts 1 := ⟨in_g (List.mem_of_getElem? (i := 1702) (by decide +kernel)) (by decide +kernel), in_g (List.mem_of_getElem? (i := 73) (by decide +kernel)) (by decide +kernel), in_g (List.mem_of_getElem? (i := 117) (by decide +kernel)) (by decide +kernel), in_g (List.mem_of_getElem? (i := 1703) (by decide +kernel)) (by decide +kernel), ⟨by decide +kernel, by decide +kernel, by decide +kernel⟩, by decide⟩
abbrev mX12_reach : MI := (yX12_reach, cX12_reach, 4, some .int)
theorem vX12_reach : MVk mX12_reach 0 := ⟨in_g (List.mem_of_getElem? (i := 1613) (by decide +kernel)) (by decide +kernel), in_g (List.mem_of_getElem? (i := 1614) (by decide +kernel)) (by decide +kernel), in_g (List.mem_of_getElem? (i := 117) (by decide +kernel)) (by decide +kernel), in_g (List.mem_of_getElem? (i := 1615) (by decide +kernel)) (by decide +kernel), ⟨by decide +kernel, by decide +kernel, by decide +kernel⟩, by decide⟩
abbrev mX12_real : MI := (yX12_real, cX12_real, 5, some .int)
theorem vX12_real : MVk mX12_real 2 := ⟨in_g (List.mem_of_getElem? (i := 1809) (by decide +kernel)) (by decide +kernel), in_g (List.mem_of_getElem? (i := 1810) (by decide +kernel)) (by decide +kernel), in_g (List.mem_of_getElem? (i := 117) (by decide +kernel)) (by decide +kernel), in_g (List.mem_of_getElem? (i := 1811) (by decide +kernel)) (by decide +kernel), ⟨by decide +kernel, by decide +kernel, by decide +kernel⟩, by decide⟩
abbrev mX12_rightAt : MI := (yX12_rightAt, cX12_rightAt, 2, some .int)
theorem vX12_rightAt : MVk mX12_rightAt 1 := ⟨in_g (List.mem_of_getElem? (i := 1766) (by decide +kernel)) (by decide +kernel), in_g (List.mem_of_getElem? (i := 87) (by decide +kernel)) (by decide +kernel), in_g (List.mem_of_getElem? (i := 117) (by decide +kernel)) (by decide +kernel), in_g (List.mem_of_getElem? (i := 1767) (by decide +kernel)) (by decide +kernel), ⟨by decide +kernel, by decide +kernel, by decide +kernel⟩, by decide⟩
abbrev mX12_rightOf : MI := (yX12_rightOf, cX12_rightOf, 3, some .int)
theorem vX12_rightOf : MVk mX12_rightOf 2 := ⟨in_g (List.mem_of_getElem? (i := 1573) (by decide +kernel)) (by decide +kernel), in_g (List.mem_of_getElem? (i := 47) (by decide +kernel)) (by decide +kernel), in_g (List.mem_of_getElem? (i := 117) (by decide +kernel)) (by decide +kernel), in_g (List.mem_of_getElem? (i := 1574) (by decide +kernel)) (by decide +kernel), ⟨by decide +kernel, by decide +kernel, by decide +kernel⟩, by decide⟩
abbrev mX12_root : MI := (yX12_root, cX12_root, 8, some .long)
theorem sX12_root : MSk mX12_root 1 := ⟨in_g (List.mem_of_getElem? (i := 1562) (by decide +kernel)) (by decide +kernel), in_g (List.mem_of_getElem? (i := 117) (by decide +kernel)) (by decide +kernel), in_g (List.mem_of_getElem? (i := 1563) (by decide +kernel)) (by decide +kernel), ⟨by decide +kernel, by decide +kernel, by decide +kernel⟩, by decide⟩
abbrev mX12_run : MI := (yX12_run, cX12_run, 2, some .int)
theorem vX12_run : MVk mX12_run 1 := ⟨in_g (List.mem_of_getElem? (i := 1907) (by decide +kernel)) (by decide +kernel), in_g (List.mem_of_getElem? (i := 1908) (by decide +kernel)) (by decide +kernel), in_g (List.mem_of_getElem? (i := 117) (by decide +kernel)) (by decide +kernel), in_g (List.mem_of_getElem? (i := 1909) (by decide +kernel)) (by decide +kernel), ⟨by decide +kernel, by decide +kernel, by decide +kernel⟩, by decide⟩
abbrev mX12_runPlace : MI := (yX12_runPlace, cX12_runPlace, 6, some .int)
theorem vX12_runPlace : MVk mX12_runPlace 1 := ⟨in_g (List.mem_of_getElem? (i := 1912) (by decide +kernel)) (by decide +kernel), in_g (List.mem_of_getElem? (i := 103) (by decide +kernel)) (by decide +kernel), in_g (List.mem_of_getElem? (i := 117) (by decide +kernel)) (by decide +kernel), in_g (List.mem_of_getElem? (i := 1913) (by decide +kernel)) (by decide +kernel), ⟨by decide +kernel, by decide +kernel, by decide +kernel⟩, by decide⟩
abbrev mX12_sag : MI := (yX12_sag, cX12_sag, 8, some .int)
theorem vX12_sag : MVk mX12_sag 1 := ⟨in_g (List.mem_of_getElem? (i := 1769) (by decide +kernel)) (by decide +kernel), in_g (List.mem_of_getElem? (i := 1770) (by decide +kernel)) (by decide +kernel), in_g (List.mem_of_getElem? (i := 117) (by decide +kernel)) (by decide +kernel), in_g (List.mem_of_getElem? (i := 1771) (by decide +kernel)) (by decide +kernel), ⟨by decide +kernel, by decide +kernel, by decide +kernel⟩, by decide⟩
abbrev mX12_seen : MI := (yX12_seen, cX12_seen, 4, some .int)
theorem vX12_seen : MVk mX12_seen 3 := ⟨in_g (List.mem_of_getElem? (i := 1817) (by decide +kernel)) (by decide +kernel), in_g (List.mem_of_getElem? (i := 1818) (by decide +kernel)) (by decide +kernel), in_g (List.mem_of_getElem? (i := 117) (by decide +kernel)) (by decide +kernel), in_g (List.mem_of_getElem? (i := 1819) (by decide +kernel)) (by decide +kernel), ⟨by decide +kernel, by decide +kernel, by decide +kernel⟩, by decide⟩
abbrev mX12_set : MI := (yX12_set, cX12_set, 3, some .boolean)
theorem vX12_set : MVk mX12_set 2 := ⟨in_g (List.mem_of_getElem? (i := 1542) (by decide +kernel)) (by decide +kernel), in_g (List.mem_of_getElem? (i := 1543) (by decide +kernel)) (by decide +kernel), in_g (List.mem_of_getElem? (i := 117) (by decide +kernel)) (by decide +kernel), in_g (List.mem_of_getElem? (i := 1544) (by decide +kernel)) (by decide +kernel), ⟨by decide +kernel, by decide +kernel, by decide +kernel⟩, by decide⟩
abbrev mX12_signed : MI := (yX12_signed, cX12_signed, 4, some .boolean)
theorem vX12_signed : MVk mX12_signed 2 := ⟨in_g (List.mem_of_getElem? (i := 1686) (by decide +kernel)) (by decide +kernel), in_g (List.mem_of_getElem? (i := 69) (by decide +kernel)) (by decide +kernel), in_g (List.mem_of_getElem? (i := 117) (by decide +kernel)) (by decide +kernel), in_g (List.mem_of_getElem? (i := 1687) (by decide +kernel)) (by decide +kernel), ⟨by decide +kernel, by decide +kernel, by decide +kernel⟩, by decide⟩
abbrev mX12_sizeOf : MI := (yX12_sizeOf, cX12_sizeOf, 1, some .int)
theorem sX12_sizeOf : MSk mX12_sizeOf 1 := ⟨in_g (List.mem_of_getElem? (i := 1598) (by decide +kernel)) (by decide +kernel), in_g (List.mem_of_getElem? (i := 117) (by decide +kernel)) (by decide +kernel), in_g (List.mem_of_getElem? (i := 1599) (by decide +kernel)) (by decide +kernel), ⟨by decide +kernel, by decide +kernel, by decide +kernel⟩, by decide⟩
abbrev mX12_skips : MI := (yX12_skips, cX12_skips, 5, some .int)
theorem vX12_skips : MVk mX12_skips 1 := ⟨in_g (List.mem_of_getElem? (i := 1797) (by decide +kernel)) (by decide +kernel), in_g (List.mem_of_getElem? (i := 1798) (by decide +kernel)) (by decide +kernel), in_g (List.mem_of_getElem? (i := 117) (by decide +kernel)) (by decide +kernel), in_g (List.mem_of_getElem? (i := 1799) (by decide +kernel)) (by decide +kernel), ⟨by decide +kernel, by decide +kernel, by decide +kernel⟩, by decide⟩
abbrev mX12_steps : MI := (yX12_steps, cX12_steps, 4, some .int)
theorem vX12_steps : MVk mX12_steps 3 := ⟨in_g (List.mem_of_getElem? (i := 1546) (by decide +kernel)) (by decide +kernel), in_g (List.mem_of_getElem? (i := 1547) (by decide +kernel)) (by decide +kernel), in_g (List.mem_of_getElem? (i := 117) (by decide +kernel)) (by decide +kernel), in_g (List.mem_of_getElem? (i := 1548) (by decide +kernel)) (by decide +kernel), ⟨by decide +kernel, by decide +kernel, by decide +kernel⟩, by decide⟩
abbrev mX12_stepsFor : MI := (yX12_stepsFor, cX12_stepsFor, 8, some .int)
theorem vX12_stepsFor : MVk mX12_stepsFor 2 := ⟨in_g (List.mem_of_getElem? (i := 1559) (by decide +kernel)) (by decide +kernel), in_g (List.mem_of_getElem? (i := 45) (by decide +kernel)) (by decide +kernel), in_g (List.mem_of_getElem? (i := 117) (by decide +kernel)) (by decide +kernel), in_g (List.mem_of_getElem? (i := 1560) (by decide +kernel)) (by decide +kernel), ⟨by decide +kernel, by decide +kernel, by decide +kernel⟩, by decide⟩
abbrev mX12_strays : MI := (yX12_strays, cX12_strays, 18, some .int)
theorem vX12_strays : MVk mX12_strays 4 := ⟨in_g (List.mem_of_getElem? (i := 1786) (by decide +kernel)) (by decide +kernel), in_g (List.mem_of_getElem? (i := 91) (by decide +kernel)) (by decide +kernel), in_g (List.mem_of_getElem? (i := 117) (by decide +kernel)) (by decide +kernel), in_g (List.mem_of_getElem? (i := 1787) (by decide +kernel)) (by decide +kernel), ⟨by decide +kernel, by decide +kernel, by decide +kernel⟩, by decide⟩
abbrev mX12_straysIn : MI := (yX12_straysIn, cX12_straysIn, 16, some .int)
theorem vX12_straysIn : MVk mX12_straysIn 2 := ⟨in_g (List.mem_of_getElem? (i := 1794) (by decide +kernel)) (by decide +kernel), in_g (List.mem_of_getElem? (i := 92) (by decide +kernel)) (by decide +kernel), in_g (List.mem_of_getElem? (i := 117) (by decide +kernel)) (by decide +kernel), in_g (List.mem_of_getElem? (i := 1795) (by decide +kernel)) (by decide +kernel), ⟨by decide +kernel, by decide +kernel, by decide +kernel⟩, by decide⟩
abbrev mX12_take : MI := (yX12_take, cX12_take, 1, none)
theorem vX12_take : MVk mX12_take 0 := ⟨in_g (List.mem_of_getElem? (i := 1622) (by decide +kernel)) (by decide +kernel), in_g (List.mem_of_getElem? (i := 53) (by decide +kernel)) (by decide +kernel), in_g (List.mem_of_getElem? (i := 117) (by decide +kernel)) (by decide +kernel), in_g (List.mem_of_getElem? (i := 1623) (by decide +kernel)) (by decide +kernel), ⟨by decide +kernel, by decide +kernel, by decide +kernel⟩, by decide⟩
abbrev mX12_thrown : MI := (yX12_thrown, cX12_thrown, 1, some .int)
theorem vX12_thrown : MVk mX12_thrown 0 := ⟨in_g (List.mem_of_getElem? (i := 1527) (by decide +kernel)) (by decide +kernel), in_g (List.mem_of_getElem? (i := 1528) (by decide +kernel)) (by decide +kernel), in_g (List.mem_of_getElem? (i := 117) (by decide +kernel)) (by decide +kernel), in_g (List.mem_of_getElem? (i := 1529) (by decide +kernel)) (by decide +kernel), ⟨by decide +kernel, by decide +kernel, by decide +kernel⟩, by decide⟩
abbrev mX12_tick : MI := (yX12_tick, cX12_tick, 4, some .int)
theorem vX12_tick : MVk mX12_tick 1 := ⟨in_g (List.mem_of_getElem? (i := 1902) (by decide +kernel)) (by decide +kernel), in_g (List.mem_of_getElem? (i := 1903) (by decide +kernel)) (by decide +kernel), in_g (List.mem_of_getElem? (i := 117) (by decide +kernel)) (by decide +kernel), in_g (List.mem_of_getElem? (i := 1904) (by decide +kernel)) (by decide +kernel), ⟨by decide +kernel, by decide +kernel, by decide +kernel⟩, by decide⟩
abbrev mX12_ticks : MI := (yX12_ticks, cX12_ticks, 4, some .int)
theorem vX12_ticks : MVk mX12_ticks 1 := ⟨in_g (List.mem_of_getElem? (i := 1801) (by decide +kernel)) (by decide +kernel), in_g (List.mem_of_getElem? (i := 1802) (by decide +kernel)) (by decide +kernel), in_g (List.mem_of_getElem? (i := 117) (by decide +kernel)) (by decide +kernel), in_g (List.mem_of_getElem? (i := 1803) (by decide +kernel)) (by decide +kernel), ⟨by decide +kernel, by decide +kernel, by decide +kernel⟩, by decide⟩
abbrev mX12_ticksOf : MI := (yX12_ticksOf, cX12_ticksOf, 4, some .int)
theorem vX12_ticksOf : MVk mX12_ticksOf 1 := ⟨in_g (List.mem_of_getElem? (i := 1758) (by decide +kernel)) (by decide +kernel), in_g (List.mem_of_getElem? (i := 85) (by decide +kernel)) (by decide +kernel), in_g (List.mem_of_getElem? (i := 117) (by decide +kernel)) (by decide +kernel), in_g (List.mem_of_getElem? (i := 1759) (by decide +kernel)) (by decide +kernel), ⟨by decide +kernel, by decide +kernel, by decide +kernel⟩, by decide⟩
abbrev mX12_together : MI := (yX12_together, cX12_together, 9, some .int)
theorem vX12_together : MVk mX12_together 2 := ⟨in_g (List.mem_of_getElem? (i := 1865) (by decide +kernel)) (by decide +kernel), in_g (List.mem_of_getElem? (i := 1866) (by decide +kernel)) (by decide +kernel), in_g (List.mem_of_getElem? (i := 117) (by decide +kernel)) (by decide +kernel), in_g (List.mem_of_getElem? (i := 1867) (by decide +kernel)) (by decide +kernel), ⟨by decide +kernel, by decide +kernel, by decide +kernel⟩, by decide⟩
abbrev mX12_told : MI := (yX12_told, cX12_told, 5, some .boolean)
theorem vX12_told : MVk mX12_told 4 := ⟨in_g (List.mem_of_getElem? (i := 1670) (by decide +kernel)) (by decide +kernel), in_g (List.mem_of_getElem? (i := 65) (by decide +kernel)) (by decide +kernel), in_g (List.mem_of_getElem? (i := 117) (by decide +kernel)) (by decide +kernel), in_g (List.mem_of_getElem? (i := 1671) (by decide +kernel)) (by decide +kernel), ⟨by decide +kernel, by decide +kernel, by decide +kernel⟩, by decide⟩
abbrev mX12_wall : MI := (yX12_wall, cX12_wall, 4, some .boolean)
theorem vX12_wall : MVk mX12_wall 3 := ⟨in_g (List.mem_of_getElem? (i := 1535) (by decide +kernel)) (by decide +kernel), in_g (List.mem_of_getElem? (i := 1536) (by decide +kernel)) (by decide +kernel), in_g (List.mem_of_getElem? (i := 117) (by decide +kernel)) (by decide +kernel), in_g (List.mem_of_getElem? (i := 1537) (by decide +kernel)) (by decide +kernel), ⟨by decide +kernel, by decide +kernel, by decide +kernel⟩, by decide⟩
abbrev mX12_wayLeft : MI := (yX12_wayLeft, cX12_wayLeft, 2, some .int)
theorem vX12_wayLeft : MVk mX12_wayLeft 1 := ⟨in_g (List.mem_of_getElem? (i := 1778) (by decide +kernel)) (by decide +kernel), in_g (List.mem_of_getElem? (i := 89) (by decide +kernel)) (by decide +kernel), in_g (List.mem_of_getElem? (i := 117) (by decide +kernel)) (by decide +kernel), in_g (List.mem_of_getElem? (i := 1779) (by decide +kernel)) (by decide +kernel), ⟨by decide +kernel, by decide +kernel, by decide +kernel⟩, by decide⟩
abbrev mX12_wayRight : MI := (yX12_wayRight, cX12_wayRight, 2, some .int)
theorem vX12_wayRight : MVk mX12_wayRight 1 := ⟨in_g (List.mem_of_getElem? (i := 1782) (by decide +kernel)) (by decide +kernel), in_g (List.mem_of_getElem? (i := 90) (by decide +kernel)) (by decide +kernel), in_g (List.mem_of_getElem? (i := 117) (by decide +kernel)) (by decide +kernel), in_g (List.mem_of_getElem? (i := 1783) (by decide +kernel)) (by decide +kernel), ⟨by decide +kernel, by decide +kernel, by decide +kernel⟩, by decide⟩
abbrev mX12_wordAt : MI := (yX12_wordAt, cX12_wordAt, 8, some .int)
theorem vX12_wordAt : MVk mX12_wordAt 2 := ⟨in_g (List.mem_of_getElem? (i := 1630) (by decide +kernel)) (by decide +kernel), in_g (List.mem_of_getElem? (i := 55) (by decide +kernel)) (by decide +kernel), in_g (List.mem_of_getElem? (i := 117) (by decide +kernel)) (by decide +kernel), in_g (List.mem_of_getElem? (i := 1631) (by decide +kernel)) (by decide +kernel), ⟨by decide +kernel, by decide +kernel, by decide +kernel⟩, by decide⟩
abbrev mX12_wrong : MI := (yX12_wrong, cX12_wrong, 2, some .boolean)
theorem vX12_wrong : MVk mX12_wrong 1 := ⟨in_g (List.mem_of_getElem? (i := 1650) (by decide +kernel)) (by decide +kernel), in_g (List.mem_of_getElem? (i := 60) (by decide +kernel)) (by decide +kernel), in_g (List.mem_of_getElem? (i := 117) (by decide +kernel)) (by decide +kernel), in_g (List.mem_of_getElem? (i := 1651) (by decide +kernel)) (by decide +kernel), ⟨by decide +kernel, by decide +kernel, by decide +kernel⟩, by decide⟩
abbrev mJ9_abs_0f7a4 : MI := (yJ9_abs_0f7a4, cJ9_abs_0f7a4, 1, some .int)
theorem sJ9_abs_0f7a4 : MSk mJ9_abs_0f7a4 1 := ⟨in_g (List.mem_of_getElem? (i := 997) (by decide +kernel)) (by decide +kernel), in_g (List.mem_of_getElem? (i := 118) (by decide +kernel)) (by decide +kernel), in_g (List.mem_of_getElem? (i := 998) (by decide +kernel)) (by decide +kernel), ⟨by decide +kernel, by decide +kernel, by decide +kernel⟩, by decide⟩
abbrev mJ9_max_7cf53 : MI := (yJ9_max_7cf53, cJ9_max_7cf53, 2, some .int)
theorem sJ9_max_7cf53 : MSk mJ9_max_7cf53 2 := ⟨in_g (List.mem_of_getElem? (i := 683) (by decide +kernel)) (by decide +kernel), in_g (List.mem_of_getElem? (i := 118) (by decide +kernel)) (by decide +kernel), in_g (List.mem_of_getElem? (i := 684) (by decide +kernel)) (by decide +kernel), ⟨by decide +kernel, by decide +kernel, by decide +kernel⟩, by decide⟩
abbrev mJ9_max_f86c9 : MI := (yJ9_max_f86c9, cJ9_max_f86c9, 4, some .long)
theorem sJ9_max_f86c9 : MSk mJ9_max_f86c9 2 := ⟨in_g (List.mem_of_getElem? (i := 942) (by decide +kernel)) (by decide +kernel), in_g (List.mem_of_getElem? (i := 118) (by decide +kernel)) (by decide +kernel), in_g (List.mem_of_getElem? (i := 943) (by decide +kernel)) (by decide +kernel), ⟨by decide +kernel, by decide +kernel, by decide +kernel⟩, by decide⟩
abbrev mJ9_min_7cf53 : MI := (yJ9_min_7cf53, cJ9_min_7cf53, 2, some .int)
theorem sJ9_min_7cf53 : MSk mJ9_min_7cf53 2 := ⟨in_g (List.mem_of_getElem? (i := 686) (by decide +kernel)) (by decide +kernel), in_g (List.mem_of_getElem? (i := 118) (by decide +kernel)) (by decide +kernel), in_g (List.mem_of_getElem? (i := 687) (by decide +kernel)) (by decide +kernel), ⟨by decide +kernel, by decide +kernel, by decide +kernel⟩, by decide⟩
abbrev mJ0_charAt_5068e : MI := (yJ0_charAt_5068e, cJ0_charAt_5068e, 2, some .char)
theorem vJ0_charAt_5068e : MVk mJ0_charAt_5068e 1 := ⟨in_g (List.mem_of_getElem? (i := 720) (by decide +kernel)) (by decide +kernel), in_g (List.mem_of_getElem? (i := 721) (by decide +kernel)) (by decide +kernel), in_g (List.mem_of_getElem? (i := 119) (by decide +kernel)) (by decide +kernel), in_g (List.mem_of_getElem? (i := 722) (by decide +kernel)) (by decide +kernel), ⟨by decide +kernel, by decide +kernel, by decide +kernel⟩, by decide⟩
abbrev mJ0_checkIndex_df160 : MI := (yJ0_checkIndex_df160, cJ0_checkIndex_df160, 2, none)
theorem sJ0_checkIndex_df160 : MSk mJ0_checkIndex_df160 2 := ⟨in_g (List.mem_of_getElem? (i := 731) (by decide +kernel)) (by decide +kernel), in_g (List.mem_of_getElem? (i := 119) (by decide +kernel)) (by decide +kernel), in_g (List.mem_of_getElem? (i := 732) (by decide +kernel)) (by decide +kernel), ⟨by decide +kernel, by decide +kernel, by decide +kernel⟩, by decide⟩
abbrev mJ0_coder_7d493 : MI := (yJ0_coder_7d493, cJ0_coder_7d493, 1, some .byte)
theorem vJ0_coder_7d493 : MVk mJ0_coder_7d493 0 := ⟨in_g (List.mem_of_getElem? (i := 714) (by decide +kernel)) (by decide +kernel), in_g (List.mem_of_getElem? (i := 715) (by decide +kernel)) (by decide +kernel), in_g (List.mem_of_getElem? (i := 119) (by decide +kernel)) (by decide +kernel), in_g (List.mem_of_getElem? (i := 716) (by decide +kernel)) (by decide +kernel), ⟨by decide +kernel, by decide +kernel, by decide +kernel⟩, by decide⟩
abbrev mJ0_isLatin1_aae02 : MI := (yJ0_isLatin1_aae02, cJ0_isLatin1_aae02, 1, some .boolean)
theorem vJ0_isLatin1_aae02 : MVk mJ0_isLatin1_aae02 0 := ⟨in_g (List.mem_of_getElem? (i := 724) (by decide +kernel)) (by decide +kernel), in_g (List.mem_of_getElem? (i := 725) (by decide +kernel)) (by decide +kernel), in_g (List.mem_of_getElem? (i := 119) (by decide +kernel)) (by decide +kernel), in_g (List.mem_of_getElem? (i := 726) (by decide +kernel)) (by decide +kernel), ⟨by decide +kernel, by decide +kernel, by decide +kernel⟩, by decide⟩
abbrev mJ0_length_8abf5 : MI := (yJ0_length_8abf5, cJ0_length_8abf5, 1, some .int)
theorem vJ0_length_8abf5 : MVk mJ0_length_8abf5 0 := ⟨in_g (List.mem_of_getElem? (i := 710) (by decide +kernel)) (by decide +kernel), in_g (List.mem_of_getElem? (i := 711) (by decide +kernel)) (by decide +kernel), in_g (List.mem_of_getElem? (i := 119) (by decide +kernel)) (by decide +kernel), in_g (List.mem_of_getElem? (i := 712) (by decide +kernel)) (by decide +kernel), ⟨by decide +kernel, by decide +kernel, by decide +kernel⟩, by decide⟩
abbrev mJ1_charAt_3b067 : MI := (yJ1_charAt_3b067, cJ1_charAt_3b067, 2, some .char)
theorem sJ1_charAt_3b067 : MSk mJ1_charAt_3b067 2 := ⟨in_g (List.mem_of_getElem? (i := 728) (by decide +kernel)) (by decide +kernel), in_g (List.mem_of_getElem? (i := 120) (by decide +kernel)) (by decide +kernel), in_g (List.mem_of_getElem? (i := 729) (by decide +kernel)) (by decide +kernel), ⟨by decide +kernel, by decide +kernel, by decide +kernel⟩, by decide⟩
abbrev mJ2_charAt_3b067 : MI := (yJ2_charAt_3b067, cJ2_charAt_3b067, 2, some .char)
theorem sJ2_charAt_3b067 : MSk mJ2_charAt_3b067 2 := ⟨in_g (List.mem_of_getElem? (i := 739) (by decide +kernel)) (by decide +kernel), in_g (List.mem_of_getElem? (i := 122) (by decide +kernel)) (by decide +kernel), in_g (List.mem_of_getElem? (i := 740) (by decide +kernel)) (by decide +kernel), ⟨by decide +kernel, by decide +kernel, by decide +kernel⟩, by decide⟩
abbrev mJ2_checkIndex_2214a : MI := (yJ2_checkIndex_2214a, cJ2_checkIndex_2214a, 2, none)
theorem sJ2_checkIndex_2214a : MSk mJ2_checkIndex_2214a 2 := ⟨in_g (List.mem_of_getElem? (i := 742) (by decide +kernel)) (by decide +kernel), in_g (List.mem_of_getElem? (i := 122) (by decide +kernel)) (by decide +kernel), in_g (List.mem_of_getElem? (i := 743) (by decide +kernel)) (by decide +kernel), ⟨by decide +kernel, by decide +kernel, by decide +kernel⟩, by decide⟩
abbrev mJ2_getChar_3b067 : MI := (yJ2_getChar_3b067, cJ2_getChar_3b067, 2, some .char)
theorem sJ2_getChar_3b067 : MSk mJ2_getChar_3b067 2 := ⟨in_g (List.mem_of_getElem? (i := 749) (by decide +kernel)) (by decide +kernel), in_g (List.mem_of_getElem? (i := 122) (by decide +kernel)) (by decide +kernel), in_g (List.mem_of_getElem? (i := 750) (by decide +kernel)) (by decide +kernel), ⟨by decide +kernel, by decide +kernel, by decide +kernel⟩, by decide⟩
abbrev mJ2_length_9d52b : MI := (yJ2_length_9d52b, cJ2_length_9d52b, 1, some .int)
theorem sJ2_length_9d52b : MSk mJ2_length_9d52b 1 := ⟨in_g (List.mem_of_getElem? (i := 745) (by decide +kernel)) (by decide +kernel), in_g (List.mem_of_getElem? (i := 122) (by decide +kernel)) (by decide +kernel), in_g (List.mem_of_getElem? (i := 746) (by decide +kernel)) (by decide +kernel), ⟨by decide +kernel, by decide +kernel, by decide +kernel⟩, by decide⟩
abbrev mJ3_checkIndex_8e157 : MI := (yJ3_checkIndex_8e157, cJ3_checkIndex_8e157, 3, some .int)
theorem sJ3_checkIndex_8e157 : MSk mJ3_checkIndex_8e157 3 := ⟨in_g (List.mem_of_getElem? (i := 736) (by decide +kernel)) (by decide +kernel), in_g (List.mem_of_getElem? (i := 121) (by decide +kernel)) (by decide +kernel), in_g (List.mem_of_getElem? (i := 737) (by decide +kernel)) (by decide +kernel), ⟨by decide +kernel, by decide +kernel, by decide +kernel⟩, by decide⟩
theorem ml_X11_105 : Cond.methodLink RX11 105 yX2_goHome ∈ lw_g := in_g (List.mem_of_getElem? (i := 567) (by decide +kernel)) (by decide +kernel)
theorem ml_X2_47 : Cond.methodLink RX2 47 yX2_measureOne ∈ lw_g := in_g (List.mem_of_getElem? (i := 571) (by decide +kernel)) (by decide +kernel)
theorem kl_X2_51 : Cond.constantLong RX2 51 (100) ∈ lw_g := in_g (List.mem_of_getElem? (i := 575) (by decide +kernel)) (by decide +kernel)
theorem ml_X2_53 : Cond.methodLink RX2 53 yX10_leftSteps ∈ lw_g := in_g (List.mem_of_getElem? (i := 576) (by decide +kernel)) (by decide +kernel)
theorem kl_X11_356 : Cond.constantLong RX11 356 (2) ∈ lw_g := in_g (List.mem_of_getElem? (i := 583) (by decide +kernel)) (by decide +kernel)
theorem kl_X10_50 : Cond.constantLong RX10 50 (100) ∈ lw_g := in_g (List.mem_of_getElem? (i := 584) (by decide +kernel)) (by decide +kernel)
theorem kl_X10_44 : Cond.constantLong RX10 44 (10000) ∈ lw_g := in_g (List.mem_of_getElem? (i := 585) (by decide +kernel)) (by decide +kernel)
theorem ml_X2_57 : Cond.methodLink RX2 57 yX10_rightSteps ∈ lw_g := in_g (List.mem_of_getElem? (i := 586) (by decide +kernel)) (by decide +kernel)
theorem ml_X10_52 : Cond.methodLink RX10 52 yX10_leftSteps ∈ lw_g := in_g (List.mem_of_getElem? (i := 590) (by decide +kernel)) (by decide +kernel)
theorem ml_L_21 : Cond.methodLink RL 21 yX11_feed ∈ lw_g := in_g (List.mem_of_getElem? (i := 631) (by decide +kernel)) (by decide +kernel)
theorem ml_X11_112 : Cond.methodLink RX11 112 yX8_append ∈ lw_g := in_g (List.mem_of_getElem? (i := 635) (by decide +kernel)) (by decide +kernel)
theorem ml_L_26 : Cond.methodLink RL 26 yX11_wall ∈ lw_g := in_g (List.mem_of_getElem? (i := 639) (by decide +kernel)) (by decide +kernel)
theorem ml_X11_116 : Cond.methodLink RX11 116 yX11_isWithin ∈ lw_g := in_g (List.mem_of_getElem? (i := 643) (by decide +kernel)) (by decide +kernel)
theorem ml_X11_129 : Cond.methodLink RX11 129 yX10_forgetReach ∈ lw_g := in_g (List.mem_of_getElem? (i := 646) (by decide +kernel)) (by decide +kernel)
theorem ml_X11_132 : Cond.methodLink RX11 132 yX11_dropWhatHangsOnMoves ∈ lw_g := in_g (List.mem_of_getElem? (i := 650) (by decide +kernel)) (by decide +kernel)
theorem ml_X11_339 : Cond.methodLink RX11 339 yX2_dropMissed ∈ lw_g := in_g (List.mem_of_getElem? (i := 654) (by decide +kernel)) (by decide +kernel)
theorem ml_X11_257 : Cond.methodLink RX11 257 yX0_removeAll ∈ lw_g := in_g (List.mem_of_getElem? (i := 658) (by decide +kernel)) (by decide +kernel)
theorem ml_L_31 : Cond.methodLink RL 31 yX11_set ∈ lw_g := in_g (List.mem_of_getElem? (i := 662) (by decide +kernel)) (by decide +kernel)
theorem ml_X11_138 : Cond.methodLink RX11 138 yX2_measure ∈ lw_g := in_g (List.mem_of_getElem? (i := 666) (by decide +kernel)) (by decide +kernel)
theorem ml_L_36 : Cond.methodLink RL 36 yX11_draw ∈ lw_g := in_g (List.mem_of_getElem? (i := 670) (by decide +kernel)) (by decide +kernel)
theorem ml_X11_147 : Cond.methodLink RX11 147 yX3_read ∈ lw_g := in_g (List.mem_of_getElem? (i := 674) (by decide +kernel)) (by decide +kernel)
theorem ml_X3_41 : Cond.methodLink RX3 41 yX8_open ∈ lw_g := in_g (List.mem_of_getElem? (i := 678) (by decide +kernel)) (by decide +kernel)
theorem ml_X8_32 : Cond.methodLink RX8 32 yJ9_max_7cf53 ∈ lw_g := in_g (List.mem_of_getElem? (i := 682) (by decide +kernel)) (by decide +kernel)
theorem ml_X8_38 : Cond.methodLink RX8 38 yJ9_min_7cf53 ∈ lw_g := in_g (List.mem_of_getElem? (i := 685) (by decide +kernel)) (by decide +kernel)
theorem ml_X8_41 : Cond.methodLink RX8 41 yX8_step ∈ lw_g := in_g (List.mem_of_getElem? (i := 688) (by decide +kernel)) (by decide +kernel)
theorem ml_X8_44 : Cond.methodLink RX8 44 yX8_kindOf ∈ lw_g := in_g (List.mem_of_getElem? (i := 692) (by decide +kernel)) (by decide +kernel)
theorem ml_X3_52 : Cond.methodLink RX3 52 yX8_step ∈ lw_g := in_g (List.mem_of_getElem? (i := 695) (by decide +kernel)) (by decide +kernel)
theorem ml_X3_55 : Cond.methodLink RX3 55 yX3_readStatement ∈ lw_g := in_g (List.mem_of_getElem? (i := 696) (by decide +kernel)) (by decide +kernel)
theorem ml_X3_61 : Cond.methodLink RX3 61 yX3_verbAtHand ∈ lw_g := in_g (List.mem_of_getElem? (i := 700) (by decide +kernel)) (by decide +kernel)
theorem ml_X3_81 : Cond.methodLink RX3 81 yX8_spells ∈ lw_g := in_g (List.mem_of_getElem? (i := 705) (by decide +kernel)) (by decide +kernel)
theorem ml_X8_48 : Cond.methodLink RX8 48 yJ0_length_8abf5 ∈ lw_g := in_g (List.mem_of_getElem? (i := 709) (by decide +kernel)) (by decide +kernel)
theorem ml_J0_335 : Cond.methodLink RJ0 335 yJ0_coder_7d493 ∈ lw_g := in_g (List.mem_of_getElem? (i := 713) (by decide +kernel)) (by decide +kernel)
theorem ml_X8_54 : Cond.methodLink RX8 54 yJ0_charAt_5068e ∈ lw_g := in_g (List.mem_of_getElem? (i := 719) (by decide +kernel)) (by decide +kernel)
theorem ml_J0_492 : Cond.methodLink RJ0 492 yJ0_isLatin1_aae02 ∈ lw_g := in_g (List.mem_of_getElem? (i := 723) (by decide +kernel)) (by decide +kernel)
theorem ml_J0_495 : Cond.methodLink RJ0 495 yJ1_charAt_3b067 ∈ lw_g := in_g (List.mem_of_getElem? (i := 727) (by decide +kernel)) (by decide +kernel)
theorem ml_J1_9 : Cond.methodLink RJ1 9 yJ0_checkIndex_df160 ∈ lw_g := in_g (List.mem_of_getElem? (i := 730) (by decide +kernel)) (by decide +kernel)
theorem ml_J0_1059 : Cond.methodLink RJ0 1059 yJ3_checkIndex_8e157 ∈ lw_g := in_g (List.mem_of_getElem? (i := 735) (by decide +kernel)) (by decide +kernel)
theorem ml_J0_498 : Cond.methodLink RJ0 498 yJ2_charAt_3b067 ∈ lw_g := in_g (List.mem_of_getElem? (i := 738) (by decide +kernel)) (by decide +kernel)
theorem ml_J2_67 : Cond.methodLink RJ2 67 yJ2_checkIndex_2214a ∈ lw_g := in_g (List.mem_of_getElem? (i := 741) (by decide +kernel)) (by decide +kernel)
theorem ml_J2_48 : Cond.methodLink RJ2 48 yJ2_length_9d52b ∈ lw_g := in_g (List.mem_of_getElem? (i := 744) (by decide +kernel)) (by decide +kernel)
theorem ml_J2_414 : Cond.methodLink RJ2 414 yJ0_checkIndex_df160 ∈ lw_g := in_g (List.mem_of_getElem? (i := 747) (by decide +kernel)) (by decide +kernel)
theorem ml_J2_71 : Cond.methodLink RJ2 71 yJ2_getChar_3b067 ∈ lw_g := in_g (List.mem_of_getElem? (i := 748) (by decide +kernel)) (by decide +kernel)
theorem ml_X3_58 : Cond.methodLink RX3 58 yX3_fail ∈ lw_g := in_g (List.mem_of_getElem? (i := 763) (by decide +kernel)) (by decide +kernel)
theorem ml_X3_65 : Cond.methodLink RX3 65 yX7_add ∈ lw_g := in_g (List.mem_of_getElem? (i := 767) (by decide +kernel)) (by decide +kernel)
theorem ml_X3_69 : Cond.methodLink RX3 69 yX3_readAgain ∈ lw_g := in_g (List.mem_of_getElem? (i := 771) (by decide +kernel)) (by decide +kernel)
theorem ml_X3_103 : Cond.methodLink RX3 103 yX3_takeNumber ∈ lw_g := in_g (List.mem_of_getElem? (i := 775) (by decide +kernel)) (by decide +kernel)
theorem ml_X3_107 : Cond.methodLink RX3 107 yX7_put ∈ lw_g := in_g (List.mem_of_getElem? (i := 780) (by decide +kernel)) (by decide +kernel)
theorem ml_X3_136 : Cond.methodLink RX3 136 yX3_takeSigned ∈ lw_g := in_g (List.mem_of_getElem? (i := 784) (by decide +kernel)) (by decide +kernel)
theorem ml_X3_76 : Cond.methodLink RX3 76 yX3_takeSign ∈ lw_g := in_g (List.mem_of_getElem? (i := 788) (by decide +kernel)) (by decide +kernel)
theorem ml_X3_72 : Cond.methodLink RX3 72 yX3_readNumbers ∈ lw_g := in_g (List.mem_of_getElem? (i := 792) (by decide +kernel)) (by decide +kernel)
theorem ml_X3_97 : Cond.methodLink RX3 97 yX3_readForm ∈ lw_g := in_g (List.mem_of_getElem? (i := 796) (by decide +kernel)) (by decide +kernel)
theorem ml_X3_116 : Cond.methodLink RX3 116 yX3_checkName ∈ lw_g := in_g (List.mem_of_getElem? (i := 800) (by decide +kernel)) (by decide +kernel)
theorem ml_X3_119 : Cond.methodLink RX3 119 yX3_formAtHand ∈ lw_g := in_g (List.mem_of_getElem? (i := 804) (by decide +kernel)) (by decide +kernel)
theorem ml_X3_145 : Cond.methodLink RX3 145 yX8_repeats ∈ lw_g := in_g (List.mem_of_getElem? (i := 808) (by decide +kernel)) (by decide +kernel)
theorem ml_X3_128 : Cond.methodLink RX3 128 yX7_addForm ∈ lw_g := in_g (List.mem_of_getElem? (i := 812) (by decide +kernel)) (by decide +kernel)
theorem ml_X3_131 : Cond.methodLink RX3 131 yX7_addPoint ∈ lw_g := in_g (List.mem_of_getElem? (i := 816) (by decide +kernel)) (by decide +kernel)
theorem ml_X3_100 : Cond.methodLink RX3 100 yX3_readFormName ∈ lw_g := in_g (List.mem_of_getElem? (i := 820) (by decide +kernel)) (by decide +kernel)
theorem ml_X3_110 : Cond.methodLink RX3 110 yX7_get ∈ lw_g := in_g (List.mem_of_getElem? (i := 824) (by decide +kernel)) (by decide +kernel)
theorem ml_X3_113 : Cond.methodLink RX3 113 yX3_checkAbove ∈ lw_g := in_g (List.mem_of_getElem? (i := 828) (by decide +kernel)) (by decide +kernel)
theorem ml_X11_151 : Cond.methodLink RX11 151 yX5_plotAll ∈ lw_g := in_g (List.mem_of_getElem? (i := 832) (by decide +kernel)) (by decide +kernel)
theorem ml_X5_51 : Cond.methodLink RX5 51 yX2_goHome ∈ lw_g := in_g (List.mem_of_getElem? (i := 836) (by decide +kernel)) (by decide +kernel)
theorem ml_X5_69 : Cond.methodLink RX5 69 yX5_perform ∈ lw_g := in_g (List.mem_of_getElem? (i := 837) (by decide +kernel)) (by decide +kernel)
theorem ml_X5_76 : Cond.methodLink RX5 76 yX5_repeat ∈ lw_g := in_g (List.mem_of_getElem? (i := 841) (by decide +kernel)) (by decide +kernel)
theorem ml_X5_93 : Cond.methodLink RX5 93 yX7_get ∈ lw_g := in_g (List.mem_of_getElem? (i := 845) (by decide +kernel)) (by decide +kernel)
theorem ml_X5_83 : Cond.methodLink RX5 83 yJ9_max_7cf53 ∈ lw_g := in_g (List.mem_of_getElem? (i := 846) (by decide +kernel)) (by decide +kernel)
theorem ml_X5_89 : Cond.methodLink RX5 89 yX5_drawForm ∈ lw_g := in_g (List.mem_of_getElem? (i := 847) (by decide +kernel)) (by decide +kernel)
theorem ml_X5_96 : Cond.methodLink RX5 96 yX5_drawLine ∈ lw_g := in_g (List.mem_of_getElem? (i := 851) (by decide +kernel)) (by decide +kernel)
theorem ml_X5_138 : Cond.methodLink RX5 138 yX5_cut ∈ lw_g := in_g (List.mem_of_getElem? (i := 855) (by decide +kernel)) (by decide +kernel)
theorem ml_X5_141 : Cond.methodLink RX5 141 yX5_bringToSide ∈ lw_g := in_g (List.mem_of_getElem? (i := 859) (by decide +kernel)) (by decide +kernel)
theorem ml_X5_130 : Cond.methodLink RX5 130 yX2_penIsAt ∈ lw_g := in_g (List.mem_of_getElem? (i := 863) (by decide +kernel)) (by decide +kernel)
theorem ml_X5_134 : Cond.methodLink RX5 134 yX2_append ∈ lw_g := in_g (List.mem_of_getElem? (i := 867) (by decide +kernel)) (by decide +kernel)
theorem ml_X5_100 : Cond.methodLink RX5 100 yX5_goTo ∈ lw_g := in_g (List.mem_of_getElem? (i := 871) (by decide +kernel)) (by decide +kernel)
theorem ml_X5_103 : Cond.methodLink RX5 103 yX5_drawHatch ∈ lw_g := in_g (List.mem_of_getElem? (i := 876) (by decide +kernel)) (by decide +kernel)
theorem ml_X5_109 : Cond.methodLink RX5 109 yJ9_min_7cf53 ∈ lw_g := in_g (List.mem_of_getElem? (i := 880) (by decide +kernel)) (by decide +kernel)
theorem ml_X5_106 : Cond.methodLink RX5 106 yX5_narrow ∈ lw_g := in_g (List.mem_of_getElem? (i := 881) (by decide +kernel)) (by decide +kernel)
theorem ml_L_41 : Cond.methodLink RL 41 yX11_fault ∈ lw_g := in_g (List.mem_of_getElem? (i := 885) (by decide +kernel)) (by decide +kernel)
theorem ml_L_55 : Cond.methodLink RL 55 yX11_steps ∈ lw_g := in_g (List.mem_of_getElem? (i := 889) (by decide +kernel)) (by decide +kernel)
theorem ml_X11_200 : Cond.methodLink RX11 200 yX10_holds ∈ lw_g := in_g (List.mem_of_getElem? (i := 893) (by decide +kernel)) (by decide +kernel)
theorem ml_X11_204 : Cond.methodLink RX11 204 yX11_isCord ∈ lw_g := in_g (List.mem_of_getElem? (i := 898) (by decide +kernel)) (by decide +kernel)
theorem ml_X11_207 : Cond.methodLink RX11 207 yX10_leftSteps ∈ lw_g := in_g (List.mem_of_getElem? (i := 901) (by decide +kernel)) (by decide +kernel)
theorem ml_X11_211 : Cond.methodLink RX11 211 yX10_rightSteps ∈ lw_g := in_g (List.mem_of_getElem? (i := 902) (by decide +kernel)) (by decide +kernel)
theorem ml_L_60 : Cond.methodLink RL 60 yX11_place ∈ lw_g := in_g (List.mem_of_getElem? (i := 903) (by decide +kernel)) (by decide +kernel)
theorem ml_X11_214 : Cond.methodLink RX11 214 yX11_isAxis ∈ lw_g := in_g (List.mem_of_getElem? (i := 907) (by decide +kernel)) (by decide +kernel)
theorem kc_X11_217 : Cond.constant RX11 217 (-2147483648) ∈ lw_g := in_g (List.mem_of_getElem? (i := 910) (by decide +kernel)) (by decide +kernel)
theorem ml_X11_218 : Cond.methodLink RX11 218 yX11_placeNumber ∈ lw_g := in_g (List.mem_of_getElem? (i := 911) (by decide +kernel)) (by decide +kernel)
theorem ml_X11_342 : Cond.methodLink RX11 342 yX10_locate ∈ lw_g := in_g (List.mem_of_getElem? (i := 915) (by decide +kernel)) (by decide +kernel)
theorem ml_X10_56 : Cond.methodLink RX10 56 yX10_hung ∈ lw_g := in_g (List.mem_of_getElem? (i := 919) (by decide +kernel)) (by decide +kernel)
theorem kl_X10_60 : Cond.constantLong RX10 60 (2) ∈ lw_g := in_g (List.mem_of_getElem? (i := 923) (by decide +kernel)) (by decide +kernel)
theorem ml_L_64 : Cond.methodLink RL 64 yX11_grain ∈ lw_g := in_g (List.mem_of_getElem? (i := 924) (by decide +kernel)) (by decide +kernel)
theorem ml_X11_222 : Cond.methodLink RX11 222 yX10_grainAt ∈ lw_g := in_g (List.mem_of_getElem? (i := 928) (by decide +kernel)) (by decide +kernel)
theorem ml_X10_62 : Cond.methodLink RX10 62 yX10_rightSteps ∈ lw_g := in_g (List.mem_of_getElem? (i := 932) (by decide +kernel)) (by decide +kernel)
theorem ml_X10_65 : Cond.methodLink RX10 65 yX10_locate ∈ lw_g := in_g (List.mem_of_getElem? (i := 933) (by decide +kernel)) (by decide +kernel)
theorem ml_X10_69 : Cond.methodLink RX10 69 yX10_awayFrom ∈ lw_g := in_g (List.mem_of_getElem? (i := 934) (by decide +kernel)) (by decide +kernel)
theorem ml_X10_73 : Cond.methodLink RX10 73 yJ9_max_f86c9 ∈ lw_g := in_g (List.mem_of_getElem? (i := 941) (by decide +kernel)) (by decide +kernel)
theorem ml_L_68 : Cond.methodLink RL 68 yX11_pull ∈ lw_g := in_g (List.mem_of_getElem? (i := 944) (by decide +kernel)) (by decide +kernel)
theorem ml_X11_226 : Cond.methodLink RX11 226 yX10_leftPull ∈ lw_g := in_g (List.mem_of_getElem? (i := 948) (by decide +kernel)) (by decide +kernel)
theorem ml_X11_229 : Cond.methodLink RX11 229 yX10_rightPull ∈ lw_g := in_g (List.mem_of_getElem? (i := 952) (by decide +kernel)) (by decide +kernel)
theorem ml_X10_81 : Cond.methodLink RX10 81 yX10_leftPull ∈ lw_g := in_g (List.mem_of_getElem? (i := 956) (by decide +kernel)) (by decide +kernel)
theorem ml_X11_232 : Cond.methodLink RX11 232 yX10_bears ∈ lw_g := in_g (List.mem_of_getElem? (i := 957) (by decide +kernel)) (by decide +kernel)
theorem ml_X10_85 : Cond.methodLink RX10 85 yX10_rightPull ∈ lw_g := in_g (List.mem_of_getElem? (i := 961) (by decide +kernel)) (by decide +kernel)
theorem ml_L_72 : Cond.methodLink RL 72 yX11_reach ∈ lw_g := in_g (List.mem_of_getElem? (i := 962) (by decide +kernel)) (by decide +kernel)
theorem ml_X11_235 : Cond.methodLink RX11 235 yX10_countReach ∈ lw_g := in_g (List.mem_of_getElem? (i := 966) (by decide +kernel)) (by decide +kernel)
theorem ml_X10_88 : Cond.methodLink RX10 88 yX10_bears ∈ lw_g := in_g (List.mem_of_getElem? (i := 970) (by decide +kernel)) (by decide +kernel)
theorem ml_L_76 : Cond.methodLink RL 76 yX11_sag ∈ lw_g := in_g (List.mem_of_getElem? (i := 971) (by decide +kernel)) (by decide +kernel)
theorem ml_X11_164 : Cond.methodLink RX11 164 yX2_has ∈ lw_g := in_g (List.mem_of_getElem? (i := 975) (by decide +kernel)) (by decide +kernel)
theorem ml_X11_239 : Cond.methodLink RX11 239 yX9_sagOf ∈ lw_g := in_g (List.mem_of_getElem? (i := 979) (by decide +kernel)) (by decide +kernel)
theorem ml_X9_44 : Cond.methodLink RX9 44 yX10_locate ∈ lw_g := in_g (List.mem_of_getElem? (i := 983) (by decide +kernel)) (by decide +kernel)
theorem ml_X9_56 : Cond.methodLink RX9 56 yX9_aim ∈ lw_g := in_g (List.mem_of_getElem? (i := 984) (by decide +kernel)) (by decide +kernel)
theorem ml_X9_93 : Cond.methodLink RX9 93 yJ9_max_f86c9 ∈ lw_g := in_g (List.mem_of_getElem? (i := 990) (by decide +kernel)) (by decide +kernel)
theorem kl_X9_60 : Cond.constantLong RX9 60 (2147483647) ∈ lw_g := in_g (List.mem_of_getElem? (i := 991) (by decide +kernel)) (by decide +kernel)
theorem ml_X9_62 : Cond.methodLink RX9 62 yX9_furthest ∈ lw_g := in_g (List.mem_of_getElem? (i := 992) (by decide +kernel)) (by decide +kernel)
theorem ml_X9_98 : Cond.methodLink RX9 98 yJ9_abs_0f7a4 ∈ lw_g := in_g (List.mem_of_getElem? (i := 996) (by decide +kernel)) (by decide +kernel)
theorem ml_X9_102 : Cond.methodLink RX9 102 yJ9_max_7cf53 ∈ lw_g := in_g (List.mem_of_getElem? (i := 999) (by decide +kernel)) (by decide +kernel)
theorem ml_X9_105 : Cond.methodLink RX9 105 yX2_between ∈ lw_g := in_g (List.mem_of_getElem? (i := 1000) (by decide +kernel)) (by decide +kernel)
theorem ml_L_80 : Cond.methodLink RL 80 yX11_parts ∈ lw_g := in_g (List.mem_of_getElem? (i := 1003) (by decide +kernel)) (by decide +kernel)
theorem ml_X11_242 : Cond.methodLink RX11 242 yX9_fewestParts ∈ lw_g := in_g (List.mem_of_getElem? (i := 1007) (by decide +kernel)) (by decide +kernel)
theorem kl_X9_66 : Cond.constantLong RX9 66 (100) ∈ lw_g := in_g (List.mem_of_getElem? (i := 1011) (by decide +kernel)) (by decide +kernel)
theorem ml_X9_74 : Cond.methodLink RX9 74 yX9_isTrue ∈ lw_g := in_g (List.mem_of_getElem? (i := 1012) (by decide +kernel)) (by decide +kernel)
theorem ml_X9_78 : Cond.methodLink RX9 78 yX10_leftSteps ∈ lw_g := in_g (List.mem_of_getElem? (i := 1016) (by decide +kernel)) (by decide +kernel)
theorem ml_X9_82 : Cond.methodLink RX9 82 yX10_rightSteps ∈ lw_g := in_g (List.mem_of_getElem? (i := 1017) (by decide +kernel)) (by decide +kernel)
theorem ml_L_84 : Cond.methodLink RL 84 yX11_skips ∈ lw_g := in_g (List.mem_of_getElem? (i := 1018) (by decide +kernel)) (by decide +kernel)
theorem ml_X11_245 : Cond.methodLink RX11 245 yX9_countSkips ∈ lw_g := in_g (List.mem_of_getElem? (i := 1022) (by decide +kernel)) (by decide +kernel)
theorem ml_X9_117 : Cond.methodLink RX9 117 yX9_skipsOf ∈ lw_g := in_g (List.mem_of_getElem? (i := 1026) (by decide +kernel)) (by decide +kernel)
theorem ml_X9_120 : Cond.methodLink RX9 120 yX2_ticksOf ∈ lw_g := in_g (List.mem_of_getElem? (i := 1030) (by decide +kernel)) (by decide +kernel)
theorem ml_X2_60 : Cond.methodLink RX2 60 yJ9_abs_0f7a4 ∈ lw_g := in_g (List.mem_of_getElem? (i := 1034) (by decide +kernel)) (by decide +kernel)
theorem ml_X2_66 : Cond.methodLink RX2 66 yJ9_max_7cf53 ∈ lw_g := in_g (List.mem_of_getElem? (i := 1035) (by decide +kernel)) (by decide +kernel)
theorem ml_L_88 : Cond.methodLink RL 88 yX11_ticks ∈ lw_g := in_g (List.mem_of_getElem? (i := 1036) (by decide +kernel)) (by decide +kernel)
theorem ml_X11_185 : Cond.methodLink RX11 185 yX2_ticksOf ∈ lw_g := in_g (List.mem_of_getElem? (i := 1040) (by decide +kernel)) (by decide +kernel)
theorem ml_L_92 : Cond.methodLink RL 92 yX11_miss ∈ lw_g := in_g (List.mem_of_getElem? (i := 1041) (by decide +kernel)) (by decide +kernel)
theorem ml_L_96 : Cond.methodLink RL 96 yX11_real ∈ lw_g := in_g (List.mem_of_getElem? (i := 1045) (by decide +kernel)) (by decide +kernel)
theorem ml_X11_251 : Cond.methodLink RX11 251 yX11_realNumber ∈ lw_g := in_g (List.mem_of_getElem? (i := 1049) (by decide +kernel)) (by decide +kernel)
theorem ml_X11_353 : Cond.methodLink RX11 353 yX2_missedBy ∈ lw_g := in_g (List.mem_of_getElem? (i := 1053) (by decide +kernel)) (by decide +kernel)
theorem ml_L_100 : Cond.methodLink RL 100 yX11_seen ∈ lw_g := in_g (List.mem_of_getElem? (i := 1057) (by decide +kernel)) (by decide +kernel)
theorem ml_X11_255 : Cond.methodLink RX11 255 yX0_append ∈ lw_g := in_g (List.mem_of_getElem? (i := 1061) (by decide +kernel)) (by decide +kernel)
theorem ml_L_104 : Cond.methodLink RL 104 yX11_forget ∈ lw_g := in_g (List.mem_of_getElem? (i := 1065) (by decide +kernel)) (by decide +kernel)
theorem ml_L_108 : Cond.methodLink RL 108 yX11_found ∈ lw_g := in_g (List.mem_of_getElem? (i := 1069) (by decide +kernel)) (by decide +kernel)
theorem ml_X11_261 : Cond.methodLink RX11 261 yX0_solve ∈ lw_g := in_g (List.mem_of_getElem? (i := 1073) (by decide +kernel)) (by decide +kernel)
theorem ml_X0_48 : Cond.methodLink RX0 48 yX0_weigh ∈ lw_g := in_g (List.mem_of_getElem? (i := 1077) (by decide +kernel)) (by decide +kernel)
theorem ml_X0_59 : Cond.methodLink RX0 59 yX0_fits ∈ lw_g := in_g (List.mem_of_getElem? (i := 1081) (by decide +kernel)) (by decide +kernel)
theorem ml_X0_63 : Cond.methodLink RX0 63 yX2_has ∈ lw_g := in_g (List.mem_of_getElem? (i := 1085) (by decide +kernel)) (by decide +kernel)
theorem ml_X0_75 : Cond.methodLink RX0 75 yX10_locate ∈ lw_g := in_g (List.mem_of_getElem? (i := 1086) (by decide +kernel)) (by decide +kernel)
theorem kc_X0_55 : Cond.constant RX0 55 (1000000) ∈ lw_g := in_g (List.mem_of_getElem? (i := 1088) (by decide +kernel)) (by decide +kernel)
theorem ml_X0_52 : Cond.methodLink RX0 52 yX0_spread ∈ lw_g := in_g (List.mem_of_getElem? (i := 1089) (by decide +kernel)) (by decide +kernel)
theorem ml_X0_92 : Cond.methodLink RX0 92 yJ9_min_7cf53 ∈ lw_g := in_g (List.mem_of_getElem? (i := 1093) (by decide +kernel)) (by decide +kernel)
theorem ml_X0_56 : Cond.methodLink RX0 56 yX0_chooseLeast ∈ lw_g := in_g (List.mem_of_getElem? (i := 1094) (by decide +kernel)) (by decide +kernel)
theorem ml_X0_98 : Cond.methodLink RX0 98 yX0_firstField ∈ lw_g := in_g (List.mem_of_getElem? (i := 1098) (by decide +kernel)) (by decide +kernel)
theorem ml_X0_102 : Cond.methodLink RX0 102 yJ9_abs_0f7a4 ∈ lw_g := in_g (List.mem_of_getElem? (i := 1102) (by decide +kernel)) (by decide +kernel)
theorem ml_L_112 : Cond.methodLink RL 112 yX11_mended ∈ lw_g := in_g (List.mem_of_getElem? (i := 1103) (by decide +kernel)) (by decide +kernel)
theorem ml_X11_273 : Cond.methodLink RX11 273 yX0_latestAhead ∈ lw_g := in_g (List.mem_of_getElem? (i := 1107) (by decide +kernel)) (by decide +kernel)
theorem ml_L_116 : Cond.methodLink RL 116 yX11_other ∈ lw_g := in_g (List.mem_of_getElem? (i := 1111) (by decide +kernel)) (by decide +kernel)
theorem ml_X11_276 : Cond.methodLink RX11 276 yX2_copy ∈ lw_g := in_g (List.mem_of_getElem? (i := 1115) (by decide +kernel)) (by decide +kernel)
theorem ml_L_120 : Cond.methodLink RL 120 yX11_clear ∈ lw_g := in_g (List.mem_of_getElem? (i := 1119) (by decide +kernel)) (by decide +kernel)
theorem ml_X11_279 : Cond.methodLink RX11 279 yX11_isPairing ∈ lw_g := in_g (List.mem_of_getElem? (i := 1123) (by decide +kernel)) (by decide +kernel)
theorem ml_X11_282 : Cond.methodLink RX11 282 yX1_isClear ∈ lw_g := in_g (List.mem_of_getElem? (i := 1127) (by decide +kernel)) (by decide +kernel)
theorem ml_X1_53 : Cond.methodLink RX1 53 yX1_isAway ∈ lw_g := in_g (List.mem_of_getElem? (i := 1131) (by decide +kernel)) (by decide +kernel)
theorem ml_L_125 : Cond.methodLink RL 125 yX11_together ∈ lw_g := in_g (List.mem_of_getElem? (i := 1134) (by decide +kernel)) (by decide +kernel)
theorem ml_X11_286 : Cond.methodLink RX11 286 yX1_fewestTicks ∈ lw_g := in_g (List.mem_of_getElem? (i := 1138) (by decide +kernel)) (by decide +kernel)
theorem kc_X1_65 : Cond.constant RX1 65 (1000000000) ∈ lw_g := in_g (List.mem_of_getElem? (i := 1142) (by decide +kernel)) (by decide +kernel)
theorem ml_X1_66 : Cond.methodLink RX1 66 yX2_ticksOf ∈ lw_g := in_g (List.mem_of_getElem? (i := 1143) (by decide +kernel)) (by decide +kernel)
theorem ml_X1_70 : Cond.methodLink RX1 70 yJ9_min_7cf53 ∈ lw_g := in_g (List.mem_of_getElem? (i := 1144) (by decide +kernel)) (by decide +kernel)
theorem ml_X1_76 : Cond.methodLink RX1 76 yJ9_max_7cf53 ∈ lw_g := in_g (List.mem_of_getElem? (i := 1145) (by decide +kernel)) (by decide +kernel)
theorem ml_X1_79 : Cond.methodLink RX1 79 yX1_isClear ∈ lw_g := in_g (List.mem_of_getElem? (i := 1146) (by decide +kernel)) (by decide +kernel)
theorem ml_L_129 : Cond.methodLink RL 129 yX11_joint ∈ lw_g := in_g (List.mem_of_getElem? (i := 1147) (by decide +kernel)) (by decide +kernel)
theorem ml_X11_289 : Cond.methodLink RX11 289 yX1_join ∈ lw_g := in_g (List.mem_of_getElem? (i := 1151) (by decide +kernel)) (by decide +kernel)
theorem ml_X1_83 : Cond.methodLink RX1 83 yX1_gather ∈ lw_g := in_g (List.mem_of_getElem? (i := 1155) (by decide +kernel)) (by decide +kernel)
theorem ml_X1_94 : Cond.methodLink RX1 94 yX1_sortIn ∈ lw_g := in_g (List.mem_of_getElem? (i := 1158) (by decide +kernel)) (by decide +kernel)
theorem ml_X1_87 : Cond.methodLink RX1 87 yJ9_abs_0f7a4 ∈ lw_g := in_g (List.mem_of_getElem? (i := 1161) (by decide +kernel)) (by decide +kernel)
theorem ml_L_133 : Cond.methodLink RL 133 yX11_mark ∈ lw_g := in_g (List.mem_of_getElem? (i := 1162) (by decide +kernel)) (by decide +kernel)
theorem ml_X11_305 : Cond.methodLink RX11 305 yX4_append ∈ lw_g := in_g (List.mem_of_getElem? (i := 1166) (by decide +kernel)) (by decide +kernel)
theorem ml_L_137 : Cond.methodLink RL 137 yX11_offset ∈ lw_g := in_g (List.mem_of_getElem? (i := 1170) (by decide +kernel)) (by decide +kernel)
theorem ml_X11_307 : Cond.methodLink RX11 307 yX4_fit ∈ lw_g := in_g (List.mem_of_getElem? (i := 1174) (by decide +kernel)) (by decide +kernel)
theorem ml_X4_31 : Cond.methodLink RX4 31 yX4_countFits ∈ lw_g := in_g (List.mem_of_getElem? (i := 1178) (by decide +kernel)) (by decide +kernel)
theorem ml_L_141 : Cond.methodLink RL 141 yX11_begin ∈ lw_g := in_g (List.mem_of_getElem? (i := 1183) (by decide +kernel)) (by decide +kernel)
theorem ml_X11_319 : Cond.methodLink RX11 319 yX6_start ∈ lw_g := in_g (List.mem_of_getElem? (i := 1187) (by decide +kernel)) (by decide +kernel)
theorem ml_X6_29 : Cond.methodLink RX6 29 yX6_advance ∈ lw_g := in_g (List.mem_of_getElem? (i := 1191) (by decide +kernel)) (by decide +kernel)
theorem ml_X6_38 : Cond.methodLink RX6 38 yX2_ticksOf ∈ lw_g := in_g (List.mem_of_getElem? (i := 1195) (by decide +kernel)) (by decide +kernel)
theorem ml_L_145 : Cond.methodLink RL 145 yX11_tick ∈ lw_g := in_g (List.mem_of_getElem? (i := 1196) (by decide +kernel)) (by decide +kernel)
theorem kc_X11_325 : Cond.constant RX11 325 (100000) ∈ lw_g := in_g (List.mem_of_getElem? (i := 1200) (by decide +kernel)) (by decide +kernel)
theorem ml_X11_326 : Cond.methodLink RX11 326 yX6_advance ∈ lw_g := in_g (List.mem_of_getElem? (i := 1201) (by decide +kernel)) (by decide +kernel)
theorem ml_L_149 : Cond.methodLink RL 149 yX11_run ∈ lw_g := in_g (List.mem_of_getElem? (i := 1202) (by decide +kernel)) (by decide +kernel)
theorem ml_X11_335 : Cond.methodLink RX11 335 yX6_trueSteps ∈ lw_g := in_g (List.mem_of_getElem? (i := 1206) (by decide +kernel)) (by decide +kernel)
theorem ml_X6_48 : Cond.methodLink RX6 48 yJ9_min_7cf53 ∈ lw_g := in_g (List.mem_of_getElem? (i := 1210) (by decide +kernel)) (by decide +kernel)
theorem ml_X6_54 : Cond.methodLink RX6 54 yX2_has ∈ lw_g := in_g (List.mem_of_getElem? (i := 1211) (by decide +kernel)) (by decide +kernel)
theorem ml_X6_58 : Cond.methodLink RX6 58 yX2_between ∈ lw_g := in_g (List.mem_of_getElem? (i := 1212) (by decide +kernel)) (by decide +kernel)
theorem ml_X6_62 : Cond.methodLink RX6 62 yX2_missedBy ∈ lw_g := in_g (List.mem_of_getElem? (i := 1213) (by decide +kernel)) (by decide +kernel)
theorem ml_L_153 : Cond.methodLink RL 153 yX11_count ∈ lw_g := in_g (List.mem_of_getElem? (i := 1214) (by decide +kernel)) (by decide +kernel)
theorem ml_L_45 : Cond.methodLink RL 45 yL_look ∈ lw_g := in_g (List.mem_of_getElem? (i := 1218) (by decide +kernel)) (by decide +kernel)
theorem ml_L_7 : Cond.methodLink RL 7 yX11_look ∈ lw_g := in_g (List.mem_of_getElem? (i := 1223) (by decide +kernel)) (by decide +kernel)
theorem ml_X12_124 : Cond.methodLink RX12 124 yX12_begins ∈ lw_g := in_g (List.mem_of_getElem? (i := 1315) (by decide +kernel)) (by decide +kernel)
theorem ml_X12_167 : Cond.methodLink RX12 167 yX12_home ∈ lw_g := in_g (List.mem_of_getElem? (i := 1319) (by decide +kernel)) (by decide +kernel)
theorem ml_X12_174 : Cond.methodLink RX12 174 yX12_forgets ∈ lw_g := in_g (List.mem_of_getElem? (i := 1323) (by decide +kernel)) (by decide +kernel)
theorem ml_L_51 : Cond.methodLink RL 51 yX12_thrown ∈ lw_g := in_g (List.mem_of_getElem? (i := 1526) (by decide +kernel)) (by decide +kernel)
theorem ml_L_25 : Cond.methodLink RL 25 yX12_feed ∈ lw_g := in_g (List.mem_of_getElem? (i := 1530) (by decide +kernel)) (by decide +kernel)
theorem ml_L_30 : Cond.methodLink RL 30 yX12_wall ∈ lw_g := in_g (List.mem_of_getElem? (i := 1534) (by decide +kernel)) (by decide +kernel)
theorem ml_X12_160 : Cond.methodLink RX12 160 yX12_isIn ∈ lw_g := in_g (List.mem_of_getElem? (i := 1538) (by decide +kernel)) (by decide +kernel)
theorem ml_L_35 : Cond.methodLink RL 35 yX12_set ∈ lw_g := in_g (List.mem_of_getElem? (i := 1541) (by decide +kernel)) (by decide +kernel)
theorem ml_L_59 : Cond.methodLink RL 59 yX12_steps ∈ lw_g := in_g (List.mem_of_getElem? (i := 1545) (by decide +kernel)) (by decide +kernel)
theorem ml_X12_184 : Cond.methodLink RX12 184 yX12_isOnWall ∈ lw_g := in_g (List.mem_of_getElem? (i := 1549) (by decide +kernel)) (by decide +kernel)
theorem ml_X12_188 : Cond.methodLink RX12 188 yX12_leftOf ∈ lw_g := in_g (List.mem_of_getElem? (i := 1553) (by decide +kernel)) (by decide +kernel)
theorem ml_X12_150 : Cond.methodLink RX12 150 yX12_stepsFor ∈ lw_g := in_g (List.mem_of_getElem? (i := 1557) (by decide +kernel)) (by decide +kernel)
theorem ml_X12_140 : Cond.methodLink RX12 140 yX12_root ∈ lw_g := in_g (List.mem_of_getElem? (i := 1561) (by decide +kernel)) (by decide +kernel)
theorem kl_X12_133 : Cond.constantLong RX12 133 (1073741824) ∈ lw_g := in_g (List.mem_of_getElem? (i := 1564) (by decide +kernel)) (by decide +kernel)
theorem kl_X12_144 : Cond.constantLong RX12 144 (100) ∈ lw_g := in_g (List.mem_of_getElem? (i := 1565) (by decide +kernel)) (by decide +kernel)
theorem kl_X12_138 : Cond.constantLong RX12 138 (10000) ∈ lw_g := in_g (List.mem_of_getElem? (i := 1566) (by decide +kernel)) (by decide +kernel)
theorem ml_X12_146 : Cond.methodLink RX12 146 yX12_hung ∈ lw_g := in_g (List.mem_of_getElem? (i := 1567) (by decide +kernel)) (by decide +kernel)
theorem ml_X12_191 : Cond.methodLink RX12 191 yX12_rightOf ∈ lw_g := in_g (List.mem_of_getElem? (i := 1571) (by decide +kernel)) (by decide +kernel)
theorem ml_L_63 : Cond.methodLink RL 63 yX12_place ∈ lw_g := in_g (List.mem_of_getElem? (i := 1575) (by decide +kernel)) (by decide +kernel)
theorem kc_X12_194 : Cond.constant RX12 194 (-2147483648) ∈ lw_g := in_g (List.mem_of_getElem? (i := 1579) (by decide +kernel)) (by decide +kernel)
theorem ml_X12_156 : Cond.methodLink RX12 156 yX12_placeX ∈ lw_g := in_g (List.mem_of_getElem? (i := 1580) (by decide +kernel)) (by decide +kernel)
theorem kl_X12_154 : Cond.constantLong RX12 154 (2) ∈ lw_g := in_g (List.mem_of_getElem? (i := 1584) (by decide +kernel)) (by decide +kernel)
theorem ml_X12_195 : Cond.methodLink RX12 195 yX12_placeY ∈ lw_g := in_g (List.mem_of_getElem? (i := 1585) (by decide +kernel)) (by decide +kernel)
theorem ml_L_67 : Cond.methodLink RL 67 yX12_grain ∈ lw_g := in_g (List.mem_of_getElem? (i := 1589) (by decide +kernel)) (by decide +kernel)
theorem ml_X12_202 : Cond.methodLink RX12 202 yX12_differs ∈ lw_g := in_g (List.mem_of_getElem? (i := 1593) (by decide +kernel)) (by decide +kernel)
theorem ml_X12_198 : Cond.methodLink RX12 198 yX12_sizeOf ∈ lw_g := in_g (List.mem_of_getElem? (i := 1597) (by decide +kernel)) (by decide +kernel)
theorem ml_L_71 : Cond.methodLink RL 71 yX12_pull ∈ lw_g := in_g (List.mem_of_getElem? (i := 1600) (by decide +kernel)) (by decide +kernel)
theorem ml_X12_206 : Cond.methodLink RX12 206 yX12_pullOf ∈ lw_g := in_g (List.mem_of_getElem? (i := 1604) (by decide +kernel)) (by decide +kernel)
theorem ml_X12_210 : Cond.methodLink RX12 210 yX12_mayDraw ∈ lw_g := in_g (List.mem_of_getElem? (i := 1608) (by decide +kernel)) (by decide +kernel)
theorem ml_L_75 : Cond.methodLink RL 75 yX12_reach ∈ lw_g := in_g (List.mem_of_getElem? (i := 1612) (by decide +kernel)) (by decide +kernel)
theorem ml_L_40 : Cond.methodLink RL 40 yX12_draw ∈ lw_g := in_g (List.mem_of_getElem? (i := 1616) (by decide +kernel)) (by decide +kernel)
theorem ml_X12_253 : Cond.methodLink RX12 253 yX12_take ∈ lw_g := in_g (List.mem_of_getElem? (i := 1620) (by decide +kernel)) (by decide +kernel)
theorem ml_X12_228 : Cond.methodLink RX12 228 yX12_isSmall ∈ lw_g := in_g (List.mem_of_getElem? (i := 1624) (by decide +kernel)) (by decide +kernel)
theorem ml_X12_232 : Cond.methodLink RX12 232 yX12_wordAt ∈ lw_g := in_g (List.mem_of_getElem? (i := 1628) (by decide +kernel)) (by decide +kernel)
theorem ml_X12_238 : Cond.methodLink RX12 238 yX12_packed ∈ lw_g := in_g (List.mem_of_getElem? (i := 1632) (by decide +kernel)) (by decide +kernel)
theorem ml_X12_241 : Cond.methodLink RX12 241 yX12_isDigit ∈ lw_g := in_g (List.mem_of_getElem? (i := 1636) (by decide +kernel)) (by decide +kernel)
theorem ml_X12_338 : Cond.methodLink RX12 338 yX12_actRead ∈ lw_g := in_g (List.mem_of_getElem? (i := 1640) (by decide +kernel)) (by decide +kernel)
theorem ml_X12_256 : Cond.methodLink RX12 256 yX12_isSign ∈ lw_g := in_g (List.mem_of_getElem? (i := 1644) (by decide +kernel)) (by decide +kernel)
theorem ml_X12_247 : Cond.methodLink RX12 247 yX12_wrong ∈ lw_g := in_g (List.mem_of_getElem? (i := 1648) (by decide +kernel)) (by decide +kernel)
theorem ml_X12_279 : Cond.methodLink RX12 279 yX12_formRead ∈ lw_g := in_g (List.mem_of_getElem? (i := 1652) (by decide +kernel)) (by decide +kernel)
theorem ml_X12_263 : Cond.methodLink RX12 263 yX12_formOf ∈ lw_g := in_g (List.mem_of_getElem? (i := 1656) (by decide +kernel)) (by decide +kernel)
theorem ml_X12_250 : Cond.methodLink RX12 250 yX12_numberRead ∈ lw_g := in_g (List.mem_of_getElem? (i := 1660) (by decide +kernel)) (by decide +kernel)
theorem ml_X12_282 : Cond.methodLink RX12 282 yX12_putRead ∈ lw_g := in_g (List.mem_of_getElem? (i := 1664) (by decide +kernel)) (by decide +kernel)
theorem ml_X12_259 : Cond.methodLink RX12 259 yX12_told ∈ lw_g := in_g (List.mem_of_getElem? (i := 1668) (by decide +kernel)) (by decide +kernel)
theorem ml_X12_266 : Cond.methodLink RX12 266 yX12_ended ∈ lw_g := in_g (List.mem_of_getElem? (i := 1672) (by decide +kernel)) (by decide +kernel)
theorem ml_X12_285 : Cond.methodLink RX12 285 yX12_clipRead ∈ lw_g := in_g (List.mem_of_getElem? (i := 1676) (by decide +kernel)) (by decide +kernel)
theorem ml_X12_288 : Cond.methodLink RX12 288 yX12_againRead ∈ lw_g := in_g (List.mem_of_getElem? (i := 1680) (by decide +kernel)) (by decide +kernel)
theorem ml_X12_270 : Cond.methodLink RX12 270 yX12_signed ∈ lw_g := in_g (List.mem_of_getElem? (i := 1684) (by decide +kernel)) (by decide +kernel)
theorem ml_X12_341 : Cond.methodLink RX12 341 yX12_doAll ∈ lw_g := in_g (List.mem_of_getElem? (i := 1688) (by decide +kernel)) (by decide +kernel)
theorem ml_X12_329 : Cond.methodLink RX12 329 yX12_backTo ∈ lw_g := in_g (List.mem_of_getElem? (i := 1692) (by decide +kernel)) (by decide +kernel)
theorem ml_X12_332 : Cond.methodLink RX12 332 yX12_does ∈ lw_g := in_g (List.mem_of_getElem? (i := 1696) (by decide +kernel)) (by decide +kernel)
theorem ml_X12_317 : Cond.methodLink RX12 317 yX12_puts ∈ lw_g := in_g (List.mem_of_getElem? (i := 1700) (by decide +kernel)) (by decide +kernel)
theorem ml_X12_314 : Cond.methodLink RX12 314 yX12_lines ∈ lw_g := in_g (List.mem_of_getElem? (i := 1704) (by decide +kernel)) (by decide +kernel)
theorem ml_X12_303 : Cond.methodLink RX12 303 yX12_cuts ∈ lw_g := in_g (List.mem_of_getElem? (i := 1708) (by decide +kernel)) (by decide +kernel)
theorem ml_X12_294 : Cond.methodLink RX12 294 yX12_isBeyond ∈ lw_g := in_g (List.mem_of_getElem? (i := 1712) (by decide +kernel)) (by decide +kernel)
theorem ml_X12_306 : Cond.methodLink RX12 306 yX12_isThere ∈ lw_g := in_g (List.mem_of_getElem? (i := 1716) (by decide +kernel)) (by decide +kernel)
theorem ml_X12_310 : Cond.methodLink RX12 310 yX12_goes ∈ lw_g := in_g (List.mem_of_getElem? (i := 1720) (by decide +kernel)) (by decide +kernel)
theorem ml_X12_320 : Cond.methodLink RX12 320 yX12_lifts ∈ lw_g := in_g (List.mem_of_getElem? (i := 1724) (by decide +kernel)) (by decide +kernel)
theorem ml_X12_323 : Cond.methodLink RX12 323 yX12_hatches ∈ lw_g := in_g (List.mem_of_getElem? (i := 1728) (by decide +kernel)) (by decide +kernel)
theorem ml_X12_326 : Cond.methodLink RX12 326 yX12_opens ∈ lw_g := in_g (List.mem_of_getElem? (i := 1732) (by decide +kernel)) (by decide +kernel)
theorem ml_X12_335 : Cond.methodLink RX12 335 yX12_keeps ∈ lw_g := in_g (List.mem_of_getElem? (i := 1736) (by decide +kernel)) (by decide +kernel)
theorem ml_L_44 : Cond.methodLink RL 44 yX12_fault ∈ lw_g := in_g (List.mem_of_getElem? (i := 1740) (by decide +kernel)) (by decide +kernel)
theorem ml_L_50 : Cond.methodLink RL 50 yX12_look ∈ lw_g := in_g (List.mem_of_getElem? (i := 1744) (by decide +kernel)) (by decide +kernel)
theorem ml_X12_350 : Cond.methodLink RX12 350 yX12_isMove ∈ lw_g := in_g (List.mem_of_getElem? (i := 1748) (by decide +kernel)) (by decide +kernel)
theorem ml_X12_353 : Cond.methodLink RX12 353 yX12_fails ∈ lw_g := in_g (List.mem_of_getElem? (i := 1752) (by decide +kernel)) (by decide +kernel)
theorem ml_X12_356 : Cond.methodLink RX12 356 yX12_ticksOf ∈ lw_g := in_g (List.mem_of_getElem? (i := 1756) (by decide +kernel)) (by decide +kernel)
theorem ml_X12_344 : Cond.methodLink RX12 344 yX12_leftAt ∈ lw_g := in_g (List.mem_of_getElem? (i := 1760) (by decide +kernel)) (by decide +kernel)
theorem ml_X12_347 : Cond.methodLink RX12 347 yX12_rightAt ∈ lw_g := in_g (List.mem_of_getElem? (i := 1764) (by decide +kernel)) (by decide +kernel)
theorem ml_L_79 : Cond.methodLink RL 79 yX12_sag ∈ lw_g := in_g (List.mem_of_getElem? (i := 1768) (by decide +kernel)) (by decide +kernel)
theorem ml_X12_380 : Cond.methodLink RX12 380 yX12_layWay ∈ lw_g := in_g (List.mem_of_getElem? (i := 1772) (by decide +kernel)) (by decide +kernel)
theorem ml_X12_374 : Cond.methodLink RX12 374 yX12_wayLeft ∈ lw_g := in_g (List.mem_of_getElem? (i := 1776) (by decide +kernel)) (by decide +kernel)
theorem ml_X12_377 : Cond.methodLink RX12 377 yX12_wayRight ∈ lw_g := in_g (List.mem_of_getElem? (i := 1780) (by decide +kernel)) (by decide +kernel)
theorem ml_X12_384 : Cond.methodLink RX12 384 yX12_strays ∈ lw_g := in_g (List.mem_of_getElem? (i := 1784) (by decide +kernel)) (by decide +kernel)
theorem ml_L_83 : Cond.methodLink RL 83 yX12_parts ∈ lw_g := in_g (List.mem_of_getElem? (i := 1788) (by decide +kernel)) (by decide +kernel)
theorem ml_X12_388 : Cond.methodLink RX12 388 yX12_straysIn ∈ lw_g := in_g (List.mem_of_getElem? (i := 1792) (by decide +kernel)) (by decide +kernel)
theorem ml_L_87 : Cond.methodLink RL 87 yX12_skips ∈ lw_g := in_g (List.mem_of_getElem? (i := 1796) (by decide +kernel)) (by decide +kernel)
theorem ml_L_91 : Cond.methodLink RL 91 yX12_ticks ∈ lw_g := in_g (List.mem_of_getElem? (i := 1800) (by decide +kernel)) (by decide +kernel)
theorem ml_L_95 : Cond.methodLink RL 95 yX12_miss ∈ lw_g := in_g (List.mem_of_getElem? (i := 1804) (by decide +kernel)) (by decide +kernel)
theorem ml_L_99 : Cond.methodLink RL 99 yX12_real ∈ lw_g := in_g (List.mem_of_getElem? (i := 1808) (by decide +kernel)) (by decide +kernel)
theorem ml_X12_391 : Cond.methodLink RX12 391 yX12_moreBy ∈ lw_g := in_g (List.mem_of_getElem? (i := 1812) (by decide +kernel)) (by decide +kernel)
theorem ml_L_103 : Cond.methodLink RL 103 yX12_seen ∈ lw_g := in_g (List.mem_of_getElem? (i := 1816) (by decide +kernel)) (by decide +kernel)
theorem ml_L_107 : Cond.methodLink RL 107 yX12_forget ∈ lw_g := in_g (List.mem_of_getElem? (i := 1820) (by decide +kernel)) (by decide +kernel)
theorem ml_L_111 : Cond.methodLink RL 111 yX12_found ∈ lw_g := in_g (List.mem_of_getElem? (i := 1824) (by decide +kernel)) (by decide +kernel)
theorem ml_X12_404 : Cond.methodLink RX12 404 yX12_finds ∈ lw_g := in_g (List.mem_of_getElem? (i := 1828) (by decide +kernel)) (by decide +kernel)
theorem ml_X12_395 : Cond.methodLink RX12 395 yX12_fits ∈ lw_g := in_g (List.mem_of_getElem? (i := 1832) (by decide +kernel)) (by decide +kernel)
theorem kc_X12_394 : Cond.constant RX12 394 (1000000) ∈ lw_g := in_g (List.mem_of_getElem? (i := 1836) (by decide +kernel)) (by decide +kernel)
theorem ml_X12_398 : Cond.methodLink RX12 398 yX12_goesOn ∈ lw_g := in_g (List.mem_of_getElem? (i := 1837) (by decide +kernel)) (by decide +kernel)
theorem ml_L_115 : Cond.methodLink RL 115 yX12_mended ∈ lw_g := in_g (List.mem_of_getElem? (i := 1841) (by decide +kernel)) (by decide +kernel)
theorem ml_L_119 : Cond.methodLink RL 119 yX12_other ∈ lw_g := in_g (List.mem_of_getElem? (i := 1845) (by decide +kernel)) (by decide +kernel)
theorem ml_L_124 : Cond.methodLink RL 124 yX12_clear ∈ lw_g := in_g (List.mem_of_getElem? (i := 1849) (by decide +kernel)) (by decide +kernel)
theorem ml_X12_411 : Cond.methodLink RX12 411 yX12_isBeside ∈ lw_g := in_g (List.mem_of_getElem? (i := 1853) (by decide +kernel)) (by decide +kernel)
theorem ml_X12_414 : Cond.methodLink RX12 414 yX12_isClear ∈ lw_g := in_g (List.mem_of_getElem? (i := 1857) (by decide +kernel)) (by decide +kernel)
theorem ml_X12_407 : Cond.methodLink RX12 407 yX12_isAway ∈ lw_g := in_g (List.mem_of_getElem? (i := 1861) (by decide +kernel)) (by decide +kernel)
theorem ml_L_128 : Cond.methodLink RL 128 yX12_together ∈ lw_g := in_g (List.mem_of_getElem? (i := 1864) (by decide +kernel)) (by decide +kernel)
theorem kc_X12_417 : Cond.constant RX12 417 (100000000) ∈ lw_g := in_g (List.mem_of_getElem? (i := 1868) (by decide +kernel)) (by decide +kernel)
theorem ml_X12_418 : Cond.methodLink RX12 418 yX12_comesFrom ∈ lw_g := in_g (List.mem_of_getElem? (i := 1869) (by decide +kernel)) (by decide +kernel)
theorem ml_L_132 : Cond.methodLink RL 132 yX12_joint ∈ lw_g := in_g (List.mem_of_getElem? (i := 1873) (by decide +kernel)) (by decide +kernel)
theorem ml_X12_421 : Cond.methodLink RX12 421 yX12_layHeights ∈ lw_g := in_g (List.mem_of_getElem? (i := 1877) (by decide +kernel)) (by decide +kernel)
theorem ml_L_136 : Cond.methodLink RL 136 yX12_mark ∈ lw_g := in_g (List.mem_of_getElem? (i := 1881) (by decide +kernel)) (by decide +kernel)
theorem ml_L_140 : Cond.methodLink RL 140 yX12_offset ∈ lw_g := in_g (List.mem_of_getElem? (i := 1885) (by decide +kernel)) (by decide +kernel)
theorem ml_X12_427 : Cond.methodLink RX12 427 yX12_agreeing ∈ lw_g := in_g (List.mem_of_getElem? (i := 1889) (by decide +kernel)) (by decide +kernel)
theorem ml_L_144 : Cond.methodLink RL 144 yX12_begin ∈ lw_g := in_g (List.mem_of_getElem? (i := 1893) (by decide +kernel)) (by decide +kernel)
theorem ml_X12_439 : Cond.methodLink RX12 439 yX12_passes ∈ lw_g := in_g (List.mem_of_getElem? (i := 1897) (by decide +kernel)) (by decide +kernel)
theorem ml_L_148 : Cond.methodLink RL 148 yX12_tick ∈ lw_g := in_g (List.mem_of_getElem? (i := 1901) (by decide +kernel)) (by decide +kernel)
theorem kc_X12_442 : Cond.constant RX12 442 (100000) ∈ lw_g := in_g (List.mem_of_getElem? (i := 1905) (by decide +kernel)) (by decide +kernel)
theorem ml_L_152 : Cond.methodLink RL 152 yX12_run ∈ lw_g := in_g (List.mem_of_getElem? (i := 1906) (by decide +kernel)) (by decide +kernel)
theorem ml_X12_443 : Cond.methodLink RX12 443 yX12_runPlace ∈ lw_g := in_g (List.mem_of_getElem? (i := 1910) (by decide +kernel)) (by decide +kernel)
theorem ml_L_156 : Cond.methodLink RL 156 yX12_count ∈ lw_g := in_g (List.mem_of_getElem? (i := 1914) (by decide +kernel)) (by decide +kernel)
