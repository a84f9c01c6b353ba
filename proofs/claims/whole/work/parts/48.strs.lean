
theorem in32' {x : Int} {n : Nat} (h0 : 0 ≤ x) (h1 : x < (n : Int)) (h2 : x < 2147483647) : vp_in (Int32.ofInt x) n := by
  rintro (q | q)
  · have e := Int32.lt_iff_toInt_lt.mp q
    rw [Int32.toInt_ofInt_of_le (by omega) (by omega)] at e
    have : (0 : Int32).toInt = 0 := rfl
    omega
  · rw [tn32 h0 (by omega)] at q
    omega
/-! TEXTS: rows for the literals (a literal i is the cell 1000 + i, its bytes the cell 2000 + i) -/
theorem fs_val : Cond.fieldLink "java/lang/String" 9 "java/lang/String" "value" "[B" ∈ lw_g := in_g (List.mem_of_getElem? (i := 1936) (by decide +kernel)) (by decide +kernel)
theorem fs_cod : Cond.fieldLink "java/lang/String" 15 "java/lang/String" "coder" "B" ∈ lw_g := in_g (List.mem_of_getElem? (i := 1937) (by decide +kernel)) (by decide +kernel)
theorem fs_cmp : Cond.fieldLink "java/lang/String" 38 "java/lang/String" "COMPACT_STRINGS" "Z" ∈ lw_g := in_g (List.mem_of_getElem? (i := 717) (by decide +kernel)) (by decide +kernel)
theorem fs_fmt : Cond.fieldLink "java/lang/String" 1053 "jdk/internal/util/Preconditions" "SIOOBE_FORMATTER" "Ljava/util/function/BiFunction;" ∈ lw_g := in_g (List.mem_of_getElem? (i := 733) (by decide +kernel)) (by decide +kernel)
section
variable {M M' : MI} {d : Nat} {post : Pst} {pc : Nat} {L L' : List (Option AV)} {st : List AV} {h : Hp}
theorem r_ldcS {i idx : Nat} {tx : String} (hd : decode M.2.1 pc = .ok (.ldc idx, 2)) (hq : ix refS i = some (M.1.cls, idx, tx)) (k : WW M d post (pc + 2) L (.inr (.inr (1000 + i)) :: st) h) : WW M d post pc L st h := by
  intro E A p l e s m args below meth c H locs ls F hX hA hK hP hD hS hL
  exact va_ldcS F.1 F.2.1 (own := M.1.cls) (index := idx) (tx := tx) (q := E.2.1 (1000 + i)) F.2.2.2.2.2.1 (hX.2.2.2.1 i _ hq) hd (k E A p l e s m args below meth c H locs ls F hX hA hK hP hD hS hL)
theorem r_sval {i : Nat} (hi : i < 9) (hm : M.1.cls = "java/lang/String") (hd : decode M.2.1 pc = .ok (.getfield 9, 3)) (k : WW M d post (pc + 3) L (.inr (.inr (2000 + i)) :: st) h) : WW M d post pc L (.inr (.inr (1000 + i)) :: st) h := by
  intro E A p l e s m args below meth c H locs ls F hX hA hK hP hD hS hL
  exact vk_getf F.1 F.2.1 (hX.1.1 i hi).2.2.1 hS (by rw [← hm]; exact F.2.2.2.2.2.1) (F.2.2.2.2.2.2 _ fs_val) (fun _ h => h) hd (k E A p l e s m args below meth c H locs ls F hX hA hK hP hD hS hL)
theorem r_scod {i : Nat} (hi : i < 9) (hm : M.1.cls = "java/lang/String") (hd : decode M.2.1 pc = .ok (.getfield 15, 3)) (k : WW M d post (pc + 3) L (.inl 0 :: st) h) : WW M d post pc L (.inr (.inr (1000 + i)) :: st) h := by
  intro E A p l e s m args below meth c H locs ls F hX hA hK hP hD hS hL
  exact vk_getf F.1 F.2.1 (hX.1.1 i hi).2.1 hS (by rw [← hm]; exact F.2.2.2.2.2.1) (F.2.2.2.2.2.2 _ fs_cod) (fun _ h => h) hd (k E A p l e s m args below meth c H locs ls F hX hA hK hP hD hS hL)
theorem r_scmp (hm : M.1.cls = "java/lang/String") (hd : decode M.2.1 pc = .ok (.getstatic 38, 3)) (k : WW M d post (pc + 3) L (.inl 1 :: st) h) : WW M d post pc L st h := by
  intro E A p l e s m args below meth c H locs ls F hX hA hK hP hD hS hL
  exact va_gets F.1 F.2.1 hX.2.1 hS (by rw [← hm]; exact F.2.2.2.2.2.1) (F.2.2.2.2.2.2 _ fs_cmp) (fun _ h => h) hd (k E A p l e s m args below meth c H locs ls F hX hA hK hP hD hS hL)
theorem r_salen {i : Nat} (hi : i < 9) (hd : decode M.2.1 pc = .ok (.arraylength, 1)) (k : WW M d post (pc + 1) L (.inl (lenS.getD i 0 : Nat) :: st) h) : WW M d post pc L (.inr (.inr (2000 + i)) :: st) h := by
  intro E A p l e s m args below meth c H locs ls F hX hA hK hP hD hS hL
  exact va_tlen F.1 F.2.1 (hX.1.1 i hi).2.2.2 hS (v := Int32.ofInt ((lenS.getD i 0 : Nat) : Int)) Int32.ofInt_eq_ofNat.symm hd (k E A p l e s m args below meth c H locs ls F hX hA hK hP hD hS hL)
def chS (i j : Nat) : Int := ((bytS.getD i []).getD j 0).toInt
theorem r_sbald {i : Nat} {x : Int} (hi : i < 9) (hd : decode M.2.1 pc = .ok (.baload, 1)) (h0 : 0 ≤ x ∧ x < (lenS.getD i 0 : Nat)) (h1 : x < 2147483647) (k : WW M d post (pc + 1) L (.inl (chS i x.toNat) :: st) h) : WW M d post pc L (.inl x :: .inr (.inr (2000 + i)) :: st) h := by
  intro E A p l e s m args below meth c H locs ls F hX hA hK hP hD hS hL
  have e1 : Int32.ofInt (chS i x.toNat) = (bytS.getD i []).getD (Int32.ofInt x).toNatClampNeg 0 := by
    rw [tn32 h0.1 (by omega)]
    exact Int32.ofInt_toInt _
  refine va_tb F.1 F.2.1 (hX.1.1 i hi).2.2.2 hS (in32' h0.1 h0.2 h1) (v := .int (Int32.ofInt (chS i x.toNat))) (by rw [e1]) hd (k E A p l e s m args below meth c H locs ls F hX hA hK hP hD hS hL)
theorem r_i2c {x : Int} (hd : decode M.2.1 pc = .ok (.i2c, 1)) (hx : 0 ≤ x ∧ x < 65536) (k : WW M d post (pc + 1) L (.inl x :: st) h) : WW M d post pc L (.inl x :: st) h := by
  intro E A p l e s m args below meth c H locs ls F hX hA hK hP hD hS hL
  refine lv_i2c F.1 F.2.1 hd (v := Int32.ofInt x) ?_ (k E A p l e s m args below meth c H locs ls F hX hA hK hP hD hS hL)
  obtain ⟨n, rfl⟩ := Int.eq_ofNat_of_zero_le hx.1
  rw [Int32.ofInt_eq_ofNat]
  have hn : n < 65536 := by omega
  apply Int32.toBitVec_inj.mp
  apply BitVec.eq_of_toNat_eq
  simp
  omega
theorem r_cret {x : Int} (hd : decode M.2.1 pc = .ok (.ireturn, 1)) {ty : FieldType} (hr : M.2.2.2 = some ty) (hx : narrow ty (.int (Int32.ofInt x)) = .int (Int32.ofInt x)) (hp : post (some (.inl x)) h) : WW M d post pc L [.inl x] h := by
  intro E A p l e s m args below meth c H locs ls F hX hA hK hP hD hS hL
  exact W.zret F.1 F.2.1 (F.2.2.2.1.trans hr) hx (fun t ht hW => ⟨some (.inl x), h, rfl, hp, by rw [ht]; exact hP, va_K.moved hW.alike hK, hD, hS.F ht⟩) hS.2.2 hd F.2.2.2.2.1
/-- a call of a literal's own method -/
theorem r_callT {i a n : Nat} {st0 av : List AV} (ha : a < 9) (hd : decode M.2.1 pc = .ok (.invokevirtual i, 3)) (hm : MVk M' n) (hc : M'.1.cls = "java/lang/String") (hl : Cond.methodLink M.1.cls i M'.1 ∈ lw_g) (hn : av.length = n) (hst : st0 = av.reverse ++ .inr (.inr (1000 + a)) :: st) (hw : wtA st ≤ 8)
    (k : Cl d M' (.inr (.inr (1000 + a)) :: av) h (pI fun r h' => WW M (d + 1) post (pc + 3) L (.inl r :: st) h')) : WW M (d + 1) post pc L st0 h := by
  intro E A p l e s m args below meth c H locs ls F hX hA hK hP hD hS hL
  obtain ⟨m1, m2, m3, m4, m5, m6⟩ := hm
  have hts := F.2.2.2.2.2.2
  have hrv := vk_recv hX.1 ha hS
  rw [← hc] at hrv
  have hF := cls_free hD hS hA
  have cb : CallB (rmD (d + 1)) s args M.1.cls i M'.1 M'.2.1 M'.2.2.1 M'.2.2.2 (wsM M') (rmD d) 0 0 n := callB_of n hts (wsM_good m4) rfl rfl rfl (hts _ m3) (hts _ hl) m5 ⟨Nat.le_refl _, by show 8 + (M'.2.2.1 + 11) + 100 * d ≤ 100 * (d + 1); omega⟩
  refine q_call (A1 := va_A (cls E h) H.size) (va_runV (As := av.map (tr E)) (rest := st.map (tr E)) (b := E.2.1 (1000 + a)) ⟨F.1, F.2.1, F.2.2.1, F.2.2.2.2.2.1, hts⟩ (k E H.size l) ⟨cb, hts _ m1, hts _ m2⟩ ⟨WLD.blind, hrv, fun U hU hW => ⟨rfl, WLD.at hX hA hK hP hD hS hU hW⟩⟩ rfl (by simpa using hn) hL.1 (by subst hst; simp [List.map_reverse]; rfl) (lv_room (by rw [wtA_eq]; exact hw)) hd ⟨Nat.zero_le _, Nat.zero_le _⟩) hS hF
    (fun v h' t H1 locs1 ht hvm hp hP1 hK1 hD1 hS1 => ?_)
  obtain ⟨r, rfl, hp⟩ := hp
  exact hp E A p l e s m args below meth c H1 locs1 ls F hX hA (va_K.moved hvm.symm hK1) hP1 (hD1.weaken (fun _ q _ z => hF q.1 z)) hS1 hL
end
set_option maxRecDepth 20000 in
theorem w_checkIndex {d : Nat} {h : Hp} {i n : Int} {P : Int → Hp → Prop} (hi : 0 ≤ i ∧ i < n) (hn : n ≤ 2147483647) (k : P i h) : WW mJ3_checkIndex_8e157 d (pI P) 0 [some (.inl i), some (.inl n), none] [] h := by
  refine r_iload_n dJ3_checkIndex_8e157_0 rfl rfl ?_
  refine r_if_lt (tgt := 9) dJ3_checkIndex_8e157_1 rfl (by omega) (fun c => absurd c (by omega)) (fun _ => ?_)
  refine r_iload_n dJ3_checkIndex_8e157_4 rfl rfl ?_
  refine r_iload_n dJ3_checkIndex_8e157_5 rfl rfl ?_
  refine r_icmp_lt (tgt := 16) dJ3_checkIndex_8e157_6 rfl (by omega) (by omega) (fun _ => ?_) (fun c => absurd hi.2 c)
  refine r_iload_n dJ3_checkIndex_8e157_16 rfl rfl ?_
  refine r_iret dJ3_checkIndex_8e157_17 rfl ?_
  exact ⟨_, rfl, k⟩
theorem m_checkIndex {d : Nat} {h : Hp} {i n : Int} {P : Int → Hp → Prop} (hi : 0 ≤ i ∧ i < n) (hn : n ≤ 2147483647) (k : P i h) (E : EV) (sz : Nat) (l : Launch) (v : Value) (hv : v = .null ∨ ∃ t, v = .ref t) :
    Met l mJ3_checkIndex_8e157.1 (wsM mJ3_checkIndex_8e157) (rmD d) (va_Pc [.int (Int32.ofInt i), .int (Int32.ofInt n), v] (WLD E h sz)) (QQ E (va_A (cls E h) sz) (pI P)) 0 0 (va_A (cls E h) sz) := by
  refine Met.ofW (cc := mJ3_checkIndex_8e157.2.1) (maxL := 3) (ret := mJ3_checkIndex_8e157.2.2.2) (by decide +kernel) rfl ?_
  intro p e s m args below meth c s₁ B hml hv0
  obtain ⟨rfl, hsz, hP, hK, hD0, hX⟩ := hv0
  subst hsz
  have hts := atoms_spec (ws := wsM mJ3_checkIndex_8e157) B.pre
  have hl := lv_entry [.int (Int32.ofInt i), .int (Int32.ofInt n), v] (n := 3) (by rcases hv with rfl | ⟨t, rfl⟩ <;> exact Nat.le_refl _)
  rw [lg_entry_eq]
  refine w_checkIndex (d := d) hi hn k E (va_A (cls E h) s.heap.size) p l e s m _ below meth c s.heap [] _ ⟨B.exec, B.bytes, hml, B.returns, B.notSynchronized, findClass_of_methodNamed B.named, fun w hw => hts w (List.mem_cons_of_mem _ hw)⟩ hX (fun q hq => Or.inr hq) hK hP (hD0.self) va_S.rf ⟨hl.1, hl.2.1, fun j w hj => ?_⟩
  match j with
  | 0 => cases hj; exact hl.2.2 (0, .int (Int32.ofInt i)) (by simp [lv_args])
  | 1 => cases hj; exact hl.2.2 (1, .int (Int32.ofInt n)) (List.mem_cons_of_mem _ (List.mem_cons_self ..))
  | 2 => cases hj
  | _ + 3 => cases hj
set_option maxRecDepth 20000 in
theorem sp_scheck {d : Nat} (hd : 1 ≤ d) {i n : Int} {h : Hp} (hi : 0 ≤ i ∧ i < n) (hn : n ≤ 2147483647) {P : Hp → Prop} (k : P h) : Cl d mJ0_checkIndex_df160 [.inl i, .inl n] h (pV P) := by
  refine Cl.of (L := [some (.inl i), some (.inl n)]) (by decide +kernel) (Nat.le_of_ble_eq_true rfl) rfl ?_
  obtain ⟨d, rfl⟩ : ∃ q, d = q + 1 := ⟨d - 1, by omega⟩
  refine r_iload_n dJ0_checkIndex_df160_0 rfl rfl ?_
  refine r_iload_n dJ0_checkIndex_df160_1 rfl rfl ?_
  have done : WW mJ0_checkIndex_df160 (d + 1) (pV P) 8 [some (.inl i), some (.inl n)] [.inl i] h := by
    refine r_pop dJ0_checkIndex_df160_8 (fun _ h => by cases h) ?_
    refine r_vret dJ0_checkIndex_df160_9 rfl ?_
    exact ⟨rfl, k⟩
  intro E A p l e s m args below meth c H locs ls F hX hA hK hP hD hS hL
  have hts := F.2.2.2.2.2.2
  have hF := cls_free hD hS hA
  have key : ∀ v : Value, (v = .null ∨ ∃ t, v = .ref t) → va_Z "jdk/internal/util/Preconditions" "SIOOBE_FORMATTER" "Ljava/util/function/BiFunction;" v A s s.heap → W p l e (rmD (d + 1)) s m args below meth c H locs 0 0 (MQ below (QQ E A (pV P)) args s 0 0 A) (F0 m 2 ls [.int (Int32.ofInt n), .int (Int32.ofInt i)]) := by
    intro v hv hZ
    refine va_gets F.1 F.2.1 hZ hS F.2.2.2.2.2.1 (hts _ fs_fmt) (fun _ h => h) dJ0_checkIndex_df160_2 ?_
    obtain ⟨m1, m3, m4, m5, m6⟩ := sJ3_checkIndex_8e157
    have cb : CallB (rmD (d + 1)) s args "java/lang/String" 1059 mJ3_checkIndex_8e157.1 mJ3_checkIndex_8e157.2.1 mJ3_checkIndex_8e157.2.2.1 mJ3_checkIndex_8e157.2.2.2 (wsM mJ3_checkIndex_8e157) (rmD d) 0 0 3 := callB_of 3 hts (wsM_good m4) rfl rfl rfl (hts _ m3) (hts _ ml_J0_1059) m5 ⟨Nat.le_refl _, by show 8 + (3 + 11) + 100 * d ≤ 100 * (d + 1); omega⟩
    refine q_call (A1 := va_A (cls E h) H.size) (va_runS (As := [.int (Int32.ofInt i), .int (Int32.ofInt n), v]) (rest := []) ⟨F.1, F.2.1, F.2.2.1, F.2.2.2.2.2.1, hts⟩ (m_checkIndex (d := d) (P := fun r h' => WW mJ0_checkIndex_df160 (d + 1) (pV P) 8 [some (.inl i), some (.inl n)] [.inl r] h') hi hn done E H.size l v hv) ⟨cb, hts _ m1⟩ ⟨WLD.blind, fun U hU hW => ⟨rfl, WLD.at hX hA hK hP hD hS hU hW⟩⟩ rfl rfl hL.1 rfl (lv_room (by decide)) dJ0_checkIndex_df160_5 ⟨Nat.zero_le _, Nat.zero_le _⟩) hS hF
      (fun v2 h' t H1 locs1 ht hvm hp hP1 hK1 hD1 hS1 => ?_)
    obtain ⟨r, rfl, hp⟩ := hp
    exact hp E A p l e s m args below meth c H1 locs1 ls F hX hA (va_K.moved hvm.symm hK1) hP1 (hD1.weaken (fun _ q _ z => hF q.1 z)) hS1 hL
  rcases hX.2.2.1 with z | ⟨t, z⟩
  · exact key .null (Or.inl rfl) z
  · exact key (.ref t) (Or.inr ⟨t, rfl⟩) z
theorem sp_scoder {d a : Nat} {h : Hp} (ha : a < 9) {P : Int → Hp → Prop} (k : P 0 h) : Cl d mJ0_coder_7d493 [.inr (.inr (1000 + a))] h (pI P) := by
  refine Cl.of (L := [some (.inr (.inr (1000 + a)))]) (by decide +kernel) (Nat.le_of_ble_eq_true rfl) rfl ?_
  refine r_scmp rfl dJ0_coder_7d493_0 ?_
  refine r_if_eq (tgt := 13) dJ0_coder_7d493_3 rfl ⟨by decide, by decide⟩ (fun c => absurd c (by decide)) (fun _ => ?_)
  refine r_aload_n dJ0_coder_7d493_6 rfl rfl ?_
  refine r_scod ha rfl dJ0_coder_7d493_7 ?_
  refine r_goto (tgt := 14) dJ0_coder_7d493_10 rfl ?_
  refine r_cret dJ0_coder_7d493_14 rfl (by decide +kernel) ?_
  exact ⟨_, rfl, k⟩
theorem sp_slatin {d a : Nat} {h : Hp} (ha : a < 9) {P : Int → Hp → Prop} (k : P 1 h) : Cl d mJ0_isLatin1_aae02 [.inr (.inr (1000 + a))] h (pI P) := by
  refine Cl.of (L := [some (.inr (.inr (1000 + a)))]) (by decide +kernel) (Nat.le_of_ble_eq_true rfl) rfl ?_
  refine r_scmp rfl dJ0_isLatin1_aae02_0 ?_
  refine r_if_eq (tgt := 17) dJ0_isLatin1_aae02_3 rfl ⟨by decide, by decide⟩ (fun c => absurd c (by decide)) (fun _ => ?_)
  refine r_aload_n dJ0_isLatin1_aae02_6 rfl rfl ?_
  refine r_scod ha rfl dJ0_isLatin1_aae02_7 ?_
  refine r_if_ne (tgt := 17) dJ0_isLatin1_aae02_10 rfl ⟨by decide, by decide⟩ (fun c => absurd rfl c) (fun _ => ?_)
  refine r_iconst dJ0_isLatin1_aae02_13 ?_
  refine r_goto (tgt := 18) dJ0_isLatin1_aae02_14 rfl ?_
  refine r_zret dJ0_isLatin1_aae02_18 rfl (.inr rfl) ?_
  exact ⟨_, rfl, k⟩
theorem lenS_r : ∀ i : Nat, i < 9 → lenS.getD i 0 ≤ 12 ∧ ∀ j : Nat, j < lenS.getD i 0 → 0 ≤ chS i j ∧ chS i j < 128 := by decide +kernel
set_option maxRecDepth 20000 in
theorem sp_slength {d a : Nat} (hd : 1 ≤ d) {h : Hp} (ha : a < 9) {P : Int → Hp → Prop} (k : P (lenS.getD a 0 : Nat) h) : Cl d mJ0_length_8abf5 [.inr (.inr (1000 + a))] h (pI P) := by
  refine Cl.of (L := [some (.inr (.inr (1000 + a)))]) (by decide +kernel) (Nat.le_of_ble_eq_true rfl) rfl ?_
  obtain ⟨d, rfl⟩ : ∃ q, d = q + 1 := ⟨d - 1, by omega⟩
  have hl := (lenS_r a ha).1
  refine r_aload_n dJ0_length_8abf5_0 rfl rfl ?_
  refine r_sval ha rfl dJ0_length_8abf5_1 ?_
  refine r_salen ha dJ0_length_8abf5_4 ?_
  refine r_aload_n dJ0_length_8abf5_5 rfl rfl ?_
  refine r_callT (av := []) (M' := mJ0_coder_7d493) ha dJ0_length_8abf5_6 vJ0_coder_7d493 rfl ml_J0_335 rfl rfl (by simp [wtA]) (sp_scoder ha ?_)
  refine r_ishr (n := 0) dJ0_length_8abf5_9 (by omega) rfl (by decide) ?_
  refine r_iret dJ0_length_8abf5_10 rfl ?_
  refine ⟨_, rfl, ?_⟩
  rw [show (2 : Int) ^ 0 = 1 by decide, Int.ediv_one]
  exact k
theorem nar_c {x : Int} (hx : 0 ≤ x ∧ x < 128) : narrow .char (.int (Int32.ofInt x)) = .int (Int32.ofInt x) := by
  obtain ⟨n, rfl⟩ := Int.eq_ofNat_of_zero_le hx.1
  have hn : n < 128 := by omega
  have : ∀ n : Nat, n < 128 → narrow .char (.int (Int32.ofInt (n : Int))) = .int (Int32.ofInt (n : Int)) := by decide +kernel
  exact this n hn
set_option maxRecDepth 20000 in
theorem sp_lcharAt {d a : Nat} (hd : 2 ≤ d) {x : Int} {h : Hp} (ha : a < 9) (hx : 0 ≤ x ∧ x < (lenS.getD a 0 : Nat)) {P : Int → Hp → Prop} (k : P (chS a x.toNat) h) : Cl d mJ1_charAt_3b067 [.inr (.inr (2000 + a)), .inl x] h (pI P) := by
  refine Cl.of (L := [some (.inr (.inr (2000 + a))), some (.inl x)]) (by decide +kernel) (Nat.le_of_ble_eq_true rfl) rfl ?_
  obtain ⟨d, rfl⟩ : ∃ q, d = q + 1 := ⟨d - 1, by omega⟩
  have hl := lenS_r a ha
  have hc := hl.2 x.toNat (by omega)
  refine r_iload_n dJ1_charAt_3b067_0 rfl rfl ?_
  refine r_aload_n dJ1_charAt_3b067_1 rfl rfl ?_
  refine r_salen ha dJ1_charAt_3b067_2 ?_
  refine r_callSU (av := [_, _]) (M' := mJ0_checkIndex_df160) dJ1_charAt_3b067_3 sJ0_checkIndex_df160 ml_J1_9 rfl rfl (by simp [wtA]) (sp_scheck (by omega) hx (by omega) ?_)
  refine r_aload_n dJ1_charAt_3b067_6 rfl rfl ?_
  refine r_iload_n dJ1_charAt_3b067_7 rfl rfl ?_
  refine r_sbald ha dJ1_charAt_3b067_8 hx (by omega) ?_
  refine r_sipush dJ1_charAt_3b067_9 (by decide +kernel) ?_
  refine r_iand 8 dJ1_charAt_3b067_12 (by decide +kernel) (q := 256) rfl (by decide) ?_
  rw [Int.emod_eq_of_lt (by omega) (by omega)]
  refine r_i2c dJ1_charAt_3b067_13 (by omega) ?_
  refine r_cret dJ1_charAt_3b067_14 rfl (nar_c (by omega)) ?_
  exact ⟨_, rfl, k⟩
set_option maxRecDepth 20000 in
theorem sp_scharAt {d a : Nat} (hd : 3 ≤ d) {x : Int} {h : Hp} (ha : a < 9) (hx : 0 ≤ x ∧ x < (lenS.getD a 0 : Nat)) {P : Int → Hp → Prop} (k : P (chS a x.toNat) h) : Cl d mJ0_charAt_5068e [.inr (.inr (1000 + a)), .inl x] h (pI P) := by
  refine Cl.of (L := [some (.inr (.inr (1000 + a))), some (.inl x)]) (by decide +kernel) (Nat.le_of_ble_eq_true rfl) rfl ?_
  obtain ⟨d, rfl⟩ : ∃ q, d = q + 1 := ⟨d - 1, by omega⟩
  have hl := lenS_r a ha
  have hc := hl.2 x.toNat (by omega)
  refine r_aload_n dJ0_charAt_5068e_0 rfl rfl ?_
  refine r_callT (av := []) (M' := mJ0_isLatin1_aae02) ha dJ0_charAt_5068e_1 vJ0_isLatin1_aae02 rfl ml_J0_492 rfl rfl (by simp [wtA]) (sp_slatin ha ?_)
  refine r_if_eq (tgt := 16) dJ0_charAt_5068e_4 rfl ⟨by decide, by decide⟩ (fun c => absurd c (by decide)) (fun _ => ?_)
  refine r_aload_n dJ0_charAt_5068e_7 rfl rfl ?_
  refine r_sval ha rfl dJ0_charAt_5068e_8 ?_
  refine r_iload_n dJ0_charAt_5068e_11 rfl rfl ?_
  refine r_callSI (av := [_, _]) (M' := mJ1_charAt_3b067) dJ0_charAt_5068e_12 sJ1_charAt_3b067 ml_J0_495 rfl rfl (by simp [wtA]) (sp_lcharAt (by omega) ha hx ?_)
  refine r_cret dJ0_charAt_5068e_15 rfl (nar_c (by omega)) ?_
  exact ⟨_, rfl, k⟩
