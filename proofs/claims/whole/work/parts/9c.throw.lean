/-! LOOK where it throws -/
def nX0 : String := "java/lang/IndexOutOfBoundsException"
def nX1 : String := "java/util/NoSuchElementException"
def rx1 : ByteArray := ⟨#[0x2a, 0x2b, 0xb7, 0x00, 0x0d, 0xb1]⟩
def nmX : List String := ["java/lang/RuntimeException", "java/lang/Exception"]
def dwL : List Cond := [.castable nX0 nX0, .castable nX1 nX1, .declares (Bundle.initS "java/lang/RuntimeException"), .declares (Bundle.initS "java/lang/Exception"), .declares (Bundle.initS Bundle.tN)]
def at0 : List Cond := (vy_at RX11 171 nX0 7 Bundle.six nmX).filter vx_no
def at1 : List Cond := (vy_at RX11 199 nX1 13 rx1 nmX).filter vx_no
theorem at_split {L : List Cond} {ps : List Nat} (e : L = ps.filterMap (fun i => lw_tbl[i]?)) (g : L.all (fun w => goodWord w || decide (w ∈ dwL)) = true) : ∀ w ∈ L, w ∈ lw_g ∨ w ∈ dwL := by
  intro w hw
  have h1 := List.all_eq_true.mp g w hw
  by_cases q : goodWord w = true
  · left
    rw [e] at hw
    obtain ⟨i, -, hi⟩ := List.mem_filterMap.mp hw
    exact in_g (List.mem_of_getElem? hi) q
  · right
    rw [Bool.or_eq_true, decide_eq_true_eq] at h1
    exact h1.resolve_left q
theorem at0_in : ∀ w ∈ at0, w ∈ lw_g ∨ w ∈ dwL := at_split (ps := [123, 1249, 1258, 1261, 1264, 1266, 1250, 1251, 134, 135, 1252, 1257, 1262, 1282, 1239, 1283, 1241, 1284, 1243, 1253, 1255, 1245, 1278, 1279, 1281, 1245, 1269, 1270, 1271, 1272, 1231, 1272, 1273, 1274, 1275, 1233, 1275, 1276, 1277, 1278, 1235, 1268, 1228, 1229, 1236, 1237, 1238, 1240, 1242, 1244, 1248, 1247, 1246]) (by decide +kernel) (by decide +kernel)
theorem at1_in : ∀ w ∈ at1, w ∈ lw_g ∨ w ∈ dwL := at_split (ps := [123, 1249, 1258, 1261, 1264, 1266, 1250, 1251, 134, 135, 1252, 1257, 1262, 1282, 1239, 1283, 1241, 1284, 1243, 1253, 1255, 1245, 1278, 1279, 1281, 1245, 1304, 1305, 1306, 1272, 1231, 1272, 1273, 1274, 1275, 1233, 1275, 1276, 1277, 1278, 1235, 1303, 1294, 1295, 1296, 1260, 1297, 1298, 1299, 1300, 1248, 1247, 1301]) (by decide +kernel) (by decide +kernel)
theorem at0_ot : ∀ w ∈ at0, vx_ot w = true := List.all_eq_true.mp (by decide +kernel)
theorem at1_ot : ∀ w ∈ at1, vx_ot w = true := List.all_eq_true.mp (by decide +kernel)
theorem dwL_ot : ∀ w ∈ dwL, w.onTables = true := List.all_eq_true.mp (by decide +kernel)
theorem nmX_fit : ∀ n ∈ nmX, Bundle.fit n = true := List.all_eq_true.mp (by decide +kernel)
theorem ck_0 : Cond.classLink RX11 167 nX0 ∈ lw_g := in_g (List.mem_of_getElem? (i := 1227) (by decide +kernel)) (by decide +kernel)
theorem ck_1 : Cond.classLink RX11 195 nX1 ∈ lw_g := in_g (List.mem_of_getElem? (i := 1293) (by decide +kernel)) (by decide +kernel)
theorem ini_0 : Cond.initialized nX0 ∈ lw_g := in_g (List.mem_of_getElem? (i := 126) (by decide +kernel)) (by decide +kernel)
theorem ini_1 : Cond.initialized nX1 ∈ lw_g := in_g (List.mem_of_getElem? (i := 127) (by decide +kernel)) (by decide +kernel)
theorem lk_st : Cond.static yL_look ∈ lw_g := in_g (List.mem_of_getElem? (i := 1219) (by decide +kernel)) (by decide +kernel)
theorem lk_in : Cond.initialized RL ∈ lw_g := in_g (List.mem_of_getElem? (i := 104) (by decide +kernel)) (by decide +kernel)
def hhL : List (Nat × Nat × Nat × Nat) := [(0, 10, 13, 13), (0, 10, 17, 15)]
theorem lk_cd : Cond.codeWith yL_look cL_look 5 (some .int) hhL ∈ lw_g := in_g (List.mem_of_getElem? (i := 1220) (by decide +kernel)) (by decide +kernel)
theorem lk_c0 : Cond.classLink RL 13 nX0 ∈ lw_g := in_g (List.mem_of_getElem? (i := 1221) (by decide +kernel)) (by decide +kernel)
theorem lk_c1 : Cond.classLink RL 15 nX1 ∈ lw_g := in_g (List.mem_of_getElem? (i := 1222) (by decide +kernel)) (by decide +kernel)
theorem dwL_warm {s U : State} (hW : s.WarmedH U.vm) (h : ∀ w ∈ dwL, va_Nw w s) : ∀ w ∈ dwL, va_Nw w U := by
  have h0 := h _ (List.mem_of_getElem? (i := 0) rfl)
  have h1 := h _ (List.mem_of_getElem? (i := 1) rfl)
  have h2 := h _ (List.mem_of_getElem? (i := 2) rfl)
  have h3 := h _ (List.mem_of_getElem? (i := 3) rfl)
  have h4 := h _ (List.mem_of_getElem? (i := 4) rfl)
  intro w hw
  simp only [dwL, List.mem_cons, List.not_mem_nil, or_false] at hw
  rcases hw with e | e | e | e | e
  · rw [e]; exact va_Nw.warmC hW h0
  · rw [e]; exact va_Nw.warmC hW h1
  · rw [e]; exact va_Nw.warmD hW h2
  · rw [e]; exact va_Nw.warmD hW h3
  · rw [e]; exact va_Nw.warmD hW h4
def XD (A : Nat → Prop) (U : State) (H : Heap) : Prop := vx_Zq Bundle.tN "UNASSIGNED_STACK" Bundle.steD A U H ∧ vx_Zq Bundle.tN "SUPPRESSED_SENTINEL" Bundle.listD A U H ∧ (∀ w ∈ dwL, va_Nw w U) ∧ va_Nc nX1 nX0 U
theorem XD.call {A B : Nat → Prop} {s U : State} {H : Heap} {locs : List Loc} (h : XD A s s.heap) (hS : va_S A s.heap H locs) (hW : s.WarmedH U.vm) (hAB : ∀ q, B q → A q) : XD B U H :=
  ⟨((vx_Zq.moved hW.alike h.1).kept hS.2.1).narrow hAB, ((vx_Zq.moved hW.alike h.2.1).kept hS.2.1).narrow hAB, dwL_warm hW h.2.2.1, va_Nc.moved hW.alike h.2.2.2⟩
theorem XD.calling {A : Nat → Prop} {U : State} {g : JFrame} {mk : MethodId} {a : Array Value} (h : XD A U U.heap) : XD A (U.calling g mk a) (U.calling g mk a).heap :=
  ⟨vx_Zq.moved (u := U) (U := U.calling g mk a) (Vm.Alike.refl U.vm) h.1, vx_Zq.moved (u := U) (U := U.calling g mk a) (Vm.Alike.refl U.vm) h.2.1, fun w hw => va_Nw.same (u := U) (U := U.calling g mk a) (dwL_ot w hw) rfl (h.2.2.1 w hw), va_Nc.moved (u := U) (U := U.calling g mk a) (Vm.Alike.refl U.vm) h.2.2.2⟩
def rmX (d : Nat) : Room := { frames := d, cells := 1, slots := 6, locals := 100 * d }
def WLDx (E : EV) (h : Hp) (sz : Nat) (U : State) : Prop := WLDq 82 E h sz U ∧ XD (va_A (clsq 82 E h) sz) U U.heap
theorem WLDx.blind {E : EV} {h : Hp} {sz : Nat} {av : List Value} : FrameBlind (va_Pc av (WLDx E h sz)) := by
  intro a U g mk q
  obtain ⟨q0, q1, q2⟩ := q
  have z := WLDq.blind (n := 82) (E := E) (h := h) (sz := sz) (av := av) a U g mk ⟨q0, q1⟩
  exact ⟨z.1, z.2, XD.calling q2⟩
theorem WLDx.at {E : EV} {h : Hp} {A : Nat → Prop} {s U : State} {H : Heap} {locs : List Loc} (hZ : XD A s s.heap) (hX : XT E A s s.heap) (hA : ∀ q, s.heap.size ≤ q → A q) (hK : KK E s) (hP : va_P E.1 vwCl (clsq 82 E h) H) (hD : va_D A (clsq 82 E h)) (hS : va_S A s.heap H locs) (hU : U.heap = H) (hW : s.WarmedH U.vm) : WLDx E h H.size U := by
  refine ⟨WLDq.at hX hA hK hP hD hS hU hW, ?_⟩
  have := XD.call (U := U) hZ hS hW (clsq_free hD hS hA)
  rw [hU]
  exact this
def QN (A : Nat → Prop) : Array Value → State → Outcome → State → Prop := va_Qi (S := Hp) (fun _ _ => False) (fun _ _ => True) A
def QX (nX : String) (E : EV) (h : Hp) (A : Nat → Prop) : String → State → State → Prop := vx_X (S := Hp) (fun u => u = h) (fun E' u t => E' = nX ∧ va_P E.1 vwCl (clsq 82 E u) t.heap ∧ KK E t) A
def GX (h : Hp) (nX : String) (d : Nat) : GP := (fun _ A s _ l c => XD A s s.heap ∧ l.stackTraces = false ∧ (∀ x ∈ c.exceptionTable.toList, False), 82, rmX d, 0, 0, fun E A below args s => vx_MQ below (QN A) (QX nX E h A) args s 1 6 A)
theorem gx_throw {nX text : String} {ik is ic iy d pc i : Nat} {rx : ByteArray} {h : Hp} {L : List (Option AV)} (hd : 6 ≤ d) (x0 : decode rx 0 = .ok (.aload_n 0, 1)) (x1 : decode rx 1 = .ok (.aload_n 1, 1)) (x2 : decode rx 2 = .ok (.invokespecial iy, 3)) (x5 : decode rx 5 = .ok (.return_, 1))
    (hfit : Bundle.fit nX = true) (hk : Cond.classLink RX11 ik nX ∈ lw_g) (hini : Cond.initialized nX ∈ lw_g) (hstr : ix refS i = some (RX11, is, text)) (hin : ∀ w ∈ (vy_at RX11 ic nX iy rx nmX).filter vx_no, w ∈ lw_g ∨ w ∈ dwL) (hgo : ∀ w ∈ (vy_at RX11 ic nX iy rx nmX).filter vx_no, vx_ot w = true)
    (d0 : decode mX11_look.2.1 pc = .ok (.new ik, 3)) (d3 : decode mX11_look.2.1 (pc + 3) = .ok (.dup, 1)) (d4 : decode mX11_look.2.1 (pc + 4) = .ok (.ldc is, 2)) (d6 : decode mX11_look.2.1 (pc + 6) = .ok (.invokespecial ic, 3)) (d9 : decode mX11_look.2.1 (pc + 9) = .ok (.athrow, 1)) :
    WG (GX h nX d) mX11_look pc L [] h := by
  intro E A p l e s m args below meth c H locs ls F hX hA hK hP hD hS hL
  obtain ⟨F1, hZ, htr, htab⟩ := F
  have hts := F1.2.2.2.2.2.2
  show W p l e (rmX d) s m args below meth c H locs 0 0 (vx_MQ below (QN A) (QX nX E h A) args s 1 6 A) (F0 m pc ls [])
  refine vy_make (A := A) F1.1 F1.2.1 htr (own := RX11) (cls := nX) (text := text) (names := nmX) (ik := ik) (is := is) (ic := ic) (ix := iy) (sa := E.2.1 (1000 + i)) x0 x1 x2 x5 F1.2.2.2.2.2.1 hfit nmX_fit (hts _ hk) (hts _ hini) (hX.2.2.2.1 i _ hstr)
    (fun w hw => (hin w hw).elim (fun q => hts w q) (fun q => va_Nw.use (dwL_ot w q) (hZ.2.2.1 w q)))
    (fun w hw => (List.mem_cons.mp hw).elim (fun q => by rw [q]; rfl) (fun hw => (List.mem_cons.mp hw).elim (fun q => by rw [q]; rfl) (hgo w)))
    hZ.1 hZ.2.1 hS (hL.1.trans F1.2.2.1.symm) d0 d3 d4 d6 (by show 2 + 3 < d; omega) (by show 0 + (13 * (2 + 1) + 43) ≤ 100 * d; omega) (Nat.le_refl 1) (Nat.le_refl 6) ?_
  intro q H1 ce hc hv hcl hsz hkeep hS1
  refine vy_athrow F1.1 F1.2.1 d9 ?_
  refine vx_out (E := nX) (fun x hx => (htab x hx).elim) F1.2.2.2.2.1 hc hv hcl (fun t ht hvm => ⟨h, rfl, ⟨rfl, ?_, va_K.moved hvm hK⟩, hS1.F ht⟩) hS1.2.2 (Nat.le_refl _) (Nat.le_refl _)
  rw [ht]
  exact hP.kept (fun k q hq => hkeep q.1 (vx_lt hP hq))
theorem mx_of {h : Hp} {nX : String} {d : Nat} {mm w : Int} (k : WG (GX h nX d) mX11_look 0 [some (.inr (.inr 0)), some (.inl mm), some (.inl w)] [] h) (E : EV) (sz : Nat) (l : Launch) (htr : l.stackTraces = false) :
    vx_Met l mX11_look.1 (wsM mX11_look) (rmX d) (va_Pc (List.map (tr E) [.inr (.inr 0), .inl mm, .inl w]) (WLDx E h sz)) (QN (va_A (clsq 82 E h) sz)) (QX nX E h (va_A (clsq 82 E h) sz)) 1 6 (va_A (clsq 82 E h) sz) := by
  refine vx_ofW (cc := mX11_look.2.1) (maxL := mX11_look.2.2.1) (ret := mX11_look.2.2.2) (by decide +kernel) rfl ?_
  intro p e s m args below meth c s₁ B hml htab hv
  obtain ⟨rfl, ⟨hsz, hP, hK, hD0, hX⟩, hZ⟩ := hv
  subst hsz
  have hts := atoms_spec (ws := wsM mX11_look) B.pre
  have hl := lv_entry (List.map (tr E) [.inr (.inr 0), .inl mm, .inl w]) (n := mX11_look.2.2.1) (by rw [slA_len]; exact Nat.le_of_ble_eq_true rfl)
  rw [lg_entry_eq]
  refine k E (va_A (clsq 82 E h) s.heap.size) p l e s m _ below meth c s.heap [] _ ⟨⟨B.exec, B.bytes, hml, B.returns, B.notSynchronized, findClass_of_methodNamed B.named, fun w hw => hts w (List.mem_cons_of_mem _ hw)⟩, hZ, htr, htab⟩ hX (fun q hq => Or.inr hq) hK hP (hD0.self) va_S.rf ⟨hl.1, hl.2.1, fun i v hi => ?_⟩
  have := hl.2.2 _ (entL_in E [.inr (.inr 0), .inl mm, .inl w] mX11_look.2.2.1 0 i v hi)
  simpa using this
section
variable {h : Hp} {d : Nat} {m w : Int}
theorem lk_t0 (hd : 8 ≤ d) (hm32 : R32 m) (hn : 0 ≤ h 16 0 ∧ h 16 0 ≤ 150) (hm : ¬ (0 ≤ m ∧ m < h 16 0)) : WG (GX h nX0 d) mX11_look 0 [some (.inr (.inr 0)), some (.inl m), some (.inl w)] [] h := by
  obtain ⟨d, rfl⟩ : ∃ q, d = q + 1 := ⟨d - 1, by omega⟩
  refine gg_aload_n dX11_look_0 rfl rfl ?_
  refine gg_getR dX11_look_1 fl_X11_44 (shq (Nat.le_of_ble_eq_true rfl) sh_0) rfl ?_
  refine gg_iload_n dX11_look_4 rfl rfl ?_
  refine gg_callVI (d := d) ⟨Nat.le_refl _, Nat.le_refl _⟩ ⟨Nat.zero_le _, Nat.zero_le _⟩ (av := [_]) (M' := mX2_has) dX11_look_5 vX2_has ml_X11_164 (shq (Nat.le_of_ble_eq_true rfl) sh_16) (by decide) rfl rfl rfl rfl (by simp [wtA]) (Clq82 (sp_X2_has_16 (by omega) hm32 ⟨hn.1, hn.2⟩ (fun q => absurd q hm) (fun _ => ?_)))
  refine gg_if_ne (tgt := 21) dX11_look_8 rfl ⟨by decide, by decide⟩ (fun q => absurd rfl q) (fun _ => ?_)
  exact gx_throw (i := 7) (by omega) Bundle.six_0 Bundle.six_1 Bundle.six_2 Bundle.six_5 (by decide +kernel) ck_0 ini_0 rfl at0_in at0_ot dX11_look_11 dX11_look_14 dX11_look_15 dX11_look_17 dX11_look_20
theorem lk_t1 (hd : 8 ≤ d) (hm32 : R32 m) (hw32 : R32 w) (hn : 0 ≤ h 16 0 ∧ h 16 0 ≤ 150) (hm : 0 ≤ m ∧ m < h 16 0) (hw : ¬ (0 ≤ w ∧ w ≤ 5)) : WG (GX h nX1 d) mX11_look 0 [some (.inr (.inr 0)), some (.inl m), some (.inl w)] [] h := by
  obtain ⟨d, rfl⟩ : ∃ q, d = q + 1 := ⟨d - 1, by omega⟩
  refine gg_aload_n dX11_look_0 rfl rfl ?_
  refine gg_getR dX11_look_1 fl_X11_44 (shq (Nat.le_of_ble_eq_true rfl) sh_0) rfl ?_
  refine gg_iload_n dX11_look_4 rfl rfl ?_
  refine gg_callVI (d := d) ⟨Nat.le_refl _, Nat.le_refl _⟩ ⟨Nat.zero_le _, Nat.zero_le _⟩ (av := [_]) (M' := mX2_has) dX11_look_5 vX2_has ml_X11_164 (shq (Nat.le_of_ble_eq_true rfl) sh_16) (by decide) rfl rfl rfl rfl (by simp [wtA]) (Clq82 (sp_X2_has_16 (by omega) hm32 ⟨hn.1, hn.2⟩ (fun _ => ?_) (fun q => absurd hm q)))
  refine gg_if_ne (tgt := 21) dX11_look_8 rfl ⟨by decide, by decide⟩ (fun _ => ?_) (fun q => absurd q (by decide))
  refine gg_iload_n dX11_look_21 rfl rfl ?_
  refine gg_tsOut (tgt := 137) dX11_look_22 hw32 (by omega) rfl ?_
  exact gx_throw (i := 8) (rx := rx1) (by omega) (by decide +kernel) (by decide +kernel) (by decide +kernel) (by decide +kernel) (by decide +kernel) ck_1 ini_1 rfl at1_in at1_ot dX11_look_137 dX11_look_140 dX11_look_141 dX11_look_143 dX11_look_146
end
