/-! CordPensLaw.look -/
def mLk : MI := (yL_look, cL_look, 5, some .int)
def wsK : List Cond := .codeWith yL_look cL_look 5 (some .int) hhL :: lw_g
theorem ix_at {r : vw_C} {ci : Nat} (h : ix vwCl ci = some r) : vwCl[ci]? = some r := by
  rw [ix_eq] at h
  exact h
def rX11 : vw_C := vwCl.getD 11 (RX11, TX11, 0)
def GK (post : Pst) (d : Nat) : GP := (fun _ A s _ l c => XD A s s.heap ∧ l.stackTraces = false ∧ c.exceptionTable.toList = tableOf hhL, 82, rmX d, 0, 0, fun E A below args s => vx_MQ below (QQq 82 E A post) (fun _ _ _ => False) args s 1 6 A)
def ClK (d : Nat) (av : List AV) (h : Hp) (post : Pst) : Prop :=
  ∀ (E : EV) (sz : Nat) (l : Launch), l.stackTraces = false → Met l yL_look wsK (rmX d) (va_Pc (av.map (tr E)) (WLDx E h sz)) (QQq 82 E (va_A (clsq 82 E h) sz) post) 1 6 (va_A (clsq 82 E h) sz)
theorem gk_ret {post : Pst} {d pc : Nat} {x : Int} {L : List (Option AV)} {h : Hp} (hd : decode cL_look pc = .ok (.ireturn, 1)) (hp : post (some (.inl x)) h) : WG (GK post d) mLk pc L [.inl x] h := by
  intro E A p l e s m args below meth c H locs ls F hX hA hK hP hD hS hL
  show W p l e (rmX d) s m args below meth c H locs 0 0 (vx_MQ below (QQq 82 E A post) (fun _ _ _ => False) args s 1 6 A) (F0 m pc ls [.int (Int32.ofInt x)])
  refine W.widen (k := 1) (n := 6) (by decide) (by decide) ?_
  exact vx_ret (W.iret F.1.1 F.1.2.1 F.1.2.2.2.1 (fun t ht hW => ⟨some (.inl x), h, rfl, hp, by rw [ht]; exact hP, va_K.moved hW.alike hK, hD, hS.F ht⟩) hS.2.2 hd F.1.2.2.2.2.1)
theorem ClK.of {post : Pst} {d : Nat} {h : Hp} {mm w : Int} (k : WG (GK post d) mLk 0 [some (.inr (.inr 0)), some (.inl mm), some (.inl w), some (.inr (.inr 81)), none] [] h) : ClK d [.inr (.inr 0), .inl mm, .inl w, .inr (.inr 81)] h post := by
  intro E sz l htr
  have q : vx_Met l yL_look wsK (rmX d) (va_Pc (List.map (tr E) [.inr (.inr 0), .inl mm, .inl w, .inr (.inr 81)]) (WLDx E h sz)) (QQq 82 E (va_A (clsq 82 E h) sz) post) (fun _ _ _ => False) 1 6 (va_A (clsq 82 E h) sz) := by
    refine vx_ofWH (cc := cL_look) (maxL := 5) (ret := some .int) (hh := hhL) (by decide +kernel) rfl ?_
    intro p e s m args below meth c s₁ B hml hv
    obtain ⟨rfl, ⟨hsz, hP, hK, hD0, hX⟩, hZ⟩ := hv
    subst hsz
    have hts := atoms_spec (ws := wsK) B.pre
    have htab : c.exceptionTable.toList = tableOf hhL := vx_table (x := yL_look) B (hts _ List.mem_cons_self)
    have hl := lv_entry (List.map (tr E) [.inr (.inr 0), .inl mm, .inl w, .inr (.inr 81)]) (n := 5) (by rw [slA_len]; exact Nat.le_of_ble_eq_true rfl)
    rw [lg_entry_eq]
    refine k E (va_A (clsq 82 E h) s.heap.size) p l e s m _ below meth c s.heap [] _ ⟨⟨B.exec, B.bytes, hml, B.returns, B.notSynchronized, findClass_of_methodNamed B.named, fun w hw => hts w (List.mem_cons_of_mem _ hw)⟩, hZ, htr, htab⟩ hX (fun q hq => Or.inr hq) hK hP (hD0.self) va_S.rf ⟨hl.1, hl.2.1, fun i v hi => ?_⟩
    have := hl.2.2 _ (entL_in E [.inr (.inr 0), .inl mm, .inl w, .inr (.inr 81)] 5 0 i v hi)
    simpa using this
  intro p e ha hc hk s m args below hf hap hP hK
  obtain ⟨n, o, h1, h2, h3, h4⟩ := q p e ha hc hk s m args below hf hap hP hK
  rcases h4 with h4 | ⟨q, -, E', ce, Lc, hx, -⟩
  · exact ⟨n, o, h1, h2, h3, h4⟩
  · exact hx.elim

set_option maxRecDepth 20000 in
theorem lk_c_0 {h : Hp} {post : Pst} {d : Nat} {mm w : Int} {L : List (Option AV)} (hd : 8 ≤ d) (k : WG (GX h nX0 d) mX11_look 0 [some (.inr (.inr 0)), some (.inl mm), some (.inl w)] [] h) (hpost : post (some (.inl 1)) h) :
    WG (GK post (d + 1)) mLk 5 L [.inl w, .inl mm, .inr (.inr 0), .inl 0, .inr (.inr 81)] h := by
  intro E A p l e s m args below meth c H locs ls F hX hA hK hP hD hS hL
  obtain ⟨F1, hZ, htr, htab⟩ := F
  obtain ⟨m1, m2, m3, m4, m5, m6⟩ := vX11_look
  have hts := F1.2.2.2.2.2.2
  have he := clsq_at (E := E) (h := h) (n := 82) (shq (Nat.le_of_ble_eq_true rfl) sh_0)
  rw [cellE_obj (by decide)] at he
  have hrv := va_recv hK hP (ix_at (r := rX11) rfl) he
  have hF := clsq_free hD hS hA
  have cb : CallB (rmX (d + 1)) s args mLk.1.cls 7 mX11_look.1 mX11_look.2.1 mX11_look.2.2.1 mX11_look.2.2.2 (wsM mX11_look) (rmX d) 1 6 2 := callB_of 2 hts (wsM_good m4) rfl rfl rfl (hts _ m3) (hts _ ml_L_7) m5 ⟨Nat.le_refl _, by show 8 + (3 + 11) + 100 * d ≤ 100 * (d + 1); omega⟩
  show W p l e (rmX (d + 1)) s m args below meth c H locs 0 0 (vx_MQ below (QQq 82 E A post) (fun _ _ _ => False) args s 1 6 A) (F0 m 5 ls [.int (Int32.ofInt w), .int (Int32.ofInt mm), .ref (E.2.1 0), .int (Int32.ofInt 0), .ref (E.2.1 81)])
  refine vx_calli (A0 := A) (A1 := va_A (clsq 82 E h) H.size) (AX := va_A (clsq 82 E h) H.size) (vx_runV (As := [.int (Int32.ofInt mm), .int (Int32.ofInt w)]) (rest := [.int (Int32.ofInt 0), .ref (E.2.1 81)]) (b := E.2.1 0) ⟨F1.1, F1.2.1, F1.2.2.1, F1.2.2.2.2.2.1, hts⟩ (mx_of k E H.size l htr) ⟨cb, hts _ m1, hts _ m2⟩ ⟨WLDx.blind, hrv, fun U hU hW => ⟨rfl, WLDx.at hZ hX hA hK hP hD hS hU hW⟩⟩ rfl rfl hL.1 rfl (Nat.le_of_ble_eq_true rfl) dL_look_5 ⟨Nat.le_refl _, Nat.le_refl _⟩) hS (fun q _ z => hF q z) hF (fun q _ z => hF q z) ?_ (fun r u t H1 locs1 _ _ hp => hp.elim)
  intro E' ce q u t H1 locs1 ht hvm hu hb hz hkp hS1 hce hcv hcl
  obtain ⟨rfl, hP1, hK1⟩ := hb
  subst hu
  refine vx_catch (own := RL) (name := nX0) F1.2.2.2.2.2.1 [] (⟨0, 10, 13, 13⟩ : ExceptionTableEntry) [⟨0, 10, 17, 15⟩] (htab.trans rfl) (fun z hz => nomatch hz) (by decide) (by decide) (hts _ lk_c0) (va_Nw.use rfl (hZ.2.2.1 _ (List.mem_of_getElem? (i := 0) rfl))) hce hcv hcl ?_
  show W p l e (rmX (d + 1)) s m args below meth c H1 locs1 1 6 (vx_MQ below (QQq 82 E A post) (fun _ _ _ => False) args s 1 6 A) (F0 m 13 ls [.ref q])
  refine lv_astore F1.1 F1.2.1 dL_look_13 hL.has (by decide) rfl (fun ls' _ => ?_)
  refine lv_iconst F1.1 F1.2.1 dL_look_15 rfl ?_
  exact vx_ret (W.iret F1.1 F1.2.1 F1.2.2.2.1 (fun t2 ht2 hW2 => ⟨some (.inl 1), u, rfl, hpost, by rw [ht2, ← ht]; exact hP1, va_K.moved hW2.alike hK, hD, hS1.F ht2⟩) hS1.2.2 dL_look_16 F1.2.2.2.2.1)

set_option maxRecDepth 20000 in
theorem lk_c_1 {h : Hp} {post : Pst} {d : Nat} {mm w : Int} {L : List (Option AV)} (hd : 8 ≤ d) (k : WG (GX h nX1 d) mX11_look 0 [some (.inr (.inr 0)), some (.inl mm), some (.inl w)] [] h) (hpost : post (some (.inl 2)) h) :
    WG (GK post (d + 1)) mLk 5 L [.inl w, .inl mm, .inr (.inr 0), .inl 0, .inr (.inr 81)] h := by
  intro E A p l e s m args below meth c H locs ls F hX hA hK hP hD hS hL
  obtain ⟨F1, hZ, htr, htab⟩ := F
  obtain ⟨m1, m2, m3, m4, m5, m6⟩ := vX11_look
  have hts := F1.2.2.2.2.2.2
  have he := clsq_at (E := E) (h := h) (n := 82) (shq (Nat.le_of_ble_eq_true rfl) sh_0)
  rw [cellE_obj (by decide)] at he
  have hrv := va_recv hK hP (ix_at (r := rX11) rfl) he
  have hF := clsq_free hD hS hA
  have cb : CallB (rmX (d + 1)) s args mLk.1.cls 7 mX11_look.1 mX11_look.2.1 mX11_look.2.2.1 mX11_look.2.2.2 (wsM mX11_look) (rmX d) 1 6 2 := callB_of 2 hts (wsM_good m4) rfl rfl rfl (hts _ m3) (hts _ ml_L_7) m5 ⟨Nat.le_refl _, by show 8 + (3 + 11) + 100 * d ≤ 100 * (d + 1); omega⟩
  show W p l e (rmX (d + 1)) s m args below meth c H locs 0 0 (vx_MQ below (QQq 82 E A post) (fun _ _ _ => False) args s 1 6 A) (F0 m 5 ls [.int (Int32.ofInt w), .int (Int32.ofInt mm), .ref (E.2.1 0), .int (Int32.ofInt 0), .ref (E.2.1 81)])
  refine vx_calli (A0 := A) (A1 := va_A (clsq 82 E h) H.size) (AX := va_A (clsq 82 E h) H.size) (vx_runV (As := [.int (Int32.ofInt mm), .int (Int32.ofInt w)]) (rest := [.int (Int32.ofInt 0), .ref (E.2.1 81)]) (b := E.2.1 0) ⟨F1.1, F1.2.1, F1.2.2.1, F1.2.2.2.2.2.1, hts⟩ (mx_of k E H.size l htr) ⟨cb, hts _ m1, hts _ m2⟩ ⟨WLDx.blind, hrv, fun U hU hW => ⟨rfl, WLDx.at hZ hX hA hK hP hD hS hU hW⟩⟩ rfl rfl hL.1 rfl (Nat.le_of_ble_eq_true rfl) dL_look_5 ⟨Nat.le_refl _, Nat.le_refl _⟩) hS (fun q _ z => hF q z) hF (fun q _ z => hF q z) ?_ (fun r u t H1 locs1 _ _ hp => hp.elim)
  intro E' ce q u t H1 locs1 ht hvm hu hb hz hkp hS1 hce hcv hcl
  obtain ⟨rfl, hP1, hK1⟩ := hb
  subst hu
  refine vx_catch (own := RL) (name := nX1) F1.2.2.2.2.2.1 [⟨0, 10, 13, 13⟩] (⟨0, 10, 17, 15⟩ : ExceptionTableEntry) [] (htab.trans rfl) (fun z hz => by rw [List.mem_singleton.mp hz]; exact Or.inr ⟨by decide, nX0, hts _ lk_c0, hZ.2.2.2⟩) (by decide) (by decide) (hts _ lk_c1) (va_Nw.use rfl (hZ.2.2.1 _ (List.mem_of_getElem? (i := 1) rfl))) hce hcv hcl ?_
  show W p l e (rmX (d + 1)) s m args below meth c H1 locs1 1 6 (vx_MQ below (QQq 82 E A post) (fun _ _ _ => False) args s 1 6 A) (F0 m 17 ls [.ref q])
  refine lv_astore F1.1 F1.2.1 dL_look_17 hL.has (by decide) rfl (fun ls' _ => ?_)
  refine lv_iconst F1.1 F1.2.1 dL_look_19 rfl ?_
  exact vx_ret (W.iret F1.1 F1.2.1 F1.2.2.2.1 (fun t2 ht2 hW2 => ⟨some (.inl 2), u, rfl, hpost, by rw [ht2, ← ht]; exact hP1, va_K.moved hW2.alike hK, hD, hS1.F ht2⟩) hS1.2.2 dL_look_20 F1.2.2.2.2.1)

theorem gg_i2lx {G : GP} {M : MI} {pc : Nat} {L : List (Option AV)} {st : List AV} {h : Hp} {x : Int} (hd : decode M.2.1 pc = .ok (.i2l, 1)) (k : WG G M (pc + 1) L (.inr (.inl (Int32.ofInt x).toInt) :: st) h) : WG G M pc L (.inl x :: st) h := by
  intro E A p l e s m args below meth c H locs ls F hX hA hK hP hD hS hL
  have e1 : (Int32.ofInt x).toInt64 = Int64.ofInt (Int32.ofInt x).toInt := by
    apply Int64.toInt.inj
    rw [Int32.toInt_toInt64, Int64.toInt_ofInt_of_le]
    · have := (Int32.ofInt x).le_toInt
      omega
    · have := (Int32.ofInt x).toInt_lt
      omega
  exact lv_i2l F.1.1 F.1.2.1 hd e1 (k E A p l e s m args below meth c H locs ls F hX hA hK hP hD hS hL)
theorem r64x {x : Int} : R64 (Int32.ofInt x).toInt := by
  have h1 := (Int32.ofInt x).toInt_lt
  have h2 := (Int32.ofInt x).le_toInt
  constructor <;> omega
section
variable {h : Hp} {d : Nat} {m w : Int} {post : Pst}
def LLk (m w : Int) : List (Option AV) := [some (.inr (.inr 0)), some (.inl m), some (.inl w), some (.inr (.inr 81)), none]
theorem lk_at5 (k : WG (GK post d) mLk 5 (LLk m w) [.inl w, .inl m, .inr (.inr 0), .inl 0, .inr (.inr 81)] h) : ClK d [.inr (.inr 0), .inl m, .inl w, .inr (.inr 81)] h post := by
  refine ClK.of ?_
  refine gg_aload_n dL_look_0 rfl rfl ?_
  refine gg_iconst dL_look_1 ?_
  refine gg_aload_n dL_look_2 rfl rfl ?_
  refine gg_iload_n dL_look_3 rfl rfl ?_
  refine gg_iload_n dL_look_4 rfl rfl ?_
  exact k
theorem clk_ok (hd : 8 ≤ d) (hm32 : R32 m) (hm : 0 ≤ m ∧ m < h 16 0) (hw : 0 ≤ w ∧ w ≤ 5) (r : REL h) (hpost : post (some (.inl 0)) (upH h 81 0 (Int32.ofInt (lkC h m.toNat w)).toInt)) : ClK (d + 1) [.inr (.inr 0), .inl m, .inl w, .inr (.inr 81)] h post := by
  have n1 := r.n
  refine lk_at5 ?_
  refine gg_callVI (d := d) ⟨Nat.le_refl _, Nat.le_refl _⟩ ⟨Nat.zero_le _, Nat.zero_le _⟩ (av := [_, _]) (M' := mX11_look) dL_look_5 vX11_look ml_L_7 (shq (Nat.le_of_ble_eq_true rfl) sh_0) (by decide) rfl rfl rfl rfl (by simp [wtA]) (Clq82 (sp_X11_look (by omega) hm32 hm ⟨n1.1, n1.2.1⟩ hw r.lr (r.dn (by omega)) ?_))
  refine gg_i2lx dL_look_8 ?_
  refine gg_last dL_look_9 (shq (Nat.le_of_ble_eq_true rfl) sh_81) (by decide) (by decide) ?_
  refine gg_goto (tgt := 21) dL_look_10 rfl ?_
  refine gg_iconst dL_look_21 ?_
  exact gk_ret dL_look_22 hpost
theorem clk_t0 (hd : 8 ≤ d) (hm32 : R32 m) (hm : ¬ (0 ≤ m ∧ m < h 16 0)) (r : REL h) (hpost : post (some (.inl 1)) h) : ClK (d + 1) [.inr (.inr 0), .inl m, .inl w, .inr (.inr 81)] h post :=
  lk_at5 (lk_c_0 hd (lk_t0 hd hm32 ⟨r.n.1, r.n.2.1⟩ hm) hpost)
theorem clk_t1 (hd : 8 ≤ d) (hm32 : R32 m) (hw32 : R32 w) (hm : 0 ≤ m ∧ m < h 16 0) (hw : ¬ (0 ≤ w ∧ w ≤ 5)) (r : REL h) (hpost : post (some (.inl 2)) h) : ClK (d + 1) [.inr (.inr 0), .inl m, .inl w, .inr (.inr 81)] h post :=
  lk_at5 (lk_c_1 hd (lk_t1 hd hm32 hw32 ⟨r.n.1, r.n.2.1⟩ hm hw) hpost)
end
