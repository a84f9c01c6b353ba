/-! THE CLAIM OUT OF ONE WALK OF THE LAW'S BODY. Your part is whole_start (and what it stands on); all else here is the same for every law, but numbers. -/
def R_law : String := "CordPensLaw"
def lw_P (b : Addr) (xs : List Int32) (args : Array Value) (s : State) : Prop := args = #[.ref b] ∧ s.IntsAt b xs ∧ xs.length ≤ 3072 ∧ (Jvm.Cond.and given_1 narrow_1).before args s = true
def lw_Q (_ : Array Value) (s : State) (o : Outcome) (t : State) : Prop := o = .returned (some (.int 1)) ∧ Framed s o t [] 601024 7293034
def lw_Z (below : List Frame) (a : Array Value) (s : State) : State → Prop := fun t => ∃ o, t.status = .running ∧ Ended t below o ∧ lw_Q a s o t
/-- the law's own end, with 1 on the stack, nothing written that was there before, its room as the claim has it -/
theorem lw_ret {p : Program} {l : Launch} {e : Env} {s : State} {m : MethodId} {below : List Frame} {meth : Method} {c : Code} {b : Nat} (hx : p.tables.exec = Jvm.exec) (hb : c.code = code) (hr : meth.sig.returnType = ret) (hlocks : meth.locks = false) {pc : Nat} {H : Heap} {ls : Array Slot} (hdg : decode code pc = .ok (.ireturn, 1)) : W p l e room_1 s m #[Value.ref b] below meth c H [] 601024 7293034 (lw_Z below #[Value.ref b] s) (F0 m pc ls [.int 1]) := by
  intro T hT X
  obtain ⟨fs, hret, hrun, hended, hW, hframe⟩ := X.leave (v := some (.int 1)) (hlocks := hlocks) (fun h => by rw [hr] at h; cases h)
  have hmeth' : T.vm.method? m = some meth := X.method'
  refine ⟨T.setFrames fs, ?_, .returned (some (.int 1)), hrun, hended, rfl, ⟨_, rfl⟩, hW, hframe⟩
  jvm_step X.here [X.here.top, hx, hb, hdg, hmeth', hr, ret, narrow_b1]
  (try refine ⟨rfl, ?_⟩); (try refine ⟨rfl, ?_⟩)
  first | (intro acts; rw [hret _ acts rfl rfl rfl]) | rw [hret _ _ rfl rfl rfl]
  exact Steps.refl _
/-- what holds at the law's entry: the machine, the code, the tables' words (any of lw_tbl by 'hts w (by decide +kernel)'), the script of L ints xs at the cell b, what the Statement gives of the start (any of its parts by flat_of_before) -/
def lw_At (p : Program) (s : State) (m : MethodId) (meth : Method) (c : Code) (b L : Nat) (xs : Nat → Int32) : Prop :=
  p.tables.exec = Jvm.exec ∧ c.code = code ∧ meth.sig.returnType = ret ∧ c.maxLocals = 7 ∧ s.vm.findClass R_law = some m.cls ∧ (∀ w ∈ lw_tbl, w.before #[Value.ref b] s = true) ∧ va_X b L xs s s.heap ∧ b < s.heap.size ∧ meth.locks = false ∧ (Jvm.Cond.and given_1 narrow_1).before #[Value.ref b] s = true
/-! THE LAW'S LOOP -/
theorem Cl.mono {d : Nat} {M : MI} {av : List AV} {h : Hp} {post post' : Pst} (k : Cl d M av h post) (hpq : ∀ v h', post v h' → post' v h') : Cl d M av h post' := by
  intro E sz l p e ha hc hk s m args below hf hap hP hK
  obtain ⟨n, o, h1, h2, h3, ⟨v, h', e1, e2, e3⟩, h4⟩ := k E sz l p e ha hc hk s m args below hf hap hP hK
  exact ⟨n, o, h1, h2, h3, ⟨v, h', e1, hpq v h' e2, e3⟩, h4⟩
def mLw : MI := (yL_law, code, 7, ret)
def PmL (b Ln : Nat) (xs : Nat → Int32) : EV → (Nat → Prop) → State → Array Value → Launch → Code → Prop := fun E A s args l _ =>
  args = #[Value.ref b] ∧ E.2.1 3000 = b ∧ ¬ A b ∧ va_X b Ln xs s s.heap ∧ b < s.heap.size ∧ (∀ q, A q → s.heap.size ≤ q) ∧ l.flags = flags0 ∧ (∀ w ∈ lw_tbl, w.before #[Value.ref b] s = true) ∧ (Jvm.Cond.and given_1 narrow_1).before #[Value.ref b] s = true
def GL (b Ln : Nat) (xs : Nat → Int32) (ck sl : Nat) : GP := (PmL b Ln xs, 82, room_1, ck, sl, fun _ _ below args s => lw_Z below args s)
section
variable {b Ln ck sl : Nat} {xs : Nat → Int32} {pc : Nat} {L : List (Option AV)} {st : List AV} {h : Hp}
theorem gl_rm : 21 + 1 ≤ (GL b Ln xs ck sl).2.2.1.frames ∧ 100 * (21 + 1) ≤ (GL b Ln xs ck sl).2.2.1.locals := ⟨Nat.le_of_ble_eq_true rfl, Nat.le_of_ble_eq_true rfl⟩
theorem gl_ck (h : ck ≤ 601024 ∧ sl ≤ 7293034) : (GL b Ln xs ck sl).2.2.2.1 ≤ (GL b Ln xs ck sl).2.2.1.cells ∧ (GL b Ln xs ck sl).2.2.2.2.1 ≤ (GL b Ln xs ck sl).2.2.1.slots := h
theorem gl_len (hd : decode code pc = .ok (.arraylength, 1)) (k : WG (GL b Ln xs ck sl) mLw (pc + 1) L (.inl (Ln : Int) :: st) h) : WG (GL b Ln xs ck sl) mLw pc L (.inr (.inr 3000) :: st) h := by
  intro E A p l e s m args below meth c H locs ls F hX hA hK hP hD hS hL
  have F0' := F
  obtain ⟨F1, ea, eb, hnA, hXs, hbl, hq⟩ := F
  have e1 : List.map (tr E) (.inr (.inr 3000) :: st) = .ref b :: st.map (tr E) := by simp [tr, eb]
  rw [e1]
  refine va_slen F1.1 F1.2.1 hXs hbl hnA hS hd ?_
  exact k E A p l e s m args below meth c H locs ls F0' hX hA hK hP hD hS hL
theorem gl_sld {x : Int} (hd : decode code pc = .ok (.iaload, 1)) (hx : 0 ≤ x ∧ x < Ln) (hn : Ln ≤ 3072) (k : WG (GL b Ln xs ck sl) mLw (pc + 1) L (.inl (xs x.toNat).toInt :: st) h) : WG (GL b Ln xs ck sl) mLw pc L (.inl x :: .inr (.inr 3000) :: st) h := by
  intro E A p l e s m args below meth c H locs ls F hX hA hK hP hD hS hL
  have F0' := F
  obtain ⟨F1, ea, eb, hnA, hXs, hbl, hq⟩ := F
  have e1 : List.map (tr E) (.inl x :: .inr (.inr 3000) :: st) = .int (Int32.ofInt x) :: .ref b :: st.map (tr E) := by simp [tr, eb]
  rw [e1]
  refine va_sld F1.1 F1.2.1 hXs hbl hnA hS (in32 hx.1 hx.2 (by omega)) hd ?_
  rw [tn32 hx.1 (by omega)]
  have q := k E A p l e s m args below meth c H locs ls F0' hX hA hK hP hD hS hL
  have e2 : List.map (tr E) (.inl (xs x.toNat).toInt :: st) = .int (xs x.toNat) :: st.map (tr E) := by simp [tr]
  rw [e2] at q
  exact q
theorem r32x {j : Nat} : R32 (xs j).toInt := by
  have h1 := (xs j).toInt_lt
  have h2 := (xs j).le_toInt
  constructor <;> omega
theorem gl_eq {x off : Int} {tgt : Nat} (hd : decode code pc = .ok (.if_icmp .eq off, 3)) (ht : (pc : Int) + off = (tgt : Int)) (k : WG (GL b Ln xs ck sl) mLw tgt L st h) : WG (GL b Ln xs ck sl) mLw pc L (.inl x :: .inl x :: st) h := by
  intro E A p l e s m args below meth c H locs ls F hX hA hK hP hD hS hL
  exact lv_icmp_eq F.1.1 F.1.2.1 hd ht (fun _ => k E A p l e s m args below meth c H locs ls F hX hA hK hP hD hS hL) (fun q => absurd rfl q)
theorem gl_end (hc : ck ≤ 601024 ∧ sl ≤ 7293034) : WG (GL b Ln xs ck sl) mLw 1350 L [] h := by
  refine gg_iconst dL_law_1350 ?_
  intro E A p l e s m args below meth c H locs ls F hX hA hK hP hD hS hL
  obtain ⟨F1, ea, eb, hnA, hXs, hbl, hAs, hq⟩ := F
  subst ea
  show W p l e room_1 s m #[Value.ref b] below meth c H locs ck sl (lw_Z below #[Value.ref b] s) (F0 m 1351 ls [.int 1])
  refine va_forget (fun q hq => hAs _ (hS.2.2 q hq)) ?_
  refine W.widen (k := 601024) (n := 7293034) hc.1 hc.2 ?_
  exact lw_ret F1.1 F1.2.1 F1.2.2.2.1 F1.2.2.2.2.1 dL_law_1351
end
set_option maxRecDepth 20000 in
set_option maxHeartbeats 4000000 in
theorem law_case {b Ln ck sl i : Nat} {xs : Nat → Int32} {h : Hp} {o5 o6 : Option AV} (hLn : Ln ≤ 3072) (hck : ck ≤ 601024 ∧ sl ≤ 7293034) (hi : i + 6 ≤ Ln) (rel : REL h) (next : ∀ (h2 : Hp) (o5 o6 : Option AV) (ck2 sl2 : Nat), ck2 ≤ ck + 16 → sl2 ≤ sl + 256 → REL h2 → WG (GL b Ln xs ck2 sl2) mLw 1344 [some (.inr (.inr 3000)), some (.inr (.inr 0)), some (.inr (.inr 49)), some (.inr (.inr 81)), some (.inl (i : Int)), o5, o6] [] h2)
    (look : (xs i).toInt % 32 = 5 → WG (GL b Ln xs ck sl) mLw 389 [some (.inr (.inr 3000)), some (.inr (.inr 0)), some (.inr (.inr 49)), some (.inr (.inr 81)), some (.inl (i : Int)), o5, o6] [] h) : WG (GL b Ln xs ck sl) mLw 33 [some (.inr (.inr 3000)), some (.inr (.inr 0)), some (.inr (.inr 49)), some (.inr (.inr 81)), some (.inl (i : Int)), o5, o6] [] h := by
  refine gg_aload_n dL_law_33 rfl rfl ?_
  refine gg_iload dL_law_34 rfl ?_
  refine gl_sld dL_law_36 (by omega) hLn ?_
  rw [Int.toNat_natCast]
  refine gg_bipush dL_law_37 (by decide +kernel) ?_
  refine gg_iand 5 dL_law_39 (by decide +kernel) (q := 32) rfl (by decide) ?_
  have v0 : 0 ≤ (xs i).toInt % 32 ∧ (xs i).toInt % 32 < 32 := by omega
  generalize (xs i).toInt % 32 = v at *
  by_cases ev : v = 0
  · refine gg_tsIn (v := 0) (off := 140) (tgt := 180) dL_law_40 ev ⟨by decide, by decide⟩ (by decide) (by decide) (by decide +kernel) rfl ?_
    refine gg_aload_n dL_law_180 rfl rfl ?_
    refine gg_aload_n dL_law_181 rfl rfl ?_
    refine gg_iload dL_law_182 rfl ?_
    refine gg_iconst dL_law_184 ?_
    refine gg_iadd dL_law_185 ?_
    refine gl_sld dL_law_186 (by omega) hLn ?_
    refine gg_aload_n dL_law_187 rfl rfl ?_
    refine gg_iload dL_law_188 rfl ?_
    refine gg_iconst dL_law_190 ?_
    refine gg_iadd dL_law_191 ?_
    refine gl_sld dL_law_192 (by omega) hLn ?_
    refine gg_aload_n dL_law_193 rfl rfl ?_
    refine gg_iload dL_law_194 rfl ?_
    refine gg_iconst dL_law_196 ?_
    refine gg_iadd dL_law_197 ?_
    refine gl_sld dL_law_198 (by omega) hLn ?_
    refine gg_aload_n dL_law_199 rfl rfl ?_
    refine gg_iload dL_law_200 rfl ?_
    refine gg_iconst dL_law_202 ?_
    refine gg_iadd dL_law_203 ?_
    refine gl_sld dL_law_204 (by omega) hLn ?_
    refine gg_aload_n dL_law_205 rfl rfl ?_
    refine gg_iload dL_law_206 rfl ?_
    refine gg_iconst dL_law_208 ?_
    refine gg_iadd dL_law_209 ?_
    refine gl_sld dL_law_210 (by omega) hLn ?_
    refine gg_callVI (d := 21) gl_rm (gl_ck hck) (av := [_, _, _, _, _]) (M' := mX11_feed) dL_law_211 vX11_feed ml_L_21 (shq (Nat.le_of_ble_eq_true rfl) sh_0) (by decide) rfl rfl rfl rfl (by simp [wtA]) (Clq82 (Cl.mono (pr_feed (by decide) r32x r32x r32x r32x r32x _ rel) ?_))
    rintro _ h1 ⟨r1, rfl, k1⟩
    refine ⟨r1, rfl, ?_⟩
    refine gg_aload_n dL_law_214 rfl rfl ?_
    refine gg_aload_n dL_law_215 rfl rfl ?_
    refine gg_iload dL_law_216 rfl ?_
    refine gg_iconst dL_law_218 ?_
    refine gg_iadd dL_law_219 ?_
    refine gl_sld dL_law_220 (by omega) hLn ?_
    refine gg_aload_n dL_law_221 rfl rfl ?_
    refine gg_iload dL_law_222 rfl ?_
    refine gg_iconst dL_law_224 ?_
    refine gg_iadd dL_law_225 ?_
    refine gl_sld dL_law_226 (by omega) hLn ?_
    refine gg_aload_n dL_law_227 rfl rfl ?_
    refine gg_iload dL_law_228 rfl ?_
    refine gg_iconst dL_law_230 ?_
    refine gg_iadd dL_law_231 ?_
    refine gl_sld dL_law_232 (by omega) hLn ?_
    refine gg_aload_n dL_law_233 rfl rfl ?_
    refine gg_iload dL_law_234 rfl ?_
    refine gg_iconst dL_law_236 ?_
    refine gg_iadd dL_law_237 ?_
    refine gl_sld dL_law_238 (by omega) hLn ?_
    refine gg_aload_n dL_law_239 rfl rfl ?_
    refine gg_iload dL_law_240 rfl ?_
    refine gg_iconst dL_law_242 ?_
    refine gg_iadd dL_law_243 ?_
    refine gl_sld dL_law_244 (by omega) hLn ?_
    refine gg_callVI (d := 21) gl_rm (gl_ck hck) (av := [_, _, _, _, _]) (M' := mX12_feed) dL_law_245 vX12_feed ml_L_25 (shq (Nat.le_of_ble_eq_true rfl) sh_49) (by decide) rfl rfl rfl rfl (by simp [wtA]) (Clq82 (Cl.mono (k1) ?_))
    rintro _ h2 ⟨r2, rfl, er, rel⟩
    refine ⟨r2, rfl, ?_⟩
    subst er
    refine gl_eq (tgt := 1344) dL_law_248 rfl ?_
    exact next _ o5 o6 ck sl (by omega) (by omega) rel
  rename ¬ v = 0 => n0
  by_cases ev : v = 1
  · refine gg_tsIn (v := 1) (off := 213) (tgt := 253) dL_law_40 ev ⟨by decide, by decide⟩ (by decide) (by decide) (by decide +kernel) rfl ?_
    refine gg_aload_n dL_law_253 rfl rfl ?_
    refine gg_aload_n dL_law_254 rfl rfl ?_
    refine gg_iload dL_law_255 rfl ?_
    refine gg_iconst dL_law_257 ?_
    refine gg_iadd dL_law_258 ?_
    refine gl_sld dL_law_259 (by omega) hLn ?_
    refine gg_aload_n dL_law_260 rfl rfl ?_
    refine gg_iload dL_law_261 rfl ?_
    refine gg_iconst dL_law_263 ?_
    refine gg_iadd dL_law_264 ?_
    refine gl_sld dL_law_265 (by omega) hLn ?_
    refine gg_aload_n dL_law_266 rfl rfl ?_
    refine gg_iload dL_law_267 rfl ?_
    refine gg_iconst dL_law_269 ?_
    refine gg_iadd dL_law_270 ?_
    refine gl_sld dL_law_271 (by omega) hLn ?_
    refine gg_callVI (d := 21) gl_rm (gl_ck hck) (av := [_, _, _]) (M' := mX11_wall) dL_law_272 vX11_wall ml_L_26 (shq (Nat.le_of_ble_eq_true rfl) sh_0) (by decide) rfl rfl rfl rfl (by simp [wtA]) (Clq82 (Cl.mono (pr_wall (by decide) r32x r32x r32x _ rel) ?_))
    rintro _ h1 ⟨r1, rfl, k1⟩
    refine ⟨r1, rfl, ?_⟩
    refine gg_aload_n dL_law_275 rfl rfl ?_
    refine gg_aload_n dL_law_276 rfl rfl ?_
    refine gg_iload dL_law_277 rfl ?_
    refine gg_iconst dL_law_279 ?_
    refine gg_iadd dL_law_280 ?_
    refine gl_sld dL_law_281 (by omega) hLn ?_
    refine gg_aload_n dL_law_282 rfl rfl ?_
    refine gg_iload dL_law_283 rfl ?_
    refine gg_iconst dL_law_285 ?_
    refine gg_iadd dL_law_286 ?_
    refine gl_sld dL_law_287 (by omega) hLn ?_
    refine gg_aload_n dL_law_288 rfl rfl ?_
    refine gg_iload dL_law_289 rfl ?_
    refine gg_iconst dL_law_291 ?_
    refine gg_iadd dL_law_292 ?_
    refine gl_sld dL_law_293 (by omega) hLn ?_
    refine gg_callVI (d := 21) gl_rm (gl_ck hck) (av := [_, _, _]) (M' := mX12_wall) dL_law_294 vX12_wall ml_L_30 (shq (Nat.le_of_ble_eq_true rfl) sh_49) (by decide) rfl rfl rfl rfl (by simp [wtA]) (Clq82 (Cl.mono (k1) ?_))
    rintro _ h2 ⟨r2, rfl, er, rel⟩
    refine ⟨r2, rfl, ?_⟩
    subst er
    refine gl_eq (tgt := 1344) dL_law_297 rfl ?_
    exact next _ o5 o6 ck sl (by omega) (by omega) rel
  rename ¬ v = 1 => n1
  by_cases ev : v = 2
  · refine gg_tsIn (v := 2) (off := 262) (tgt := 302) dL_law_40 ev ⟨by decide, by decide⟩ (by decide) (by decide) (by decide +kernel) rfl ?_
    refine gg_aload_n dL_law_302 rfl rfl ?_
    refine gg_aload_n dL_law_303 rfl rfl ?_
    refine gg_iload dL_law_304 rfl ?_
    refine gg_iconst dL_law_306 ?_
    refine gg_iadd dL_law_307 ?_
    refine gl_sld dL_law_308 (by omega) hLn ?_
    refine gg_aload_n dL_law_309 rfl rfl ?_
    refine gg_iload dL_law_310 rfl ?_
    refine gg_iconst dL_law_312 ?_
    refine gg_iadd dL_law_313 ?_
    refine gl_sld dL_law_314 (by omega) hLn ?_
    refine gg_callVI (d := 21) gl_rm (gl_ck hck) (av := [_, _]) (M' := mX11_set) dL_law_315 vX11_set ml_L_31 (shq (Nat.le_of_ble_eq_true rfl) sh_0) (by decide) rfl rfl rfl rfl (by simp [wtA]) (Clq82 (Cl.mono (pr_set (by decide) r32x r32x _ rel) ?_))
    rintro _ h1 ⟨r1, rfl, k1⟩
    refine ⟨r1, rfl, ?_⟩
    refine gg_aload_n dL_law_318 rfl rfl ?_
    refine gg_aload_n dL_law_319 rfl rfl ?_
    refine gg_iload dL_law_320 rfl ?_
    refine gg_iconst dL_law_322 ?_
    refine gg_iadd dL_law_323 ?_
    refine gl_sld dL_law_324 (by omega) hLn ?_
    refine gg_aload_n dL_law_325 rfl rfl ?_
    refine gg_iload dL_law_326 rfl ?_
    refine gg_iconst dL_law_328 ?_
    refine gg_iadd dL_law_329 ?_
    refine gl_sld dL_law_330 (by omega) hLn ?_
    refine gg_callVI (d := 21) gl_rm (gl_ck hck) (av := [_, _]) (M' := mX12_set) dL_law_331 vX12_set ml_L_35 (shq (Nat.le_of_ble_eq_true rfl) sh_49) (by decide) rfl rfl rfl rfl (by simp [wtA]) (Clq82 (Cl.mono (k1) ?_))
    rintro _ h2 ⟨r2, rfl, er, rel⟩
    refine ⟨r2, rfl, ?_⟩
    subst er
    refine gl_eq (tgt := 1344) dL_law_334 rfl ?_
    exact next _ o5 o6 ck sl (by omega) (by omega) rel
  rename ¬ v = 2 => n2
  by_cases ev : v = 3
  · refine gg_tsIn (v := 3) (off := 299) (tgt := 339) dL_law_40 ev ⟨by decide, by decide⟩ (by decide) (by decide) (by decide +kernel) rfl ?_
    refine gg_aload_n dL_law_339 rfl rfl ?_
    refine gg_aload_n dL_law_340 rfl rfl ?_
    refine gg_iload dL_law_341 rfl ?_
    refine gg_iconst dL_law_343 ?_
    refine gg_iadd dL_law_344 ?_
    refine gl_sld dL_law_345 (by omega) hLn ?_
    refine gg_callVI (d := 21) gl_rm (gl_ck hck) (av := [_]) (M' := mX11_draw) dL_law_346 vX11_draw ml_L_36 (shq (Nat.le_of_ble_eq_true rfl) sh_0) (by decide) rfl rfl rfl rfl (by simp [wtA]) (Clq82 (Cl.mono (pr_draw (by decide) r32x _ rel) ?_))
    rintro _ h1 ⟨r1, rfl, k1⟩
    refine ⟨r1, rfl, ?_⟩
    refine gg_aload_n dL_law_349 rfl rfl ?_
    refine gg_aload_n dL_law_350 rfl rfl ?_
    refine gg_iload dL_law_351 rfl ?_
    refine gg_iconst dL_law_353 ?_
    refine gg_iadd dL_law_354 ?_
    refine gl_sld dL_law_355 (by omega) hLn ?_
    refine gg_callVI (d := 21) gl_rm (gl_ck hck) (av := [_]) (M' := mX12_draw) dL_law_356 vX12_draw ml_L_40 (shq (Nat.le_of_ble_eq_true rfl) sh_49) (by decide) rfl rfl rfl rfl (by simp [wtA]) (Clq82 (Cl.mono (k1) ?_))
    rintro _ h2 ⟨r2, rfl, er, rel⟩
    refine ⟨r2, rfl, ?_⟩
    subst er
    refine gl_eq (tgt := 1344) dL_law_359 rfl ?_
    exact next _ o5 o6 ck sl (by omega) (by omega) rel
  rename ¬ v = 3 => n3
  by_cases ev : v = 4
  · refine gg_tsIn (v := 4) (off := 324) (tgt := 364) dL_law_40 ev ⟨by decide, by decide⟩ (by decide) (by decide) (by decide +kernel) rfl ?_
    refine gg_aload_n dL_law_364 rfl rfl ?_
    refine gg_aload_n dL_law_365 rfl rfl ?_
    refine gg_iload dL_law_366 rfl ?_
    refine gg_iconst dL_law_368 ?_
    refine gg_iadd dL_law_369 ?_
    refine gl_sld dL_law_370 (by omega) hLn ?_
    refine gg_callVI (d := 21) gl_rm (gl_ck hck) (av := [_]) (M' := mX11_fault) dL_law_371 vX11_fault ml_L_41 (shq (Nat.le_of_ble_eq_true rfl) sh_0) (by decide) rfl rfl rfl rfl (by simp [wtA]) (Clq82 (Cl.mono (pr_fault (by decide) r32x _ rel) ?_))
    rintro _ h1 ⟨r1, rfl, k1⟩
    refine ⟨r1, rfl, ?_⟩
    refine gg_aload_n dL_law_374 rfl rfl ?_
    refine gg_aload_n dL_law_375 rfl rfl ?_
    refine gg_iload dL_law_376 rfl ?_
    refine gg_iconst dL_law_378 ?_
    refine gg_iadd dL_law_379 ?_
    refine gl_sld dL_law_380 (by omega) hLn ?_
    refine gg_callVI (d := 21) gl_rm (gl_ck hck) (av := [_]) (M' := mX12_fault) dL_law_381 vX12_fault ml_L_44 (shq (Nat.le_of_ble_eq_true rfl) sh_49) (by decide) rfl rfl rfl rfl (by simp [wtA]) (Clq82 (Cl.mono (k1) ?_))
    rintro _ h2 ⟨r2, rfl, er, rel⟩
    refine ⟨r2, rfl, ?_⟩
    subst er
    refine gl_eq (tgt := 1344) dL_law_384 rfl ?_
    exact next _ o5 o6 ck sl (by omega) (by omega) rel
  rename ¬ v = 4 => n4
  by_cases ev : v = 5
  · refine gg_tsIn (v := 5) (off := 349) (tgt := 389) dL_law_40 ev ⟨by decide, by decide⟩ (by decide) (by decide) (by decide +kernel) rfl ?_
    exact look ev
  rename ¬ v = 5 => n5
  by_cases ev : v = 6
  · refine gg_tsIn (v := 6) (off := 417) (tgt := 457) dL_law_40 ev ⟨by decide, by decide⟩ (by decide) (by decide) (by decide +kernel) rfl ?_
    refine gg_aload_n dL_law_457 rfl rfl ?_
    refine gg_aload_n dL_law_458 rfl rfl ?_
    refine gg_iload dL_law_459 rfl ?_
    refine gg_iconst dL_law_461 ?_
    refine gg_iadd dL_law_462 ?_
    refine gl_sld dL_law_463 (by omega) hLn ?_
    refine gg_aload_n dL_law_464 rfl rfl ?_
    refine gg_iload dL_law_465 rfl ?_
    refine gg_iconst dL_law_467 ?_
    refine gg_iadd dL_law_468 ?_
    refine gl_sld dL_law_469 (by omega) hLn ?_
    refine gg_aload_n dL_law_470 rfl rfl ?_
    refine gg_iload dL_law_471 rfl ?_
    refine gg_iconst dL_law_473 ?_
    refine gg_iadd dL_law_474 ?_
    refine gl_sld dL_law_475 (by omega) hLn ?_
    refine gg_callVI (d := 21) gl_rm (gl_ck hck) (av := [_, _, _]) (M' := mX11_steps) dL_law_476 vX11_steps ml_L_55 (shq (Nat.le_of_ble_eq_true rfl) sh_0) (by decide) rfl rfl rfl rfl (by simp [wtA]) (Clq82 (Cl.mono (pr_steps (by decide) r32x r32x r32x _ rel) ?_))
    rintro _ h1 ⟨r1, rfl, k1⟩
    refine ⟨r1, rfl, ?_⟩
    refine gg_aload_n dL_law_479 rfl rfl ?_
    refine gg_aload_n dL_law_480 rfl rfl ?_
    refine gg_iload dL_law_481 rfl ?_
    refine gg_iconst dL_law_483 ?_
    refine gg_iadd dL_law_484 ?_
    refine gl_sld dL_law_485 (by omega) hLn ?_
    refine gg_aload_n dL_law_486 rfl rfl ?_
    refine gg_iload dL_law_487 rfl ?_
    refine gg_iconst dL_law_489 ?_
    refine gg_iadd dL_law_490 ?_
    refine gl_sld dL_law_491 (by omega) hLn ?_
    refine gg_aload_n dL_law_492 rfl rfl ?_
    refine gg_iload dL_law_493 rfl ?_
    refine gg_iconst dL_law_495 ?_
    refine gg_iadd dL_law_496 ?_
    refine gl_sld dL_law_497 (by omega) hLn ?_
    refine gg_callVI (d := 21) gl_rm (gl_ck hck) (av := [_, _, _]) (M' := mX12_steps) dL_law_498 vX12_steps ml_L_59 (shq (Nat.le_of_ble_eq_true rfl) sh_49) (by decide) rfl rfl rfl rfl (by simp [wtA]) (Clq82 (Cl.mono (k1) ?_))
    rintro _ h2 ⟨r2, rfl, er, rel⟩
    refine ⟨r2, rfl, ?_⟩
    subst er
    refine gl_eq (tgt := 1344) dL_law_501 rfl ?_
    exact next _ o5 o6 ck sl (by omega) (by omega) rel
  rename ¬ v = 6 => n6
  by_cases ev : v = 7
  · refine gg_tsIn (v := 7) (off := 466) (tgt := 506) dL_law_40 ev ⟨by decide, by decide⟩ (by decide) (by decide) (by decide +kernel) rfl ?_
    refine gg_aload_n dL_law_506 rfl rfl ?_
    refine gg_aload_n dL_law_507 rfl rfl ?_
    refine gg_iload dL_law_508 rfl ?_
    refine gg_iconst dL_law_510 ?_
    refine gg_iadd dL_law_511 ?_
    refine gl_sld dL_law_512 (by omega) hLn ?_
    refine gg_aload_n dL_law_513 rfl rfl ?_
    refine gg_iload dL_law_514 rfl ?_
    refine gg_iconst dL_law_516 ?_
    refine gg_iadd dL_law_517 ?_
    refine gl_sld dL_law_518 (by omega) hLn ?_
    refine gg_aload_n dL_law_519 rfl rfl ?_
    refine gg_iload dL_law_520 rfl ?_
    refine gg_iconst dL_law_522 ?_
    refine gg_iadd dL_law_523 ?_
    refine gl_sld dL_law_524 (by omega) hLn ?_
    refine gg_callVI (d := 21) gl_rm (gl_ck hck) (av := [_, _, _]) (M' := mX11_place) dL_law_525 vX11_place ml_L_60 (shq (Nat.le_of_ble_eq_true rfl) sh_0) (by decide) rfl rfl rfl rfl (by simp [wtA]) (Clq82 (Cl.mono (pr_place (by decide) r32x r32x r32x _ rel) ?_))
    rintro _ h1 ⟨r1, rfl, k1⟩
    refine ⟨r1, rfl, ?_⟩
    refine gg_aload_n dL_law_528 rfl rfl ?_
    refine gg_aload_n dL_law_529 rfl rfl ?_
    refine gg_iload dL_law_530 rfl ?_
    refine gg_iconst dL_law_532 ?_
    refine gg_iadd dL_law_533 ?_
    refine gl_sld dL_law_534 (by omega) hLn ?_
    refine gg_aload_n dL_law_535 rfl rfl ?_
    refine gg_iload dL_law_536 rfl ?_
    refine gg_iconst dL_law_538 ?_
    refine gg_iadd dL_law_539 ?_
    refine gl_sld dL_law_540 (by omega) hLn ?_
    refine gg_aload_n dL_law_541 rfl rfl ?_
    refine gg_iload dL_law_542 rfl ?_
    refine gg_iconst dL_law_544 ?_
    refine gg_iadd dL_law_545 ?_
    refine gl_sld dL_law_546 (by omega) hLn ?_
    refine gg_callVI (d := 21) gl_rm (gl_ck hck) (av := [_, _, _]) (M' := mX12_place) dL_law_547 vX12_place ml_L_63 (shq (Nat.le_of_ble_eq_true rfl) sh_49) (by decide) rfl rfl rfl rfl (by simp [wtA]) (Clq82 (Cl.mono (k1) ?_))
    rintro _ h2 ⟨r2, rfl, er, rel⟩
    refine ⟨r2, rfl, ?_⟩
    subst er
    refine gl_eq (tgt := 1344) dL_law_550 rfl ?_
    exact next _ o5 o6 ck sl (by omega) (by omega) rel
  rename ¬ v = 7 => n7
  by_cases ev : v = 8
  · refine gg_tsIn (v := 8) (off := 515) (tgt := 555) dL_law_40 ev ⟨by decide, by decide⟩ (by decide) (by decide) (by decide +kernel) rfl ?_
    refine gg_aload_n dL_law_555 rfl rfl ?_
    refine gg_aload_n dL_law_556 rfl rfl ?_
    refine gg_iload dL_law_557 rfl ?_
    refine gg_iconst dL_law_559 ?_
    refine gg_iadd dL_law_560 ?_
    refine gl_sld dL_law_561 (by omega) hLn ?_
    refine gg_aload_n dL_law_562 rfl rfl ?_
    refine gg_iload dL_law_563 rfl ?_
    refine gg_iconst dL_law_565 ?_
    refine gg_iadd dL_law_566 ?_
    refine gl_sld dL_law_567 (by omega) hLn ?_
    refine gg_callVI (d := 21) gl_rm (gl_ck hck) (av := [_, _]) (M' := mX11_grain) dL_law_568 vX11_grain ml_L_64 (shq (Nat.le_of_ble_eq_true rfl) sh_0) (by decide) rfl rfl rfl rfl (by simp [wtA]) (Clq82 (Cl.mono (pr_grain (by decide) r32x r32x _ rel) ?_))
    rintro _ h1 ⟨r1, rfl, k1⟩
    refine ⟨r1, rfl, ?_⟩
    refine gg_aload_n dL_law_571 rfl rfl ?_
    refine gg_aload_n dL_law_572 rfl rfl ?_
    refine gg_iload dL_law_573 rfl ?_
    refine gg_iconst dL_law_575 ?_
    refine gg_iadd dL_law_576 ?_
    refine gl_sld dL_law_577 (by omega) hLn ?_
    refine gg_aload_n dL_law_578 rfl rfl ?_
    refine gg_iload dL_law_579 rfl ?_
    refine gg_iconst dL_law_581 ?_
    refine gg_iadd dL_law_582 ?_
    refine gl_sld dL_law_583 (by omega) hLn ?_
    refine gg_callVI (d := 21) gl_rm (gl_ck hck) (av := [_, _]) (M' := mX12_grain) dL_law_584 vX12_grain ml_L_67 (shq (Nat.le_of_ble_eq_true rfl) sh_49) (by decide) rfl rfl rfl rfl (by simp [wtA]) (Clq82 (Cl.mono (k1) ?_))
    rintro _ h2 ⟨r2, rfl, er, rel⟩
    refine ⟨r2, rfl, ?_⟩
    subst er
    refine gl_eq (tgt := 1344) dL_law_587 rfl ?_
    exact next _ o5 o6 ck sl (by omega) (by omega) rel
  rename ¬ v = 8 => n8
  by_cases ev : v = 9
  · refine gg_tsIn (v := 9) (off := 552) (tgt := 592) dL_law_40 ev ⟨by decide, by decide⟩ (by decide) (by decide) (by decide +kernel) rfl ?_
    refine gg_aload_n dL_law_592 rfl rfl ?_
    refine gg_aload_n dL_law_593 rfl rfl ?_
    refine gg_iload dL_law_594 rfl ?_
    refine gg_iconst dL_law_596 ?_
    refine gg_iadd dL_law_597 ?_
    refine gl_sld dL_law_598 (by omega) hLn ?_
    refine gg_aload_n dL_law_599 rfl rfl ?_
    refine gg_iload dL_law_600 rfl ?_
    refine gg_iconst dL_law_602 ?_
    refine gg_iadd dL_law_603 ?_
    refine gl_sld dL_law_604 (by omega) hLn ?_
    refine gg_aload_n dL_law_605 rfl rfl ?_
    refine gg_iload dL_law_606 rfl ?_
    refine gg_iconst dL_law_608 ?_
    refine gg_iadd dL_law_609 ?_
    refine gl_sld dL_law_610 (by omega) hLn ?_
    refine gg_callVI (d := 21) gl_rm (gl_ck hck) (av := [_, _, _]) (M' := mX11_pull) dL_law_611 vX11_pull ml_L_68 (shq (Nat.le_of_ble_eq_true rfl) sh_0) (by decide) rfl rfl rfl rfl (by simp [wtA]) (Clq82 (Cl.mono (pr_pull (by decide) r32x r32x r32x _ rel) ?_))
    rintro _ h1 ⟨r1, rfl, k1⟩
    refine ⟨r1, rfl, ?_⟩
    refine gg_aload_n dL_law_614 rfl rfl ?_
    refine gg_aload_n dL_law_615 rfl rfl ?_
    refine gg_iload dL_law_616 rfl ?_
    refine gg_iconst dL_law_618 ?_
    refine gg_iadd dL_law_619 ?_
    refine gl_sld dL_law_620 (by omega) hLn ?_
    refine gg_aload_n dL_law_621 rfl rfl ?_
    refine gg_iload dL_law_622 rfl ?_
    refine gg_iconst dL_law_624 ?_
    refine gg_iadd dL_law_625 ?_
    refine gl_sld dL_law_626 (by omega) hLn ?_
    refine gg_aload_n dL_law_627 rfl rfl ?_
    refine gg_iload dL_law_628 rfl ?_
    refine gg_iconst dL_law_630 ?_
    refine gg_iadd dL_law_631 ?_
    refine gl_sld dL_law_632 (by omega) hLn ?_
    refine gg_callVI (d := 21) gl_rm (gl_ck hck) (av := [_, _, _]) (M' := mX12_pull) dL_law_633 vX12_pull ml_L_71 (shq (Nat.le_of_ble_eq_true rfl) sh_49) (by decide) rfl rfl rfl rfl (by simp [wtA]) (Clq82 (Cl.mono (k1) ?_))
    rintro _ h2 ⟨r2, rfl, er, rel⟩
    refine ⟨r2, rfl, ?_⟩
    subst er
    refine gl_eq (tgt := 1344) dL_law_636 rfl ?_
    exact next _ o5 o6 ck sl (by omega) (by omega) rel
  rename ¬ v = 9 => n9
  by_cases ev : v = 10
  · refine gg_tsIn (v := 10) (off := 601) (tgt := 641) dL_law_40 ev ⟨by decide, by decide⟩ (by decide) (by decide) (by decide +kernel) rfl ?_
    refine gg_aload_n dL_law_641 rfl rfl ?_
    refine gg_callVI (d := 21) gl_rm (gl_ck hck) (av := []) (M' := mX11_reach) dL_law_642 vX11_reach ml_L_72 (shq (Nat.le_of_ble_eq_true rfl) sh_0) (by decide) rfl rfl rfl rfl (by simp [wtA]) (Clq82 (Cl.mono (pr_reach (by decide) _ rel) ?_))
    rintro _ h1 ⟨r1, rfl, k1⟩
    refine ⟨r1, rfl, ?_⟩
    refine gg_aload_n dL_law_645 rfl rfl ?_
    refine gg_callVI (d := 21) gl_rm (gl_ck hck) (av := []) (M' := mX12_reach) dL_law_646 vX12_reach ml_L_75 (shq (Nat.le_of_ble_eq_true rfl) sh_49) (by decide) rfl rfl rfl rfl (by simp [wtA]) (Clq82 (Cl.mono (k1) ?_))
    rintro _ h2 ⟨r2, rfl, er, rel⟩
    refine ⟨r2, rfl, ?_⟩
    subst er
    refine gl_eq (tgt := 1344) dL_law_649 rfl ?_
    exact next _ o5 o6 ck sl (by omega) (by omega) rel
  rename ¬ v = 10 => n10
  by_cases ev : v = 11
  · refine gg_tsIn (v := 11) (off := 614) (tgt := 654) dL_law_40 ev ⟨by decide, by decide⟩ (by decide) (by decide) (by decide +kernel) rfl ?_
    refine gg_aload_n dL_law_654 rfl rfl ?_
    refine gg_aload_n dL_law_655 rfl rfl ?_
    refine gg_iload dL_law_656 rfl ?_
    refine gg_iconst dL_law_658 ?_
    refine gg_iadd dL_law_659 ?_
    refine gl_sld dL_law_660 (by omega) hLn ?_
    refine gg_callVI (d := 21) gl_rm (gl_ck hck) (av := [_]) (M' := mX11_sag) dL_law_661 vX11_sag ml_L_76 (shq (Nat.le_of_ble_eq_true rfl) sh_0) (by decide) rfl rfl rfl rfl (by simp [wtA]) (Clq82 (Cl.mono (pr_sag (by decide) r32x _ rel) ?_))
    rintro _ h1 ⟨r1, rfl, k1⟩
    refine ⟨r1, rfl, ?_⟩
    refine gg_aload_n dL_law_664 rfl rfl ?_
    refine gg_aload_n dL_law_665 rfl rfl ?_
    refine gg_iload dL_law_666 rfl ?_
    refine gg_iconst dL_law_668 ?_
    refine gg_iadd dL_law_669 ?_
    refine gl_sld dL_law_670 (by omega) hLn ?_
    refine gg_callVI (d := 21) gl_rm (gl_ck hck) (av := [_]) (M' := mX12_sag) dL_law_671 vX12_sag ml_L_79 (shq (Nat.le_of_ble_eq_true rfl) sh_49) (by decide) rfl rfl rfl rfl (by simp [wtA]) (Clq82 (Cl.mono (k1) ?_))
    rintro _ h2 ⟨r2, rfl, er, rel⟩
    refine ⟨r2, rfl, ?_⟩
    subst er
    refine gl_eq (tgt := 1344) dL_law_674 rfl ?_
    exact next _ o5 o6 ck sl (by omega) (by omega) rel
  rename ¬ v = 11 => n11
  by_cases ev : v = 12
  · refine gg_tsIn (v := 12) (off := 639) (tgt := 679) dL_law_40 ev ⟨by decide, by decide⟩ (by decide) (by decide) (by decide +kernel) rfl ?_
    refine gg_aload_n dL_law_679 rfl rfl ?_
    refine gg_aload_n dL_law_680 rfl rfl ?_
    refine gg_iload dL_law_681 rfl ?_
    refine gg_iconst dL_law_683 ?_
    refine gg_iadd dL_law_684 ?_
    refine gl_sld dL_law_685 (by omega) hLn ?_
    refine gg_aload_n dL_law_686 rfl rfl ?_
    refine gg_iload dL_law_687 rfl ?_
    refine gg_iconst dL_law_689 ?_
    refine gg_iadd dL_law_690 ?_
    refine gl_sld dL_law_691 (by omega) hLn ?_
    refine gg_callVI (d := 21) gl_rm (gl_ck hck) (av := [_, _]) (M' := mX11_parts) dL_law_692 vX11_parts ml_L_80 (shq (Nat.le_of_ble_eq_true rfl) sh_0) (by decide) rfl rfl rfl rfl (by simp [wtA]) (Clq82 (Cl.mono (pr_parts (by decide) r32x r32x _ rel) ?_))
    rintro _ h1 ⟨r1, rfl, k1⟩
    refine ⟨r1, rfl, ?_⟩
    refine gg_aload_n dL_law_695 rfl rfl ?_
    refine gg_aload_n dL_law_696 rfl rfl ?_
    refine gg_iload dL_law_697 rfl ?_
    refine gg_iconst dL_law_699 ?_
    refine gg_iadd dL_law_700 ?_
    refine gl_sld dL_law_701 (by omega) hLn ?_
    refine gg_aload_n dL_law_702 rfl rfl ?_
    refine gg_iload dL_law_703 rfl ?_
    refine gg_iconst dL_law_705 ?_
    refine gg_iadd dL_law_706 ?_
    refine gl_sld dL_law_707 (by omega) hLn ?_
    refine gg_callVI (d := 21) gl_rm (gl_ck hck) (av := [_, _]) (M' := mX12_parts) dL_law_708 vX12_parts ml_L_83 (shq (Nat.le_of_ble_eq_true rfl) sh_49) (by decide) rfl rfl rfl rfl (by simp [wtA]) (Clq82 (Cl.mono (k1) ?_))
    rintro _ h2 ⟨r2, rfl, er, rel⟩
    refine ⟨r2, rfl, ?_⟩
    subst er
    refine gl_eq (tgt := 1344) dL_law_711 rfl ?_
    exact next _ o5 o6 ck sl (by omega) (by omega) rel
  rename ¬ v = 12 => n12
  by_cases ev : v = 13
  · refine gg_tsIn (v := 13) (off := 676) (tgt := 716) dL_law_40 ev ⟨by decide, by decide⟩ (by decide) (by decide) (by decide +kernel) rfl ?_
    refine gg_aload_n dL_law_716 rfl rfl ?_
    refine gg_aload_n dL_law_717 rfl rfl ?_
    refine gg_iload dL_law_718 rfl ?_
    refine gg_iconst dL_law_720 ?_
    refine gg_iadd dL_law_721 ?_
    refine gl_sld dL_law_722 (by omega) hLn ?_
    refine gg_callVI (d := 21) gl_rm (gl_ck hck) (av := [_]) (M' := mX11_skips) dL_law_723 vX11_skips ml_L_84 (shq (Nat.le_of_ble_eq_true rfl) sh_0) (by decide) rfl rfl rfl rfl (by simp [wtA]) (Clq82 (Cl.mono (pr_skips (by decide) r32x _ rel) ?_))
    rintro _ h1 ⟨r1, rfl, k1⟩
    refine ⟨r1, rfl, ?_⟩
    refine gg_aload_n dL_law_726 rfl rfl ?_
    refine gg_aload_n dL_law_727 rfl rfl ?_
    refine gg_iload dL_law_728 rfl ?_
    refine gg_iconst dL_law_730 ?_
    refine gg_iadd dL_law_731 ?_
    refine gl_sld dL_law_732 (by omega) hLn ?_
    refine gg_callVI (d := 21) gl_rm (gl_ck hck) (av := [_]) (M' := mX12_skips) dL_law_733 vX12_skips ml_L_87 (shq (Nat.le_of_ble_eq_true rfl) sh_49) (by decide) rfl rfl rfl rfl (by simp [wtA]) (Clq82 (Cl.mono (k1) ?_))
    rintro _ h2 ⟨r2, rfl, er, rel⟩
    refine ⟨r2, rfl, ?_⟩
    subst er
    refine gl_eq (tgt := 1344) dL_law_736 rfl ?_
    exact next _ o5 o6 ck sl (by omega) (by omega) rel
  rename ¬ v = 13 => n13
  by_cases ev : v = 14
  · refine gg_tsIn (v := 14) (off := 701) (tgt := 741) dL_law_40 ev ⟨by decide, by decide⟩ (by decide) (by decide) (by decide +kernel) rfl ?_
    refine gg_aload_n dL_law_741 rfl rfl ?_
    refine gg_aload_n dL_law_742 rfl rfl ?_
    refine gg_iload dL_law_743 rfl ?_
    refine gg_iconst dL_law_745 ?_
    refine gg_iadd dL_law_746 ?_
    refine gl_sld dL_law_747 (by omega) hLn ?_
    refine gg_callVI (d := 21) gl_rm (gl_ck hck) (av := [_]) (M' := mX11_ticks) dL_law_748 vX11_ticks ml_L_88 (shq (Nat.le_of_ble_eq_true rfl) sh_0) (by decide) rfl rfl rfl rfl (by simp [wtA]) (Clq82 (Cl.mono (pr_ticks (by decide) r32x _ rel) ?_))
    rintro _ h1 ⟨r1, rfl, k1⟩
    refine ⟨r1, rfl, ?_⟩
    refine gg_aload_n dL_law_751 rfl rfl ?_
    refine gg_aload_n dL_law_752 rfl rfl ?_
    refine gg_iload dL_law_753 rfl ?_
    refine gg_iconst dL_law_755 ?_
    refine gg_iadd dL_law_756 ?_
    refine gl_sld dL_law_757 (by omega) hLn ?_
    refine gg_callVI (d := 21) gl_rm (gl_ck hck) (av := [_]) (M' := mX12_ticks) dL_law_758 vX12_ticks ml_L_91 (shq (Nat.le_of_ble_eq_true rfl) sh_49) (by decide) rfl rfl rfl rfl (by simp [wtA]) (Clq82 (Cl.mono (k1) ?_))
    rintro _ h2 ⟨r2, rfl, er, rel⟩
    refine ⟨r2, rfl, ?_⟩
    subst er
    refine gl_eq (tgt := 1344) dL_law_761 rfl ?_
    exact next _ o5 o6 ck sl (by omega) (by omega) rel
  rename ¬ v = 14 => n14
  by_cases ev : v = 15
  · refine gg_tsIn (v := 15) (off := 726) (tgt := 766) dL_law_40 ev ⟨by decide, by decide⟩ (by decide) (by decide) (by decide +kernel) rfl ?_
    refine gg_aload_n dL_law_766 rfl rfl ?_
    refine gg_aload_n dL_law_767 rfl rfl ?_
    refine gg_iload dL_law_768 rfl ?_
    refine gg_iconst dL_law_770 ?_
    refine gg_iadd dL_law_771 ?_
    refine gl_sld dL_law_772 (by omega) hLn ?_
    refine gg_aload_n dL_law_773 rfl rfl ?_
    refine gg_iload dL_law_774 rfl ?_
    refine gg_iconst dL_law_776 ?_
    refine gg_iadd dL_law_777 ?_
    refine gl_sld dL_law_778 (by omega) hLn ?_
    refine gg_aload_n dL_law_779 rfl rfl ?_
    refine gg_iload dL_law_780 rfl ?_
    refine gg_iconst dL_law_782 ?_
    refine gg_iadd dL_law_783 ?_
    refine gl_sld dL_law_784 (by omega) hLn ?_
    refine gg_callVI (d := 21) gl_rm (gl_ck hck) (av := [_, _, _]) (M' := mX11_miss) dL_law_785 vX11_miss ml_L_92 (shq (Nat.le_of_ble_eq_true rfl) sh_0) (by decide) rfl rfl rfl rfl (by simp [wtA]) (Clq82 (Cl.mono (pr_miss (by decide) r32x r32x r32x _ rel) ?_))
    rintro _ h1 ⟨r1, rfl, k1⟩
    refine ⟨r1, rfl, ?_⟩
    refine gg_aload_n dL_law_788 rfl rfl ?_
    refine gg_aload_n dL_law_789 rfl rfl ?_
    refine gg_iload dL_law_790 rfl ?_
    refine gg_iconst dL_law_792 ?_
    refine gg_iadd dL_law_793 ?_
    refine gl_sld dL_law_794 (by omega) hLn ?_
    refine gg_aload_n dL_law_795 rfl rfl ?_
    refine gg_iload dL_law_796 rfl ?_
    refine gg_iconst dL_law_798 ?_
    refine gg_iadd dL_law_799 ?_
    refine gl_sld dL_law_800 (by omega) hLn ?_
    refine gg_aload_n dL_law_801 rfl rfl ?_
    refine gg_iload dL_law_802 rfl ?_
    refine gg_iconst dL_law_804 ?_
    refine gg_iadd dL_law_805 ?_
    refine gl_sld dL_law_806 (by omega) hLn ?_
    refine gg_callVI (d := 21) gl_rm (gl_ck hck) (av := [_, _, _]) (M' := mX12_miss) dL_law_807 vX12_miss ml_L_95 (shq (Nat.le_of_ble_eq_true rfl) sh_49) (by decide) rfl rfl rfl rfl (by simp [wtA]) (Clq82 (Cl.mono (k1) ?_))
    rintro _ h2 ⟨r2, rfl, er, rel⟩
    refine ⟨r2, rfl, ?_⟩
    subst er
    refine gl_eq (tgt := 1344) dL_law_810 rfl ?_
    exact next _ o5 o6 ck sl (by omega) (by omega) rel
  rename ¬ v = 15 => n15
  by_cases ev : v = 16
  · refine gg_tsIn (v := 16) (off := 775) (tgt := 815) dL_law_40 ev ⟨by decide, by decide⟩ (by decide) (by decide) (by decide +kernel) rfl ?_
    refine gg_aload_n dL_law_815 rfl rfl ?_
    refine gg_aload_n dL_law_816 rfl rfl ?_
    refine gg_iload dL_law_817 rfl ?_
    refine gg_iconst dL_law_819 ?_
    refine gg_iadd dL_law_820 ?_
    refine gl_sld dL_law_821 (by omega) hLn ?_
    refine gg_aload_n dL_law_822 rfl rfl ?_
    refine gg_iload dL_law_823 rfl ?_
    refine gg_iconst dL_law_825 ?_
    refine gg_iadd dL_law_826 ?_
    refine gl_sld dL_law_827 (by omega) hLn ?_
    refine gg_callVI (d := 21) gl_rm (gl_ck hck) (av := [_, _]) (M' := mX11_real) dL_law_828 vX11_real ml_L_96 (shq (Nat.le_of_ble_eq_true rfl) sh_0) (by decide) rfl rfl rfl rfl (by simp [wtA]) (Clq82 (Cl.mono (pr_real (by decide) r32x r32x _ rel) ?_))
    rintro _ h1 ⟨r1, rfl, k1⟩
    refine ⟨r1, rfl, ?_⟩
    refine gg_aload_n dL_law_831 rfl rfl ?_
    refine gg_aload_n dL_law_832 rfl rfl ?_
    refine gg_iload dL_law_833 rfl ?_
    refine gg_iconst dL_law_835 ?_
    refine gg_iadd dL_law_836 ?_
    refine gl_sld dL_law_837 (by omega) hLn ?_
    refine gg_aload_n dL_law_838 rfl rfl ?_
    refine gg_iload dL_law_839 rfl ?_
    refine gg_iconst dL_law_841 ?_
    refine gg_iadd dL_law_842 ?_
    refine gl_sld dL_law_843 (by omega) hLn ?_
    refine gg_callVI (d := 21) gl_rm (gl_ck hck) (av := [_, _]) (M' := mX12_real) dL_law_844 vX12_real ml_L_99 (shq (Nat.le_of_ble_eq_true rfl) sh_49) (by decide) rfl rfl rfl rfl (by simp [wtA]) (Clq82 (Cl.mono (k1) ?_))
    rintro _ h2 ⟨r2, rfl, er, rel⟩
    refine ⟨r2, rfl, ?_⟩
    subst er
    refine gl_eq (tgt := 1344) dL_law_847 rfl ?_
    exact next _ o5 o6 ck sl (by omega) (by omega) rel
  rename ¬ v = 16 => n16
  by_cases ev : v = 17
  · refine gg_tsIn (v := 17) (off := 812) (tgt := 852) dL_law_40 ev ⟨by decide, by decide⟩ (by decide) (by decide) (by decide +kernel) rfl ?_
    refine gg_aload_n dL_law_852 rfl rfl ?_
    refine gg_aload_n dL_law_853 rfl rfl ?_
    refine gg_iload dL_law_854 rfl ?_
    refine gg_iconst dL_law_856 ?_
    refine gg_iadd dL_law_857 ?_
    refine gl_sld dL_law_858 (by omega) hLn ?_
    refine gg_aload_n dL_law_859 rfl rfl ?_
    refine gg_iload dL_law_860 rfl ?_
    refine gg_iconst dL_law_862 ?_
    refine gg_iadd dL_law_863 ?_
    refine gl_sld dL_law_864 (by omega) hLn ?_
    refine gg_aload_n dL_law_865 rfl rfl ?_
    refine gg_iload dL_law_866 rfl ?_
    refine gg_iconst dL_law_868 ?_
    refine gg_iadd dL_law_869 ?_
    refine gl_sld dL_law_870 (by omega) hLn ?_
    refine gg_callVI (d := 21) gl_rm (gl_ck hck) (av := [_, _, _]) (M' := mX11_seen) dL_law_871 vX11_seen ml_L_100 (shq (Nat.le_of_ble_eq_true rfl) sh_0) (by decide) rfl rfl rfl rfl (by simp [wtA]) (Clq82 (Cl.mono (pr_seen (by decide) r32x r32x r32x _ rel) ?_))
    rintro _ h1 ⟨r1, rfl, k1⟩
    refine ⟨r1, rfl, ?_⟩
    refine gg_aload_n dL_law_874 rfl rfl ?_
    refine gg_aload_n dL_law_875 rfl rfl ?_
    refine gg_iload dL_law_876 rfl ?_
    refine gg_iconst dL_law_878 ?_
    refine gg_iadd dL_law_879 ?_
    refine gl_sld dL_law_880 (by omega) hLn ?_
    refine gg_aload_n dL_law_881 rfl rfl ?_
    refine gg_iload dL_law_882 rfl ?_
    refine gg_iconst dL_law_884 ?_
    refine gg_iadd dL_law_885 ?_
    refine gl_sld dL_law_886 (by omega) hLn ?_
    refine gg_aload_n dL_law_887 rfl rfl ?_
    refine gg_iload dL_law_888 rfl ?_
    refine gg_iconst dL_law_890 ?_
    refine gg_iadd dL_law_891 ?_
    refine gl_sld dL_law_892 (by omega) hLn ?_
    refine gg_callVI (d := 21) gl_rm (gl_ck hck) (av := [_, _, _]) (M' := mX12_seen) dL_law_893 vX12_seen ml_L_103 (shq (Nat.le_of_ble_eq_true rfl) sh_49) (by decide) rfl rfl rfl rfl (by simp [wtA]) (Clq82 (Cl.mono (k1) ?_))
    rintro _ h2 ⟨r2, rfl, er, rel⟩
    refine ⟨r2, rfl, ?_⟩
    subst er
    refine gl_eq (tgt := 1344) dL_law_896 rfl ?_
    exact next _ o5 o6 ck sl (by omega) (by omega) rel
  rename ¬ v = 17 => n17
  by_cases ev : v = 18
  · refine gg_tsIn (v := 18) (off := 861) (tgt := 901) dL_law_40 ev ⟨by decide, by decide⟩ (by decide) (by decide) (by decide +kernel) rfl ?_
    refine gg_aload_n dL_law_901 rfl rfl ?_
    refine gg_callVI (d := 21) gl_rm (gl_ck hck) (av := []) (M' := mX11_forget) dL_law_902 vX11_forget ml_L_104 (shq (Nat.le_of_ble_eq_true rfl) sh_0) (by decide) rfl rfl rfl rfl (by simp [wtA]) (Clq82 (Cl.mono (pr_forget (by decide) _ rel) ?_))
    rintro _ h1 ⟨r1, rfl, k1⟩
    refine ⟨r1, rfl, ?_⟩
    refine gg_aload_n dL_law_905 rfl rfl ?_
    refine gg_callVI (d := 21) gl_rm (gl_ck hck) (av := []) (M' := mX12_forget) dL_law_906 vX12_forget ml_L_107 (shq (Nat.le_of_ble_eq_true rfl) sh_49) (by decide) rfl rfl rfl rfl (by simp [wtA]) (Clq82 (Cl.mono (k1) ?_))
    rintro _ h2 ⟨r2, rfl, er, rel⟩
    refine ⟨r2, rfl, ?_⟩
    subst er
    refine gl_eq (tgt := 1344) dL_law_909 rfl ?_
    exact next _ o5 o6 ck sl (by omega) (by omega) rel
  rename ¬ v = 18 => n18
  by_cases ev : v = 19
  · refine gg_tsIn (v := 19) (off := 874) (tgt := 914) dL_law_40 ev ⟨by decide, by decide⟩ (by decide) (by decide) (by decide +kernel) rfl ?_
    refine gg_aload_n dL_law_914 rfl rfl ?_
    refine gg_aload_n dL_law_915 rfl rfl ?_
    refine gg_iload dL_law_916 rfl ?_
    refine gg_iconst dL_law_918 ?_
    refine gg_iadd dL_law_919 ?_
    refine gl_sld dL_law_920 (by omega) hLn ?_
    refine gg_aload_n dL_law_921 rfl rfl ?_
    refine gg_iload dL_law_922 rfl ?_
    refine gg_iconst dL_law_924 ?_
    refine gg_iadd dL_law_925 ?_
    refine gl_sld dL_law_926 (by omega) hLn ?_
    refine gg_callVI (d := 21) gl_rm (gl_ck hck) (av := [_, _]) (M' := mX11_found) dL_law_927 vX11_found ml_L_108 (shq (Nat.le_of_ble_eq_true rfl) sh_0) (by decide) rfl rfl rfl rfl (by simp [wtA]) (Clq82 (Cl.mono (pr_found (by decide) r32x r32x _ rel) ?_))
    rintro _ h1 ⟨r1, rfl, k1⟩
    refine ⟨r1, rfl, ?_⟩
    refine gg_aload_n dL_law_930 rfl rfl ?_
    refine gg_aload_n dL_law_931 rfl rfl ?_
    refine gg_iload dL_law_932 rfl ?_
    refine gg_iconst dL_law_934 ?_
    refine gg_iadd dL_law_935 ?_
    refine gl_sld dL_law_936 (by omega) hLn ?_
    refine gg_aload_n dL_law_937 rfl rfl ?_
    refine gg_iload dL_law_938 rfl ?_
    refine gg_iconst dL_law_940 ?_
    refine gg_iadd dL_law_941 ?_
    refine gl_sld dL_law_942 (by omega) hLn ?_
    refine gg_callVI (d := 21) gl_rm (gl_ck hck) (av := [_, _]) (M' := mX12_found) dL_law_943 vX12_found ml_L_111 (shq (Nat.le_of_ble_eq_true rfl) sh_49) (by decide) rfl rfl rfl rfl (by simp [wtA]) (Clq82 (Cl.mono (k1) ?_))
    rintro _ h2 ⟨r2, rfl, er, rel⟩
    refine ⟨r2, rfl, ?_⟩
    subst er
    refine gl_eq (tgt := 1344) dL_law_946 rfl ?_
    exact next _ o5 o6 ck sl (by omega) (by omega) rel
  rename ¬ v = 19 => n19
  by_cases ev : v = 20
  · refine gg_tsIn (v := 20) (off := 911) (tgt := 951) dL_law_40 ev ⟨by decide, by decide⟩ (by decide) (by decide) (by decide +kernel) rfl ?_
    refine gg_aload_n dL_law_951 rfl rfl ?_
    refine gg_aload_n dL_law_952 rfl rfl ?_
    refine gg_iload dL_law_953 rfl ?_
    refine gg_iconst dL_law_955 ?_
    refine gg_iadd dL_law_956 ?_
    refine gl_sld dL_law_957 (by omega) hLn ?_
    refine gg_aload_n dL_law_958 rfl rfl ?_
    refine gg_iload dL_law_959 rfl ?_
    refine gg_iconst dL_law_961 ?_
    refine gg_iadd dL_law_962 ?_
    refine gl_sld dL_law_963 (by omega) hLn ?_
    refine gg_aload_n dL_law_964 rfl rfl ?_
    refine gg_iload dL_law_965 rfl ?_
    refine gg_iconst dL_law_967 ?_
    refine gg_iadd dL_law_968 ?_
    refine gl_sld dL_law_969 (by omega) hLn ?_
    refine gg_callVI (d := 21) gl_rm (gl_ck hck) (av := [_, _, _]) (M' := mX11_mended) dL_law_970 vX11_mended ml_L_112 (shq (Nat.le_of_ble_eq_true rfl) sh_0) (by decide) rfl rfl rfl rfl (by simp [wtA]) (Clq82 (Cl.mono (pr_mended (by decide) r32x r32x r32x _ rel) ?_))
    rintro _ h1 ⟨r1, rfl, k1⟩
    refine ⟨r1, rfl, ?_⟩
    refine gg_aload_n dL_law_973 rfl rfl ?_
    refine gg_aload_n dL_law_974 rfl rfl ?_
    refine gg_iload dL_law_975 rfl ?_
    refine gg_iconst dL_law_977 ?_
    refine gg_iadd dL_law_978 ?_
    refine gl_sld dL_law_979 (by omega) hLn ?_
    refine gg_aload_n dL_law_980 rfl rfl ?_
    refine gg_iload dL_law_981 rfl ?_
    refine gg_iconst dL_law_983 ?_
    refine gg_iadd dL_law_984 ?_
    refine gl_sld dL_law_985 (by omega) hLn ?_
    refine gg_aload_n dL_law_986 rfl rfl ?_
    refine gg_iload dL_law_987 rfl ?_
    refine gg_iconst dL_law_989 ?_
    refine gg_iadd dL_law_990 ?_
    refine gl_sld dL_law_991 (by omega) hLn ?_
    refine gg_callVI (d := 21) gl_rm (gl_ck hck) (av := [_, _, _]) (M' := mX12_mended) dL_law_992 vX12_mended ml_L_115 (shq (Nat.le_of_ble_eq_true rfl) sh_49) (by decide) rfl rfl rfl rfl (by simp [wtA]) (Clq82 (Cl.mono (k1) ?_))
    rintro _ h2 ⟨r2, rfl, er, rel⟩
    refine ⟨r2, rfl, ?_⟩
    subst er
    refine gl_eq (tgt := 1344) dL_law_995 rfl ?_
    exact next _ o5 o6 ck sl (by omega) (by omega) rel
  rename ¬ v = 20 => n20
  by_cases ev : v = 21
  · refine gg_tsIn (v := 21) (off := 960) (tgt := 1000) dL_law_40 ev ⟨by decide, by decide⟩ (by decide) (by decide) (by decide +kernel) rfl ?_
    refine gg_aload_n dL_law_1000 rfl rfl ?_
    refine gg_callVI (d := 21) gl_rm (gl_ck hck) (av := []) (M' := mX11_other) dL_law_1001 vX11_other ml_L_116 (shq (Nat.le_of_ble_eq_true rfl) sh_0) (by decide) rfl rfl rfl rfl (by simp [wtA]) (Clq82 (Cl.mono (pr_other (by decide) _ rel) ?_))
    rintro _ h1 ⟨r1, rfl, k1⟩
    refine ⟨r1, rfl, ?_⟩
    refine gg_aload_n dL_law_1004 rfl rfl ?_
    refine gg_callVI (d := 21) gl_rm (gl_ck hck) (av := []) (M' := mX12_other) dL_law_1005 vX12_other ml_L_119 (shq (Nat.le_of_ble_eq_true rfl) sh_49) (by decide) rfl rfl rfl rfl (by simp [wtA]) (Clq82 (Cl.mono (k1) ?_))
    rintro _ h2 ⟨r2, rfl, er, rel⟩
    refine ⟨r2, rfl, ?_⟩
    subst er
    refine gl_eq (tgt := 1344) dL_law_1008 rfl ?_
    exact next _ o5 o6 ck sl (by omega) (by omega) rel
  rename ¬ v = 21 => n21
  by_cases ev : v = 22
  · refine gg_tsIn (v := 22) (off := 973) (tgt := 1013) dL_law_40 ev ⟨by decide, by decide⟩ (by decide) (by decide) (by decide +kernel) rfl ?_
    refine gg_aload_n dL_law_1013 rfl rfl ?_
    refine gg_aload_n dL_law_1014 rfl rfl ?_
    refine gg_iload dL_law_1015 rfl ?_
    refine gg_iconst dL_law_1017 ?_
    refine gg_iadd dL_law_1018 ?_
    refine gl_sld dL_law_1019 (by omega) hLn ?_
    refine gg_aload_n dL_law_1020 rfl rfl ?_
    refine gg_iload dL_law_1021 rfl ?_
    refine gg_iconst dL_law_1023 ?_
    refine gg_iadd dL_law_1024 ?_
    refine gl_sld dL_law_1025 (by omega) hLn ?_
    refine gg_aload_n dL_law_1026 rfl rfl ?_
    refine gg_iload dL_law_1027 rfl ?_
    refine gg_iconst dL_law_1029 ?_
    refine gg_iadd dL_law_1030 ?_
    refine gl_sld dL_law_1031 (by omega) hLn ?_
    refine gg_aload_n dL_law_1032 rfl rfl ?_
    refine gg_iload dL_law_1033 rfl ?_
    refine gg_iconst dL_law_1035 ?_
    refine gg_iadd dL_law_1036 ?_
    refine gl_sld dL_law_1037 (by omega) hLn ?_
    refine gg_callVI (d := 21) gl_rm (gl_ck hck) (av := [_, _, _, _]) (M' := mX11_clear) dL_law_1038 vX11_clear ml_L_120 (shq (Nat.le_of_ble_eq_true rfl) sh_0) (by decide) rfl rfl rfl rfl (by simp [wtA]) (Clq82 (Cl.mono (pr_clear (by decide) r32x r32x r32x r32x _ rel) ?_))
    rintro _ h1 ⟨r1, rfl, k1⟩
    refine ⟨r1, rfl, ?_⟩
    refine gg_aload_n dL_law_1041 rfl rfl ?_
    refine gg_aload_n dL_law_1042 rfl rfl ?_
    refine gg_iload dL_law_1043 rfl ?_
    refine gg_iconst dL_law_1045 ?_
    refine gg_iadd dL_law_1046 ?_
    refine gl_sld dL_law_1047 (by omega) hLn ?_
    refine gg_aload_n dL_law_1048 rfl rfl ?_
    refine gg_iload dL_law_1049 rfl ?_
    refine gg_iconst dL_law_1051 ?_
    refine gg_iadd dL_law_1052 ?_
    refine gl_sld dL_law_1053 (by omega) hLn ?_
    refine gg_aload_n dL_law_1054 rfl rfl ?_
    refine gg_iload dL_law_1055 rfl ?_
    refine gg_iconst dL_law_1057 ?_
    refine gg_iadd dL_law_1058 ?_
    refine gl_sld dL_law_1059 (by omega) hLn ?_
    refine gg_aload_n dL_law_1060 rfl rfl ?_
    refine gg_iload dL_law_1061 rfl ?_
    refine gg_iconst dL_law_1063 ?_
    refine gg_iadd dL_law_1064 ?_
    refine gl_sld dL_law_1065 (by omega) hLn ?_
    refine gg_callVI (d := 21) gl_rm (gl_ck hck) (av := [_, _, _, _]) (M' := mX12_clear) dL_law_1066 vX12_clear ml_L_124 (shq (Nat.le_of_ble_eq_true rfl) sh_49) (by decide) rfl rfl rfl rfl (by simp [wtA]) (Clq82 (Cl.mono (k1) ?_))
    rintro _ h2 ⟨r2, rfl, er, rel⟩
    refine ⟨r2, rfl, ?_⟩
    subst er
    refine gl_eq (tgt := 1344) dL_law_1069 rfl ?_
    exact next _ o5 o6 ck sl (by omega) (by omega) rel
  rename ¬ v = 22 => n22
  by_cases ev : v = 23
  · refine gg_tsIn (v := 23) (off := 1034) (tgt := 1074) dL_law_40 ev ⟨by decide, by decide⟩ (by decide) (by decide) (by decide +kernel) rfl ?_
    refine gg_aload_n dL_law_1074 rfl rfl ?_
    refine gg_aload_n dL_law_1075 rfl rfl ?_
    refine gg_iload dL_law_1076 rfl ?_
    refine gg_iconst dL_law_1078 ?_
    refine gg_iadd dL_law_1079 ?_
    refine gl_sld dL_law_1080 (by omega) hLn ?_
    refine gg_aload_n dL_law_1081 rfl rfl ?_
    refine gg_iload dL_law_1082 rfl ?_
    refine gg_iconst dL_law_1084 ?_
    refine gg_iadd dL_law_1085 ?_
    refine gl_sld dL_law_1086 (by omega) hLn ?_
    refine gg_callVI (d := 21) gl_rm (gl_ck hck) (av := [_, _]) (M' := mX11_together) dL_law_1087 vX11_together ml_L_125 (shq (Nat.le_of_ble_eq_true rfl) sh_0) (by decide) rfl rfl rfl rfl (by simp [wtA]) (Clq82 (Cl.mono (pr_together (by decide) r32x r32x _ rel) ?_))
    rintro _ h1 ⟨r1, rfl, k1⟩
    refine ⟨r1, rfl, ?_⟩
    refine gg_aload_n dL_law_1090 rfl rfl ?_
    refine gg_aload_n dL_law_1091 rfl rfl ?_
    refine gg_iload dL_law_1092 rfl ?_
    refine gg_iconst dL_law_1094 ?_
    refine gg_iadd dL_law_1095 ?_
    refine gl_sld dL_law_1096 (by omega) hLn ?_
    refine gg_aload_n dL_law_1097 rfl rfl ?_
    refine gg_iload dL_law_1098 rfl ?_
    refine gg_iconst dL_law_1100 ?_
    refine gg_iadd dL_law_1101 ?_
    refine gl_sld dL_law_1102 (by omega) hLn ?_
    refine gg_callVI (d := 21) gl_rm (gl_ck hck) (av := [_, _]) (M' := mX12_together) dL_law_1103 vX12_together ml_L_128 (shq (Nat.le_of_ble_eq_true rfl) sh_49) (by decide) rfl rfl rfl rfl (by simp [wtA]) (Clq82 (Cl.mono (k1) ?_))
    rintro _ h2 ⟨r2, rfl, er, rel⟩
    refine ⟨r2, rfl, ?_⟩
    subst er
    refine gl_eq (tgt := 1344) dL_law_1106 rfl ?_
    exact next _ o5 o6 ck sl (by omega) (by omega) rel
  rename ¬ v = 23 => n23
  by_cases ev : v = 24
  · refine gg_tsIn (v := 24) (off := 1071) (tgt := 1111) dL_law_40 ev ⟨by decide, by decide⟩ (by decide) (by decide) (by decide +kernel) rfl ?_
    refine gg_aload_n dL_law_1111 rfl rfl ?_
    refine gg_aload_n dL_law_1112 rfl rfl ?_
    refine gg_iload dL_law_1113 rfl ?_
    refine gg_iconst dL_law_1115 ?_
    refine gg_iadd dL_law_1116 ?_
    refine gl_sld dL_law_1117 (by omega) hLn ?_
    refine gg_aload_n dL_law_1118 rfl rfl ?_
    refine gg_iload dL_law_1119 rfl ?_
    refine gg_iconst dL_law_1121 ?_
    refine gg_iadd dL_law_1122 ?_
    refine gl_sld dL_law_1123 (by omega) hLn ?_
    refine gg_aload_n dL_law_1124 rfl rfl ?_
    refine gg_iload dL_law_1125 rfl ?_
    refine gg_iconst dL_law_1127 ?_
    refine gg_iadd dL_law_1128 ?_
    refine gl_sld dL_law_1129 (by omega) hLn ?_
    refine gg_callVI (d := 21) gl_rm (gl_ck hck) (av := [_, _, _]) (M' := mX11_joint) dL_law_1130 vX11_joint ml_L_129 (shq (Nat.le_of_ble_eq_true rfl) sh_0) (by decide) rfl rfl rfl rfl (by simp [wtA]) (Clq82 (Cl.mono (pr_joint (by decide) r32x r32x r32x _ rel) ?_))
    rintro _ h1 ⟨r1, rfl, k1⟩
    refine ⟨r1, rfl, ?_⟩
    refine gg_aload_n dL_law_1133 rfl rfl ?_
    refine gg_aload_n dL_law_1134 rfl rfl ?_
    refine gg_iload dL_law_1135 rfl ?_
    refine gg_iconst dL_law_1137 ?_
    refine gg_iadd dL_law_1138 ?_
    refine gl_sld dL_law_1139 (by omega) hLn ?_
    refine gg_aload_n dL_law_1140 rfl rfl ?_
    refine gg_iload dL_law_1141 rfl ?_
    refine gg_iconst dL_law_1143 ?_
    refine gg_iadd dL_law_1144 ?_
    refine gl_sld dL_law_1145 (by omega) hLn ?_
    refine gg_aload_n dL_law_1146 rfl rfl ?_
    refine gg_iload dL_law_1147 rfl ?_
    refine gg_iconst dL_law_1149 ?_
    refine gg_iadd dL_law_1150 ?_
    refine gl_sld dL_law_1151 (by omega) hLn ?_
    refine gg_callVI (d := 21) gl_rm (gl_ck hck) (av := [_, _, _]) (M' := mX12_joint) dL_law_1152 vX12_joint ml_L_132 (shq (Nat.le_of_ble_eq_true rfl) sh_49) (by decide) rfl rfl rfl rfl (by simp [wtA]) (Clq82 (Cl.mono (k1) ?_))
    rintro _ h2 ⟨r2, rfl, er, rel⟩
    refine ⟨r2, rfl, ?_⟩
    subst er
    refine gl_eq (tgt := 1344) dL_law_1155 rfl ?_
    exact next _ o5 o6 ck sl (by omega) (by omega) rel
  rename ¬ v = 24 => n24
  by_cases ev : v = 25
  · refine gg_tsIn (v := 25) (off := 1120) (tgt := 1160) dL_law_40 ev ⟨by decide, by decide⟩ (by decide) (by decide) (by decide +kernel) rfl ?_
    refine gg_aload_n dL_law_1160 rfl rfl ?_
    refine gg_aload_n dL_law_1161 rfl rfl ?_
    refine gg_iload dL_law_1162 rfl ?_
    refine gg_iconst dL_law_1164 ?_
    refine gg_iadd dL_law_1165 ?_
    refine gl_sld dL_law_1166 (by omega) hLn ?_
    refine gg_aload_n dL_law_1167 rfl rfl ?_
    refine gg_iload dL_law_1168 rfl ?_
    refine gg_iconst dL_law_1170 ?_
    refine gg_iadd dL_law_1171 ?_
    refine gl_sld dL_law_1172 (by omega) hLn ?_
    refine gg_aload_n dL_law_1173 rfl rfl ?_
    refine gg_iload dL_law_1174 rfl ?_
    refine gg_iconst dL_law_1176 ?_
    refine gg_iadd dL_law_1177 ?_
    refine gl_sld dL_law_1178 (by omega) hLn ?_
    refine gg_aload_n dL_law_1179 rfl rfl ?_
    refine gg_iload dL_law_1180 rfl ?_
    refine gg_iconst dL_law_1182 ?_
    refine gg_iadd dL_law_1183 ?_
    refine gl_sld dL_law_1184 (by omega) hLn ?_
    refine gg_callVI (d := 21) gl_rm (gl_ck hck) (av := [_, _, _, _]) (M' := mX11_mark) dL_law_1185 vX11_mark ml_L_133 (shq (Nat.le_of_ble_eq_true rfl) sh_0) (by decide) rfl rfl rfl rfl (by simp [wtA]) (Clq82 (Cl.mono (pr_mark (by decide) r32x r32x r32x r32x _ rel) ?_))
    rintro _ h1 ⟨r1, rfl, k1⟩
    refine ⟨r1, rfl, ?_⟩
    refine gg_aload_n dL_law_1188 rfl rfl ?_
    refine gg_aload_n dL_law_1189 rfl rfl ?_
    refine gg_iload dL_law_1190 rfl ?_
    refine gg_iconst dL_law_1192 ?_
    refine gg_iadd dL_law_1193 ?_
    refine gl_sld dL_law_1194 (by omega) hLn ?_
    refine gg_aload_n dL_law_1195 rfl rfl ?_
    refine gg_iload dL_law_1196 rfl ?_
    refine gg_iconst dL_law_1198 ?_
    refine gg_iadd dL_law_1199 ?_
    refine gl_sld dL_law_1200 (by omega) hLn ?_
    refine gg_aload_n dL_law_1201 rfl rfl ?_
    refine gg_iload dL_law_1202 rfl ?_
    refine gg_iconst dL_law_1204 ?_
    refine gg_iadd dL_law_1205 ?_
    refine gl_sld dL_law_1206 (by omega) hLn ?_
    refine gg_aload_n dL_law_1207 rfl rfl ?_
    refine gg_iload dL_law_1208 rfl ?_
    refine gg_iconst dL_law_1210 ?_
    refine gg_iadd dL_law_1211 ?_
    refine gl_sld dL_law_1212 (by omega) hLn ?_
    refine gg_callVI (d := 21) gl_rm (gl_ck hck) (av := [_, _, _, _]) (M' := mX12_mark) dL_law_1213 vX12_mark ml_L_136 (shq (Nat.le_of_ble_eq_true rfl) sh_49) (by decide) rfl rfl rfl rfl (by simp [wtA]) (Clq82 (Cl.mono (k1) ?_))
    rintro _ h2 ⟨r2, rfl, er, rel⟩
    refine ⟨r2, rfl, ?_⟩
    subst er
    refine gl_eq (tgt := 1344) dL_law_1216 rfl ?_
    exact next _ o5 o6 ck sl (by omega) (by omega) rel
  rename ¬ v = 25 => n25
  by_cases ev : v = 26
  · refine gg_tsIn (v := 26) (off := 1181) (tgt := 1221) dL_law_40 ev ⟨by decide, by decide⟩ (by decide) (by decide) (by decide +kernel) rfl ?_
    refine gg_aload_n dL_law_1221 rfl rfl ?_
    refine gg_aload_n dL_law_1222 rfl rfl ?_
    refine gg_iload dL_law_1223 rfl ?_
    refine gg_iconst dL_law_1225 ?_
    refine gg_iadd dL_law_1226 ?_
    refine gl_sld dL_law_1227 (by omega) hLn ?_
    refine gg_aload_n dL_law_1228 rfl rfl ?_
    refine gg_iload dL_law_1229 rfl ?_
    refine gg_iconst dL_law_1231 ?_
    refine gg_iadd dL_law_1232 ?_
    refine gl_sld dL_law_1233 (by omega) hLn ?_
    refine gg_callVI (d := 21) gl_rm (gl_ck hck) (av := [_, _]) (M' := mX11_offset) dL_law_1234 vX11_offset ml_L_137 (shq (Nat.le_of_ble_eq_true rfl) sh_0) (by decide) rfl rfl rfl rfl (by simp [wtA]) (Clq82 (Cl.mono (pr_offset (by decide) r32x r32x _ rel) ?_))
    rintro _ h1 ⟨r1, rfl, k1⟩
    refine ⟨r1, rfl, ?_⟩
    refine gg_aload_n dL_law_1237 rfl rfl ?_
    refine gg_aload_n dL_law_1238 rfl rfl ?_
    refine gg_iload dL_law_1239 rfl ?_
    refine gg_iconst dL_law_1241 ?_
    refine gg_iadd dL_law_1242 ?_
    refine gl_sld dL_law_1243 (by omega) hLn ?_
    refine gg_aload_n dL_law_1244 rfl rfl ?_
    refine gg_iload dL_law_1245 rfl ?_
    refine gg_iconst dL_law_1247 ?_
    refine gg_iadd dL_law_1248 ?_
    refine gl_sld dL_law_1249 (by omega) hLn ?_
    refine gg_callVI (d := 21) gl_rm (gl_ck hck) (av := [_, _]) (M' := mX12_offset) dL_law_1250 vX12_offset ml_L_140 (shq (Nat.le_of_ble_eq_true rfl) sh_49) (by decide) rfl rfl rfl rfl (by simp [wtA]) (Clq82 (Cl.mono (k1) ?_))
    rintro _ h2 ⟨r2, rfl, er, rel⟩
    refine ⟨r2, rfl, ?_⟩
    subst er
    refine gl_eq (tgt := 1344) dL_law_1253 rfl ?_
    exact next _ o5 o6 ck sl (by omega) (by omega) rel
  rename ¬ v = 26 => n26
  by_cases ev : v = 27
  · refine gg_tsIn (v := 27) (off := 1218) (tgt := 1258) dL_law_40 ev ⟨by decide, by decide⟩ (by decide) (by decide) (by decide +kernel) rfl ?_
    refine gg_aload_n dL_law_1258 rfl rfl ?_
    refine gg_callVU (d := 21) gl_rm (gl_ck hck) (av := []) (M' := mX11_begin) dL_law_1259 vX11_begin ml_L_141 (shq (Nat.le_of_ble_eq_true rfl) sh_0) (by decide) rfl rfl rfl rfl (by simp [wtA]) (Clq82 (Cl.mono (pr_begin (by decide) _ rel) ?_))
    rintro _ h1 ⟨rfl, k1⟩
    refine ⟨rfl, ?_⟩
    refine gg_aload_n dL_law_1262 rfl rfl ?_
    refine gg_callVU (d := 21) gl_rm (gl_ck hck) (av := []) (M' := mX12_begin) dL_law_1263 vX12_begin ml_L_144 (shq (Nat.le_of_ble_eq_true rfl) sh_49) (by decide) rfl rfl rfl rfl (by simp [wtA]) (Clq82 (Cl.mono (k1) ?_))
    rintro _ h2 ⟨rfl, rel⟩
    refine ⟨rfl, ?_⟩
    refine gg_goto (tgt := 1344) dL_law_1266 rfl ?_
    exact next _ o5 o6 ck sl (by omega) (by omega) rel
  rename ¬ v = 27 => n27
  by_cases ev : v = 28
  · refine gg_tsIn (v := 28) (off := 1229) (tgt := 1269) dL_law_40 ev ⟨by decide, by decide⟩ (by decide) (by decide) (by decide +kernel) rfl ?_
    refine gg_aload_n dL_law_1269 rfl rfl ?_
    refine gg_aload_n dL_law_1270 rfl rfl ?_
    refine gg_iload dL_law_1271 rfl ?_
    refine gg_iconst dL_law_1273 ?_
    refine gg_iadd dL_law_1274 ?_
    refine gl_sld dL_law_1275 (by omega) hLn ?_
    refine gg_callVI (d := 21) gl_rm (gl_ck hck) (av := [_]) (M' := mX11_tick) dL_law_1276 vX11_tick ml_L_145 (shq (Nat.le_of_ble_eq_true rfl) sh_0) (by decide) rfl rfl rfl rfl (by simp [wtA]) (Clq82 (Cl.mono (pr_tick (by decide) r32x _ rel) ?_))
    rintro _ h1 ⟨r1, rfl, k1⟩
    refine ⟨r1, rfl, ?_⟩
    refine gg_aload_n dL_law_1279 rfl rfl ?_
    refine gg_aload_n dL_law_1280 rfl rfl ?_
    refine gg_iload dL_law_1281 rfl ?_
    refine gg_iconst dL_law_1283 ?_
    refine gg_iadd dL_law_1284 ?_
    refine gl_sld dL_law_1285 (by omega) hLn ?_
    refine gg_callVI (d := 21) gl_rm (gl_ck hck) (av := [_]) (M' := mX12_tick) dL_law_1286 vX12_tick ml_L_148 (shq (Nat.le_of_ble_eq_true rfl) sh_49) (by decide) rfl rfl rfl rfl (by simp [wtA]) (Clq82 (Cl.mono (k1) ?_))
    rintro _ h2 ⟨r2, rfl, er, rel⟩
    refine ⟨r2, rfl, ?_⟩
    subst er
    refine gl_eq (tgt := 1344) dL_law_1289 rfl ?_
    exact next _ o5 o6 ck sl (by omega) (by omega) rel
  rename ¬ v = 28 => n28
  by_cases ev : v = 29
  · refine gg_tsIn (v := 29) (off := 1254) (tgt := 1294) dL_law_40 ev ⟨by decide, by decide⟩ (by decide) (by decide) (by decide +kernel) rfl ?_
    refine gg_aload_n dL_law_1294 rfl rfl ?_
    refine gg_aload_n dL_law_1295 rfl rfl ?_
    refine gg_iload dL_law_1296 rfl ?_
    refine gg_iconst dL_law_1298 ?_
    refine gg_iadd dL_law_1299 ?_
    refine gl_sld dL_law_1300 (by omega) hLn ?_
    refine gg_callVI (d := 21) gl_rm (gl_ck hck) (av := [_]) (M' := mX11_run) dL_law_1301 vX11_run ml_L_149 (shq (Nat.le_of_ble_eq_true rfl) sh_0) (by decide) rfl rfl rfl rfl (by simp [wtA]) (Clq82 (Cl.mono (pr_run (by decide) r32x _ rel) ?_))
    rintro _ h1 ⟨r1, rfl, k1⟩
    refine ⟨r1, rfl, ?_⟩
    refine gg_aload_n dL_law_1304 rfl rfl ?_
    refine gg_aload_n dL_law_1305 rfl rfl ?_
    refine gg_iload dL_law_1306 rfl ?_
    refine gg_iconst dL_law_1308 ?_
    refine gg_iadd dL_law_1309 ?_
    refine gl_sld dL_law_1310 (by omega) hLn ?_
    refine gg_callVI (d := 21) gl_rm (gl_ck hck) (av := [_]) (M' := mX12_run) dL_law_1311 vX12_run ml_L_152 (shq (Nat.le_of_ble_eq_true rfl) sh_49) (by decide) rfl rfl rfl rfl (by simp [wtA]) (Clq82 (Cl.mono (k1) ?_))
    rintro _ h2 ⟨r2, rfl, er, rel⟩
    refine ⟨r2, rfl, ?_⟩
    subst er
    refine gl_eq (tgt := 1344) dL_law_1314 rfl ?_
    exact next _ o5 o6 ck sl (by omega) (by omega) rel
  rename ¬ v = 29 => n29
  by_cases ev : v = 30
  · refine gg_tsIn (v := 30) (off := 1279) (tgt := 1319) dL_law_40 ev ⟨by decide, by decide⟩ (by decide) (by decide) (by decide +kernel) rfl ?_
    refine gg_aload_n dL_law_1319 rfl rfl ?_
    refine gg_aload_n dL_law_1320 rfl rfl ?_
    refine gg_iload dL_law_1321 rfl ?_
    refine gg_iconst dL_law_1323 ?_
    refine gg_iadd dL_law_1324 ?_
    refine gl_sld dL_law_1325 (by omega) hLn ?_
    refine gg_callVI (d := 21) gl_rm (gl_ck hck) (av := [_]) (M' := mX11_count) dL_law_1326 vX11_count ml_L_153 (shq (Nat.le_of_ble_eq_true rfl) sh_0) (by decide) rfl rfl rfl rfl (by simp [wtA]) (Clq82 (Cl.mono (pr_count (by decide) r32x _ rel) ?_))
    rintro _ h1 ⟨r1, rfl, k1⟩
    refine ⟨r1, rfl, ?_⟩
    refine gg_aload_n dL_law_1329 rfl rfl ?_
    refine gg_aload_n dL_law_1330 rfl rfl ?_
    refine gg_iload dL_law_1331 rfl ?_
    refine gg_iconst dL_law_1333 ?_
    refine gg_iadd dL_law_1334 ?_
    refine gl_sld dL_law_1335 (by omega) hLn ?_
    refine gg_callVI (d := 21) gl_rm (gl_ck hck) (av := [_]) (M' := mX12_count) dL_law_1336 vX12_count ml_L_156 (shq (Nat.le_of_ble_eq_true rfl) sh_49) (by decide) rfl rfl rfl rfl (by simp [wtA]) (Clq82 (Cl.mono (k1) ?_))
    rintro _ h2 ⟨r2, rfl, er, rel⟩
    refine ⟨r2, rfl, ?_⟩
    subst er
    refine gl_eq (tgt := 1344) dL_law_1339 rfl ?_
    exact next _ o5 o6 ck sl (by omega) (by omega) rel
  rename ¬ v = 30 => n30
  refine gg_tsOut (tgt := 1344) dL_law_40 (by omega) (by omega) rfl ?_
  exact next _ o5 o6 ck sl (by omega) (by omega) rel
set_option maxRecDepth 20000 in
set_option maxHeartbeats 400000 in
theorem law_loop {b Ln : Nat} {xs : Nat → Int32} (hLn : Ln ≤ 3072) (look : ∀ (i ck sl : Nat) (h : Hp) (o5 o6 : Option AV), ck + 16 ≤ 601024 → sl + 256 ≤ 7293034 → i + 6 ≤ Ln → REL h → (∀ (h2 : Hp) (o5 o6 : Option AV) (ck2 sl2 : Nat), ck2 ≤ ck + 16 → sl2 ≤ sl + 256 → REL h2 → WG (GL b Ln xs ck2 sl2) mLw 1344 [some (.inr (.inr 3000)), some (.inr (.inr 0)), some (.inr (.inr 49)), some (.inr (.inr 81)), some (.inl (i : Int)), o5, o6] [] h2) → WG (GL b Ln xs ck sl) mLw 389 [some (.inr (.inr 3000)), some (.inr (.inr 0)), some (.inr (.inr 49)), some (.inr (.inr 81)), some (.inl (i : Int)), o5, o6] [] h) :
    ∀ (n i ck sl : Nat) (h : Hp) (o5 o6 : Option AV), Ln + 1 ≤ i + 6 * n → i ≤ Ln + 6 → ck + 16 * n ≤ 601024 → sl + 256 * n ≤ 7293034 → REL h → WG (GL b Ln xs ck sl) mLw 23 [some (.inr (.inr 3000)), some (.inr (.inr 0)), some (.inr (.inr 49)), some (.inr (.inr 81)), some (.inl (i : Int)), o5, o6] [] h := by
  intro n
  induction n with
  | zero =>
    intro i ck sl h o5 o6 h1 h2 h3 h4 rel
    refine gg_iload dL_law_23 rfl ?_
    refine gg_aload_n dL_law_25 rfl rfl ?_
    refine gl_len dL_law_26 ?_
    refine gg_bipush dL_law_27 (by decide +kernel) ?_
    refine gg_isub dL_law_29 ?_
    refine gg_icmp_gt (tgt := 1350) dL_law_30 rfl (by omega) (by omega) (fun _ => gl_end ⟨by omega, by omega⟩) (fun q => absurd q (by omega))
  | succ n ih =>
    intro i ck sl h o5 o6 h1 h2 h3 h4 rel
    refine gg_iload dL_law_23 rfl ?_
    refine gg_aload_n dL_law_25 rfl rfl ?_
    refine gl_len dL_law_26 ?_
    refine gg_bipush dL_law_27 (by decide +kernel) ?_
    refine gg_isub dL_law_29 ?_
    refine gg_icmp_gt (tgt := 1350) dL_law_30 rfl (by omega) (by omega) (fun _ => gl_end ⟨by omega, by omega⟩) (fun q => ?_)
    have next : ∀ (h2 : Hp) (o5 o6 : Option AV) (ck2 sl2 : Nat), ck2 ≤ ck + 16 → sl2 ≤ sl + 256 → REL h2 → WG (GL b Ln xs ck2 sl2) mLw 1344 [some (.inr (.inr 3000)), some (.inr (.inr 0)), some (.inr (.inr 49)), some (.inr (.inr 81)), some (.inl (i : Int)), o5, o6] [] h2 := fun h2 o5 o6 ck2 sl2 c1 c2 r2 => by
      refine gg_iinc (L' := [_, _, _, _, _, _, _]) dL_law_1344 rfl rfl (by decide) rfl ?_
      refine gg_goto (tgt := 23) dL_law_1347 rfl ?_
      exact ih (i + 6) ck2 sl2 h2 o5 o6 (by omega) (by omega) (by omega) (by omega) r2
    exact law_case hLn ⟨by omega, by omega⟩ (by omega) rel next (fun _ => look i ck sl h o5 o6 (by omega) (by omega) (by omega) rel next)
