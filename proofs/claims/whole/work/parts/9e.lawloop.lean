/-! THE LAW'S CASE OF look -/
theorem dwL_in : ∀ w ∈ dwL, w ∈ lw_tbl := by
  intro w hw
  simp only [dwL, List.mem_cons, List.not_mem_nil, or_false] at hw
  rcases hw with e | e | e | e | e
  · rw [e]; exact List.mem_of_getElem? (i := 1229) (by decide +kernel)
  · rw [e]; exact List.mem_of_getElem? (i := 1295) (by decide +kernel)
  · rw [e]; exact List.mem_of_getElem? (i := 1231) (by decide +kernel)
  · rw [e]; exact List.mem_of_getElem? (i := 1233) (by decide +kernel)
  · rw [e]; exact List.mem_of_getElem? (i := 1235) (by decide +kernel)
theorem ls_un : Cond.laysStatic Bundle.tN "UNASSIGNED_STACK" Bundle.steD ∈ lw_tbl := List.mem_of_getElem? (i := 1254) (by decide +kernel)
theorem ls_su : Cond.laysStatic Bundle.tN "SUPPRESSED_SENTINEL" Bundle.listD ∈ lw_tbl := List.mem_of_getElem? (i := 1256) (by decide +kernel)
theorem in_th : Cond.initialized Bundle.tN ∈ lw_tbl := List.mem_of_getElem? (i := 123) (by decide +kernel)

theorem XD.of {A : Nat → Prop} {s : State} {b : Nat} (hA : ∀ q, A q → s.heap.size ≤ q) (ht : ∀ w ∈ lw_tbl, w.before #[Value.ref b] s = true) (hgv : (Jvm.Cond.and given_1 narrow_1).before #[Value.ref b] s = true) : XD A s s.heap := by
  have hs := flat_of_before _ hgv
  have hA' : ∀ a : Nat, a < s.heap.size → ¬ A a := fun a ha z => absurd (hA a z) (by omega)
  refine ⟨vx_Zqof (ht _ ls_un) (ht _ in_th) (hs _ (by decide +kernel)) hA', vx_Zqof (ht _ ls_su) (ht _ in_th) (hs _ (by decide +kernel)) hA', fun w hw => va_Nw.of (dwL_ot w hw) (ht w (dwL_in w hw)), ?_⟩
  exact va_Nc.of (hs (Cond.not (.castable nX1 nX0)) (by decide +kernel))
theorem no_tr {l : Launch} (h : l.flags = flags0) : l.stackTraces = false := by
  unfold Launch.stackTraces
  rw [h]
  decide
theorem wsK_good : GoodIn lw_g wsK := fun w hw => (List.mem_cons.mp hw).elim (fun e => e ▸ lw_g_good _ lk_cd) (fun h => lw_g_good w h)
section
variable {p : Program} {l : Launch} {e : Env} {R : Room} {s : State} {m : MethodId} {args : Array Value} {below : List Frame} {meth : Method} {c : Code} {H : Heap} {locs : List Loc} {ck sl mc ms nS : Nat} {Q : State → Prop} {pc : Nat} {ls : Array Slot} {rest st0 : List Value} {a : Array Value}
theorem gg_call1 {E : EV} {A A1 : Nat → Prop} {P : Pst} (hr : va_Run p l e R s m args below meth c H locs ck sl mc ms (F0 m pc ls st0) rest (QQq nS E A1 P a) A1) (hS : va_S A s.heap H locs) (hA1 : ∀ q, A1 q → A q)
    (kk : ∀ (v : Option AV) (h' : Hp) (t : State) (H1 : Heap) (locs1 : List Loc), t.heap = H1 → s.vm.Alike t.vm → P v h' → va_P E.1 vwCl (clsq nS E h') H1 → KK E t → va_D A1 (clsq nS E h') → va_S A s.heap H1 locs1 → W p l e R s m args below meth c H1 locs1 (ck + mc) (sl + ms) Q (F0 m (pc + 3) ls ((v.map (tr E)).toList ++ rest))) :
    W p l e R s m args below meth c H locs ck sl Q (F0 m pc ls st0) := by
  intro T hT X
  obtain ⟨v, st₀, t, T', L, h0, X', hL, e1, e2, ⟨v', h', hv, hp, hP1, hK1, hD1, hz, hk⟩, st⟩ := hr T hT X
  cases hv
  rw [h0] at hz hk
  obtain ⟨t2, a1, b1⟩ := kk v' h' t T'.heap (locs ++ L) e1.symm (by rw [← e2]; exact X'.warmed.alike) hp (by rw [e1]; exact hP1) hK1 hD1
    ⟨Nat.le_trans hS.1 (by rw [e1]; exact hz), fun q h1 h2 => by rw [e1, hk q (Nat.lt_of_lt_of_le h1 hS.1) (fun z => h2 (hA1 q z))]; exact hS.2.1 q h1 h2, fun q hq => by
      rcases List.mem_append.mp hq with h | h
      · exact hS.2.2 q h
      · exact hA1 _ (hL q h)⟩ T' rfl X'
  exact ⟨t2, st t2 a1, b1⟩
end
theorem gl_callK {b Ln ck sl d : Nat} {xs : Nat → Int32} {L : List (Option AV)} {h : Hp} {mm w : Int} (hd : d ≤ 100) (hck : ck + 1 ≤ 601024 ∧ sl + 6 ≤ 7293034)
    (k : ClK d [.inr (.inr 0), .inl mm, .inl w, .inr (.inr 81)] h (fun v h' => ∃ r, v = some (.inl r) ∧ WG (GL b Ln xs (ck + 1) (sl + 6)) mLw 406 L [.inl r] h')) : WG (GL b Ln xs ck sl) mLw 403 L [.inr (.inr 81), .inl w, .inl mm, .inr (.inr 0)] h := by
  intro E A p l e s m args below meth c H locs ls F hX hA hK hP hD hS hL
  have F0' := F
  obtain ⟨F1, ea, eb, hnA, hXs, hbl, hAs, hfl, htb, hgv⟩ := F
  have hZ : XD A s s.heap := XD.of hAs htb hgv
  have hts := F1.2.2.2.2.2.2
  have hF := clsq_free hD hS hA
  have cw : vx_CSW room_1 s args mLw.1.cls 45 yL_look cL_look 5 (some .int) hhL wsK (rmX d) 1 6 4 := by
    refine vx_cwSW 4 hts (fun w hw => ?_) rfl rfl rfl ⟨by decide, by decide, by decide +kernel⟩ ⟨by show d + 1 ≤ 2048; omega, by show 8 + (5 + 11) + 100 * d ≤ 84000; omega⟩
    unfold va_wsS at hw
    rcases List.mem_append.mp hw with hw | hw
    · simp only [List.mem_cons, List.not_mem_nil, or_false] at hw
      rcases hw with e | e | e
      · rw [e]; exact lw_g_good _ ml_L_45
      · rw [e]; exact lw_g_good _ lk_st
      · rw [e]; exact lw_g_good _ lk_in
    · exact wsK_good w hw
  show W p l e room_1 s m args below meth c H locs ck sl (lw_Z below args s) (F0 m 403 ls [.ref (E.2.1 81), .int (Int32.ofInt w), .int (Int32.ofInt mm), .ref (E.2.1 0)])
  refine gg_call1 (mc := 1) (ms := 6) (A1 := va_A (clsq 82 E h) H.size) (vx_runSW (As := [.ref (E.2.1 0), .int (Int32.ofInt mm), .int (Int32.ofInt w), .ref (E.2.1 81)]) (rest := []) ⟨F1.1, F1.2.1, F1.2.2.1, F1.2.2.2.2.2.1, hts⟩ (k E H.size l (no_tr hfl)) cw ⟨WLDx.blind, fun U hU hW => ⟨rfl, WLDx.at hZ hX hA hK hP hD hS hU hW⟩⟩ rfl rfl hL.1 rfl (Nat.le_of_ble_eq_true rfl) dL_law_403 hck) hS hF
    (fun v h' t H1 locs1 ht hvm hp hP1 hK1 hD1 hS1 => ?_)
  obtain ⟨r, rfl, hp⟩ := hp
  exact hp E A p l e s m args below meth c H1 locs1 ls F0' hX hA (va_K.moved hvm.symm hK1) hP1 (hD1.weaken (fun _ q _ z => hF q.1 z)) hS1 hL
theorem lkC_cg {g h : Hp} {m : Nat} {w : Int} (e : ∀ a k, a < 49 → g a k = h a k) : lkC g m w = lkC h m w := by
  unfold lkC
  rw [show g 20 = h 20 from funext fun j => e 20 j (by decide), show g 21 = h 21 from funext fun j => e 21 j (by decide), e 17 _ (by decide), e 18 _ (by decide), e 19 _ (by decide)]
set_option maxRecDepth 20000 in
set_option maxHeartbeats 1000000 in
theorem law_look {b Ln : Nat} {xs : Nat → Int32} (hLn : Ln ≤ 3072) : ∀ (i ck sl : Nat) (h : Hp) (o5 o6 : Option AV), ck + 16 ≤ 601024 → sl + 256 ≤ 7293034 → i + 6 ≤ Ln → REL h → (∀ (h2 : Hp) (o5 o6 : Option AV) (ck2 sl2 : Nat), ck2 ≤ ck + 16 → sl2 ≤ sl + 256 → REL h2 → WG (GL b Ln xs ck2 sl2) mLw 1344 [some (.inr (.inr 3000)), some (.inr (.inr 0)), some (.inr (.inr 49)), some (.inr (.inr 81)), some (.inl (i : Int)), o5, o6] [] h2) → WG (GL b Ln xs ck sl) mLw 389 [some (.inr (.inr 3000)), some (.inr (.inr 0)), some (.inr (.inr 49)), some (.inr (.inr 81)), some (.inl (i : Int)), o5, o6] [] h := by
  intro i ck sl h o5 o6 h1 h2 h3 rel next
  have rm : R32 (xs ((i : Int) + 1).toNat).toInt := r32x
  have rw5 : R32 (xs ((i : Int) + 2).toNat).toInt := r32x
  obtain ⟨m, em⟩ : ∃ m, (xs ((i : Int) + 1).toNat).toInt = m := ⟨_, rfl⟩
  obtain ⟨w, ew⟩ : ∃ m, (xs ((i : Int) + 2).toNat).toInt = m := ⟨_, rfl⟩
  rw [em] at rm
  rw [ew] at rw5
  refine gg_aload_n dL_law_389 rfl rfl ?_
  refine gg_aload_n dL_law_390 rfl rfl ?_
  refine gg_iload dL_law_391 rfl ?_
  refine gg_iconst dL_law_393 ?_
  refine gg_iadd dL_law_394 ?_
  refine gl_sld dL_law_395 (by omega) hLn ?_
  rw [em]
  refine gg_aload_n dL_law_396 rfl rfl ?_
  refine gg_iload dL_law_397 rfl ?_
  refine gg_iconst dL_law_399 ?_
  refine gg_iadd dL_law_400 ?_
  refine gl_sld dL_law_401 (by omega) hLn ?_
  rw [ew]
  refine gg_aload_n dL_law_402 rfl rfl ?_
  by_cases hm : 0 ≤ m ∧ m < h 16 0
  · by_cases hw : 0 ≤ w ∧ w ≤ 5
    · refine gl_callK (d := 21) (by decide) ⟨by omega, by omega⟩ (clk_ok (d := 20) (by decide) rm hm hw rel ⟨_, rfl, ?_⟩)
      have r1 : REL (upH h 81 0 (Int32.ofInt (lkC h m.toNat w)).toInt) := FrM.rel (FrM.up FrM.rf rfl) rel
      have n1 := r1.n
      have e16 : (upH h 81 0 (Int32.ofInt (lkC h m.toNat w)).toInt) 16 0 = h 16 0 := up_nc (by decide)
      refine gg_istore (L' := [_, _, _, _, _, _, _]) dL_law_406 rfl (by decide) rfl ?_
      refine gg_aload_n dL_law_408 rfl rfl ?_
      refine gg_aload_n dL_law_409 rfl rfl ?_
      refine gg_iload dL_law_410 rfl ?_
      refine gg_iconst dL_law_412 ?_
      refine gg_iadd dL_law_413 ?_
      refine gl_sld dL_law_414 (by omega) hLn ?_
      rw [em]
      refine gg_aload_n dL_law_415 rfl rfl ?_
      refine gg_iload dL_law_416 rfl ?_
      refine gg_iconst dL_law_418 ?_
      refine gg_iadd dL_law_419 ?_
      refine gl_sld dL_law_420 (by omega) hLn ?_
      rw [ew]
      refine gg_callVI (d := 21) gl_rm (gl_ck ⟨by omega, by omega⟩) (av := [_, _]) (M' := mX12_look) dL_law_421 vX12_look ml_L_50 (shq (Nat.le_of_ble_eq_true rfl) sh_49) (by decide) rfl rfl rfl rfl (by simp [wtA]) (Clq82 (sp_X12_look (by decide) r1.1.2.1 rm rw5 (by omega) r1.mxy r1.mdn (fun q => absurd hm (by omega)) (fun _ q => absurd hw q) (fun _ _ g eg => ?_)))
      refine gg_istore (L' := [_, _, _, _, _, _, _]) dL_law_424 rfl (by decide) rfl ?_
      refine gg_aload_n dL_law_426 rfl rfl ?_
      refine gg_callVI (d := 21) gl_rm (gl_ck ⟨by omega, by omega⟩) (av := []) (M' := mX12_thrown) dL_law_427 vX12_thrown ml_L_51 (shq (Nat.le_of_ble_eq_true rfl) sh_49) (by decide) rfl rfl rfl rfl (by simp [wtA]) (Clq82 (sp_X12_thrown (by decide) ?_))
      rw [eg, up_s, ← eg]
      refine gg_iload dL_law_430 rfl ?_
      refine gl_eq (tgt := 437) dL_law_432 rfl ?_
      refine gg_iload dL_law_437 rfl ?_
      refine gg_if_ne (tgt := 454) dL_law_439 rfl ⟨by decide, by decide⟩ (fun q => absurd rfl q) (fun _ => ?_)
      refine gg_aload_n dL_law_442 rfl rfl ?_
      refine gg_iconst dL_law_443 ?_
      refine gg_lald dL_law_444 (shq (Nat.le_of_ble_eq_true rfl) sh_81) (by decide) (by decide) ?_
      refine gg_iload dL_law_445 rfl ?_
      refine gg_i2lx dL_law_447 ?_
      have ec : lkC g m.toNat w = lkC h m.toNat w := lkC_cg (fun a k q => by rw [eg, up_nc (by omega), up_nc (by omega)])
      have ez : g 81 (0 : Int).toNat = (Int32.ofInt (lkM g m.toNat w)).toInt := by
        rw [← (show REL g from eg ▸ r1.th).lk (by rw [eg, up_nc (by decide), up_nc (by decide)]; omega), ec, eg, up_nc (by decide)]
        exact up_s _ _ _ _
      rw [ez]
      refine gg_lcmp_eq (tgt := 454) dL_law_448 dL_law_449 rfl r64x r64x (fun _ => ?_) (fun q => absurd rfl q)
      refine gg_goto (tgt := 1344) dL_law_454 rfl ?_
      exact next _ _ _ _ _ (by omega) (by omega) (eg ▸ r1.th)
    · refine gl_callK (d := 21) (by decide) ⟨by omega, by omega⟩ (clk_t1 (d := 20) (by decide) rm rw5 hm hw rel ⟨_, rfl, ?_⟩)
      have r1 : REL h := rel
      have n1 := r1.n
      refine gg_istore (L' := [_, _, _, _, _, _, _]) dL_law_406 rfl (by decide) rfl ?_
      refine gg_aload_n dL_law_408 rfl rfl ?_
      refine gg_aload_n dL_law_409 rfl rfl ?_
      refine gg_iload dL_law_410 rfl ?_
      refine gg_iconst dL_law_412 ?_
      refine gg_iadd dL_law_413 ?_
      refine gl_sld dL_law_414 (by omega) hLn ?_
      rw [em]
      refine gg_aload_n dL_law_415 rfl rfl ?_
      refine gg_iload dL_law_416 rfl ?_
      refine gg_iconst dL_law_418 ?_
      refine gg_iadd dL_law_419 ?_
      refine gl_sld dL_law_420 (by omega) hLn ?_
      rw [ew]
      refine gg_callVI (d := 21) gl_rm (gl_ck ⟨by omega, by omega⟩) (av := [_, _]) (M' := mX12_look) dL_law_421 vX12_look ml_L_50 (shq (Nat.le_of_ble_eq_true rfl) sh_49) (by decide) rfl rfl rfl rfl (by simp [wtA]) (Clq82 (sp_X12_look (by decide) r1.1.2.1 rm rw5 (by omega) r1.mxy r1.mdn (fun q => absurd hm (by omega)) (fun _ _ g eg => ?_) (fun _ q => absurd q hw)))
      refine gg_istore (L' := [_, _, _, _, _, _, _]) dL_law_424 rfl (by decide) rfl ?_
      refine gg_aload_n dL_law_426 rfl rfl ?_
      refine gg_callVI (d := 21) gl_rm (gl_ck ⟨by omega, by omega⟩) (av := []) (M' := mX12_thrown) dL_law_427 vX12_thrown ml_L_51 (shq (Nat.le_of_ble_eq_true rfl) sh_49) (by decide) rfl rfl rfl rfl (by simp [wtA]) (Clq82 (sp_X12_thrown (by decide) ?_))
      rw [up_s]
      refine gg_iload dL_law_430 rfl ?_
      refine gl_eq (tgt := 437) dL_law_432 rfl ?_
      refine gg_iload dL_law_437 rfl ?_
      refine gg_if_ne (tgt := 454) dL_law_439 rfl ⟨by decide, by decide⟩ (fun _ => ?_) (fun q => absurd q (by decide))
      refine gg_goto (tgt := 1344) dL_law_454 rfl ?_
      exact next _ _ _ _ _ (by omega) (by omega) (REL.th (eg ▸ r1.th))
  · refine gl_callK (d := 21) (by decide) ⟨by omega, by omega⟩ (clk_t0 (d := 20) (by decide) rm hm rel ⟨_, rfl, ?_⟩)
    have r1 : REL h := rel
    have n1 := r1.n
    refine gg_istore (L' := [_, _, _, _, _, _, _]) dL_law_406 rfl (by decide) rfl ?_
    refine gg_aload_n dL_law_408 rfl rfl ?_
    refine gg_aload_n dL_law_409 rfl rfl ?_
    refine gg_iload dL_law_410 rfl ?_
    refine gg_iconst dL_law_412 ?_
    refine gg_iadd dL_law_413 ?_
    refine gl_sld dL_law_414 (by omega) hLn ?_
    rw [em]
    refine gg_aload_n dL_law_415 rfl rfl ?_
    refine gg_iload dL_law_416 rfl ?_
    refine gg_iconst dL_law_418 ?_
    refine gg_iadd dL_law_419 ?_
    refine gl_sld dL_law_420 (by omega) hLn ?_
    rw [ew]
    refine gg_callVI (d := 21) gl_rm (gl_ck ⟨by omega, by omega⟩) (av := [_, _]) (M' := mX12_look) dL_law_421 vX12_look ml_L_50 (shq (Nat.le_of_ble_eq_true rfl) sh_49) (by decide) rfl rfl rfl rfl (by simp [wtA]) (Clq82 (sp_X12_look (by decide) r1.1.2.1 rm rw5 (by omega) r1.mxy r1.mdn (fun _ g eg => ?_) (fun q => absurd q (by omega)) (fun q => absurd q (by omega))))
    refine gg_istore (L' := [_, _, _, _, _, _, _]) dL_law_424 rfl (by decide) rfl ?_
    refine gg_aload_n dL_law_426 rfl rfl ?_
    refine gg_callVI (d := 21) gl_rm (gl_ck ⟨by omega, by omega⟩) (av := []) (M' := mX12_thrown) dL_law_427 vX12_thrown ml_L_51 (shq (Nat.le_of_ble_eq_true rfl) sh_49) (by decide) rfl rfl rfl rfl (by simp [wtA]) (Clq82 (sp_X12_thrown (by decide) ?_))
    rw [up_s]
    refine gg_iload dL_law_430 rfl ?_
    refine gl_eq (tgt := 437) dL_law_432 rfl ?_
    refine gg_iload dL_law_437 rfl ?_
    refine gg_if_ne (tgt := 454) dL_law_439 rfl ⟨by decide, by decide⟩ (fun _ => ?_) (fun q => absurd q (by decide))
    refine gg_goto (tgt := 1344) dL_law_454 rfl ?_
    exact next _ _ _ _ _ (by omega) (by omega) (REL.th (eg ▸ r1.th))

theorem law_all {b Ln : Nat} {xs : Nat → Int32} (hLn : Ln ≤ 3072) {h : Hp} {o5 o6 : Option AV} {ck sl : Nat} (hc : ck + 8208 ≤ 601024) (hs : sl + 131328 ≤ 7293034) (rel : REL h) : WG (GL b Ln xs ck sl) mLw 23 [some (.inr (.inr 3000)), some (.inr (.inr 0)), some (.inr (.inr 49)), some (.inr (.inr 81)), some (.inl 0), o5, o6] [] h :=
  law_loop hLn (law_look hLn) 513 0 ck sl h o5 o6 (by omega) (by omega) (by omega) (by omega) rel
