/-! CONTRACTS OF CONSTRUCTORS -/
def rmN (d mc ms : Nat) : Room := { frames := d, cells := mc, slots := ms, locals := 100 * d }
def WLDN (ll : List (Nat × List Nat)) (E : EV) (h : Hp) (sz : Nat) (U : State) : Prop := (U.heap.size = sz ∧ va_P E.1 vwCl (wldN E h 0 ll) U.heap ∧ KK E U ∧ va_D (fun _ => True) (wldN E h 0 ll) ∧ XT E (va_A (wldN E h 0 ll) sz) U U.heap) ∧ Zr ll.length h
def QC (n0 : Nat) (ll' : List (Nat × List Nat)) (Ph : Hp → Prop) (E : EV) (A : Nat → Prop) : Array Value → State → Outcome → State → Prop := fun _ st oc t =>
  ∃ (E' : EV) (h' : Hp), agr n0 E E' ∧ oc = .returned none ∧ Ph h' ∧ Zr ll'.length h' ∧ va_P E'.1 vwCl (wldN E' h' 0 ll') t.heap ∧ KK E' t ∧ va_D A (wldN E' h' 0 ll') ∧ va_F A st t
def CNt (d mc ms : Nat) (M : MI) (av : List AV) (ll : List (Nat × List Nat)) (h : Hp) (ll' : List (Nat × List Nat)) (Ph : Hp → Prop) : Prop :=
  ∀ (E : EV) (sz : Nat) (l : Launch), Met l M.1 (wsM M) (rmN d mc ms) (va_Pc (av.map (tr E)) (WLDN ll E h sz)) (QC ll.length ll' Ph E (va_A (wldN E h 0 ll) sz)) mc ms (va_A (wldN E h 0 ll) sz)
def GC (n0 d mc ms : Nat) (ll' : List (Nat × List Nat)) (Ph : Hp → Prop) : GN := (fun _ _ _ _ _ _ meth => meth.name = "<init>", rmN d mc ms, fun E A below args s => MQ below (QC n0 ll' Ph E A) args s mc ms A)
theorem GC.ok {n0 d mc ms n : Nat} {ll' : List (Nat × List Nat)} {Ph : Hp → Prop} (hn : n0 ≤ n) : OKN n (GC n0 d mc ms ll' Ph) := by
  refine ⟨fun _ _ _ _ _ _ _ _ _ q => q, fun E E' A below args s t ag q => ?_⟩
  obtain ⟨o, h1, h2, ⟨E'', h', q1, q2⟩, h4⟩ := q
  exact ⟨o, h1, h2, ⟨E'', h', agr.tr (Nat.le_refl _) (ag.mono hn) q1, q2⟩, h4⟩
theorem WLDN.blind {ll : List (Nat × List Nat)} {E : EV} {h : Hp} {sz : Nat} {av : List Value} : FrameBlind (va_Pc av (WLDN ll E h sz)) := by
  intro a U g mk q
  obtain ⟨q0, ⟨q1, qP, qK, qD, qX⟩, qz⟩ := q
  refine ⟨q0, ⟨q1, qP, va_K.moved (u := U) (U := U.calling g mk a) (Vm.Alike.refl U.vm) qK, qD, ?_⟩, qz⟩
  exact ⟨vk_S.moved (u := U) (U := U.calling g mk a) (Vm.Alike.refl U.vm) qX.1, va_Z.moved (u := U) (U := U.calling g mk a) (Vm.Alike.refl U.vm) qX.2.1, va_Zq.moved (u := U) (U := U.calling g mk a) (Vm.Alike.refl U.vm) qX.2.2.1, fun i q hq => (qX.2.2.2.1 i q hq).same (U := U.calling g mk a) rfl, fun q hq => va_Nw.same (U := U.calling g mk a) rfl rfl (qX.2.2.2.2 q hq)⟩
theorem w_free {ws : va_W} {A : Nat → Prop} {H0 H : Heap} {locs : List Loc} (hD : va_D A ws) (hS : va_S A H0 H locs) (hA : ∀ q, H0.size ≤ q → A q) : ∀ q, va_A ws H.size q → A q := by
  intro q hq
  rcases hq with ⟨k, e, hk⟩ | hq
  · exact hD.2 k _ hk
  · exact hA q (Nat.le_trans hS.1 hq)
theorem WLDN.at {ll : List (Nat × List Nat)} {E : EV} {h : Hp} {A : Nat → Prop} {s U : State} {H : Heap} {locs : List Loc} (hz : Zr ll.length h) (hX : XT E A s s.heap) (hA : ∀ q, s.heap.size ≤ q → A q) (hK : KK E s) (hP : va_P E.1 vwCl (wldN E h 0 ll) H) (hD : va_D A (wldN E h 0 ll)) (hS : va_S A s.heap H locs) (hU : U.heap = H) (hW : s.WarmedH U.vm) : WLDN ll E h H.size U := by
  refine ⟨⟨by rw [hU], by rw [hU]; exact hP, va_K.moved hW.alike hK, hD.weaken (fun _ _ _ _ => trivial), ?_⟩, hz⟩
  have := hX.call hS hW (w_free hD hS hA)
  rw [hU]
  exact this
theorem CNt.of {d mc ms n0 : Nat} {M : MI} {av : List AV} {ll ll' : List (Nat × List Nat)} {h : Hp} {Ph : Hp → Prop} {L : List (Option AV)} (hy : plainName M.1.cls = true) (hi : M.1.name = "<init>") (hn : wtA av ≤ M.2.2.1) (hs : entL M.2.2.1 av = L) (hl : ll.length = n0) (k : WNc (GC n0 d mc ms ll' Ph) ll 0 0 M 0 L [] h) : CNt d mc ms M av ll h ll' Ph := by
  intro E sz l
  subst hl
  refine Met.ofW (cc := M.2.1) (maxL := M.2.2.1) (ret := M.2.2.2) hy rfl ?_
  intro p e s m args below meth c s₁ B hml hv
  obtain ⟨rfl, ⟨hsz, hP, hK, hD0, hX⟩, hz⟩ := hv
  subst hsz
  have hts := atoms_spec (ws := wsM M) B.pre
  have hl := lv_entry (av.map (tr E)) (n := M.2.2.1) (by rw [slA_len]; exact hn)
  rw [lg_entry_eq]
  refine k E (va_A (wldN E h 0 ll) s.heap.size) p l e s m _ below meth c s.heap [] _ ⟨⟨B.exec, B.bytes, hml, B.returns, B.notSynchronized, findClass_of_methodNamed B.named, fun w hw => hts w (List.mem_cons_of_mem _ hw)⟩, (name_of_methodNamed B.named B.method).1.trans hi, hz⟩ hX (fun q hq => Or.inr hq) hK hP (hD0.self) va_S.rf ⟨hl.1, hl.2.1, fun i v hi => ?_⟩
  subst hs
  have := hl.2.2 _ (entL_in E av M.2.2.1 0 i v hi)
  simpa using this
section
variable {n0 d mc ms : Nat} {Ph : Hp → Prop} {ll : List (Nat × List Nat)} {ck sl : Nat} {M : MI} {pc : Nat} {L : List (Option AV)} {st : List AV} {h : Hp}
theorem nn_vret (hd : decode M.2.1 pc = .ok (.return_, 1)) (hr : M.2.2.2 = none) (hck : ck ≤ mc ∧ sl ≤ ms) (hp : Ph h) : WNc (GC n0 d mc ms ll Ph) ll ck sl M pc L [] h := by
  intro E A p l e s m args below meth c H locs ls F hX hA hK hP hD hS hL
  show W p l e (rmN d mc ms) s m args below meth c H locs ck sl (MQ below (QC n0 ll Ph E A) args s mc ms A) (F0 m pc ls [])
  refine W.widen (k := mc) (n := ms) hck.1 hck.2 ?_
  exact W.vret F.1.1 F.1.2.1 (F.1.2.2.2.1.trans hr) (fun t ht hW => ⟨E, h, agr.rf, rfl, hp, F.2.2, by rw [ht]; exact hP, va_K.moved hW.alike hK, hD, hS.F ht⟩) hS.2.2 hd F.1.2.2.2.2.1
end
section
variable {p : Program} {l : Launch} {e : Env} {R : Room} {s : State} {m : MethodId} {args : Array Value} {below : List Frame} {meth : Method} {c : Code} {H : Heap} {locs : List Loc} {ck sl mc ms n0 : Nat} {Q : State → Prop} {pc : Nat} {ls : Array Slot} {rest st0 : List Value} {a : Array Value}
theorem nn_call0 {E : EV} {A A1 : Nat → Prop} {ll' : List (Nat × List Nat)} {Ph : Hp → Prop} (hr : va_Run p l e R s m args below meth c H locs ck sl mc ms (F0 m pc ls st0) rest (QC n0 ll' Ph E A1 a) A1) (hS : va_S A s.heap H locs) (hA1 : ∀ q, A1 q → A q)
    (kk : ∀ (E' : EV) (h' : Hp) (t : State) (H1 : Heap) (locs1 : List Loc), agr n0 E E' → Ph h' → Zr ll'.length h' → t.heap = H1 → s.vm.Alike t.vm → va_P E'.1 vwCl (wldN E' h' 0 ll') H1 → KK E' t → va_D A1 (wldN E' h' 0 ll') → va_S A s.heap H1 locs1 → W p l e R s m args below meth c H1 locs1 (ck + mc) (sl + ms) Q (F0 m (pc + 3) ls rest)) :
    W p l e R s m args below meth c H locs ck sl Q (F0 m pc ls st0) := by
  intro T hT X
  obtain ⟨v, st₀, t, T', L, h0, X', hL, e1, e2, ⟨E', h', ag, hv, hp, hZ, hP1, hK1, hD1, hz, hk⟩, st⟩ := hr T hT X
  cases hv
  rw [h0] at hz hk
  obtain ⟨t2, a1, b1⟩ := kk E' h' t T'.heap (locs ++ L) ag hp hZ e1.symm (by rw [← e2]; exact X'.warmed.alike) (by rw [e1]; exact hP1) hK1 hD1
    ⟨Nat.le_trans hS.1 (by rw [e1]; exact hz), fun q h1 h2 => by rw [e1, hk q (Nat.lt_of_lt_of_le h1 hS.1) (fun z => h2 (hA1 q z))]; exact hS.2.1 q h1 h2, fun q hq => by
      rcases List.mem_append.mp hq with h | h
      · exact hS.2.2 q h
      · exact hA1 _ (hL q h)⟩ T' rfl X'
  exact ⟨t2, st t2 a1, b1⟩
end
def MCk (M : MI) (n : Nat) : Prop := M.1.name = "<init>" ∧ Cond.instanceMethod M.1 ∈ lw_g ∧ Cond.initialized M.1.cls ∈ lw_g ∧ Cond.code M.1 M.2.1 M.2.2.1 M.2.2.2 ∈ lw_g ∧ (M.1.cls ≠ "java/lang/invoke/MethodHandle" ∧ M.1.cls ≠ "java/lang/invoke/VarHandle" ∧ (parseMethodDescriptor M.1.desc).map (fun d => d.parameters.length) = some n) ∧ M.2.2.1 ≤ 60 ∧ M.2.2.2 = none
section
variable {G : GN} {ll ll' : List (Nat × List Nat)} {ck sl mc ms n0 d n i a : Nat} {Ph : Hp → Prop} {M M' : MI} {pc : Nat} {L : List (Option AV)} {st st0 av : List AV} {h : Hp}
theorem nn_callI (hRm : d + 1 ≤ G.2.1.frames ∧ 100 * (d + 1) ≤ G.2.1.locals) (hCk : ck + mc ≤ G.2.1.cells ∧ sl + ms ≤ G.2.1.slots) (hd : decode M.2.1 pc = .ok (.invokespecial i, 3)) (hm : MCk M' n) (hl : Cond.methodLink M.1.cls i M'.1 ∈ lw_g) (hn : av.length = n) (hst : st0 = av.reverse ++ .inr (.inr a) :: st) (hw : wtA st ≤ 8) (hn0 : ll.length = n0) (hoL : okLo n0 L = true) (hoS : okSt n0 st = true) (hG : OKN n0 G)
    (k : CNt d mc ms M' (.inr (.inr a) :: av) ll h ll' Ph) (kk : ∀ h' : Hp, Ph h' → WNc G ll' (ck + mc) (sl + ms) M (pc + 3) L st h') : WNc G ll ck sl M pc L st0 h := by
  intro E A p l e s m args below meth c H locs ls F hX hA hK hP hD hS hL
  obtain ⟨m0, m1, m3, m4, m5, m6, m7⟩ := hm
  have hts := F.1.2.2.2.2.2.2
  have hF := w_free hD hS hA
  have ew : wsM M' = Cond.code M'.1 M'.2.1 M'.2.2.1 none :: lw_g := by
    unfold wsM
    rw [m7]
  have cb : CallB G.2.1 s args M.1.cls i M'.1 M'.2.1 M'.2.2.1 none (wsM M') (rmN d mc ms) mc ms n := callB_of n hts (wsM_good m4) ew rfl rfl (hts _ m3) (hts _ hl) m5 ⟨hRm.1, by show 8 + (M'.2.2.1 + 11) + 100 * d ≤ G.2.1.locals; have := hRm.2; omega⟩
  subst hn0
  refine nn_call0 (A1 := va_A (wldN E h 0 ll) H.size) (va_runI (As := av.map (tr E)) (rest := st.map (tr E)) (b := E.2.1 a) ⟨F.1.1, F.1.2.1, F.1.2.2.1, F.1.2.2.2.2.2.1, hts⟩ (k E H.size l) ⟨cb, m0, hts _ m1⟩ ⟨WLDN.blind, fun U hU hW => ⟨rfl, WLDN.at F.2.2 hX hA hK hP hD hS hU hW⟩⟩ rfl (by simpa using hn) hL.1 (by subst hst; simp [List.map_reverse]; rfl) (lv_room (by rw [wtA_eq]; exact hw)) hd hCk) hS hF
    (fun E' h' t H1 locs1 ag hp hZ ht hvm hP1 hK1 hD1 hS1 => ?_)
  have kk2 := kk h' hp E' A p l e s m args below meth c H1 locs1 ls ⟨F.1, hG.1 E E' A s args l c meth ag F.2.1, hZ⟩ (XT_agr ag hX) hA (va_K.moved hvm.symm hK1) hP1 (hD1.weaken (fun _ q _ z => hF q.1 z)) hS1 (lvO_agr ag hoL hL)
  rw [st_agr ag hoS] at kk2
  intro Ts hT X
  obtain ⟨t, a1, b1⟩ := kk2 Ts hT X
  exact ⟨t, a1, hG.2 E E' A below args s t ag b1⟩
theorem nn_callIN (hRm : d + 1 ≤ G.2.1.frames ∧ 100 * (d + 1) ≤ G.2.1.locals) (hCk : ck + mc ≤ G.2.1.cells ∧ sl + ms ≤ G.2.1.slots) (hd : decode M.2.1 pc = .ok (.invokespecial i, 3)) (hm : MCk M' n) (hl : (M.1.cls, i, M'.1) ∈ nestL) (hn : av.length = n) (hst : st0 = av.reverse ++ .inr (.inr a) :: st) (hw : wtA st ≤ 8) (hn0 : ll.length = n0) (hoL : okLo n0 L = true) (hoS : okSt n0 st = true) (hG : OKN n0 G)
    (k : CNt d mc ms M' (.inr (.inr a) :: av) ll h ll' Ph) (kk : ∀ h' : Hp, Ph h' → WNc G ll' (ck + mc) (sl + ms) M (pc + 3) L st h') : WNc G ll ck sl M pc L st0 h := by
  intro E A p l e s m args below meth c H locs ls F hX hA hK hP hD hS hL
  obtain ⟨m0, m1, m3, m4, m5, m6, m7⟩ := hm
  have hts := F.1.2.2.2.2.2.2
  have hF := w_free hD hS hA
  have ew : wsM M' = Cond.code M'.1 M'.2.1 M'.2.2.1 none :: lw_g := by
    unfold wsM
    rw [m7]
  have cb : va_CN G.2.1 s args M.1.cls i M'.1 "CordPens" M'.2.1 M'.2.2.1 none (wsM M') (rmN d mc ms) mc ms n := va_cnB n hts (wsM_good m4) ew rfl rfl (hX.2.2.2.2 _ hl) (hts _ m3) m5 ⟨hRm.1, by show 8 + (M'.2.2.1 + 11) + 100 * d ≤ G.2.1.locals; have := hRm.2; omega⟩
  subst hn0
  refine nn_call0 (A1 := va_A (wldN E h 0 ll) H.size) (va_runIN (As := av.map (tr E)) (rest := st.map (tr E)) (b := E.2.1 a) ⟨F.1.1, F.1.2.1, F.1.2.2.1, F.1.2.2.2.2.2.1, hts⟩ (k E H.size l) ⟨cb, m0, hts _ m1⟩ ⟨WLDN.blind, fun U hU hW => ⟨rfl, WLDN.at F.2.2 hX hA hK hP hD hS hU hW⟩⟩ rfl (by simpa using hn) hL.1 (by subst hst; simp [List.map_reverse]; rfl) (lv_room (by rw [wtA_eq]; exact hw)) hd hCk) hS hF
    (fun E' h' t H1 locs1 ag hp hZ ht hvm hP1 hK1 hD1 hS1 => ?_)
  have kk2 := kk h' hp E' A p l e s m args below meth c H1 locs1 ls ⟨F.1, hG.1 E E' A s args l c meth ag F.2.1, hZ⟩ (XT_agr ag hX) hA (va_K.moved hvm.symm hK1) hP1 (hD1.weaken (fun _ q _ z => hF q.1 z)) hS1 (lvO_agr ag hoL hL)
  rw [st_agr ag hoS] at kk2
  intro Ts hT X
  obtain ⟨t, a1, b1⟩ := kk2 Ts hT X
  exact ⟨t, a1, hG.2 E E' A below args s t ag b1⟩
end
/-! .. and into the layer of whole cells -/
theorem fvsN_eq (E : EV) (h : Hp) (a : Nat) : ∀ (ts : List Nat) (k : Nat), ts.all (fun t => decide (t ≠ 2)) = true → fvsN E h a k ts = fvs E h a k ts
  | [], k, _ => rfl
  | t :: r, k, q => by
    rw [List.all_cons, Bool.and_eq_true] at q
    have h1 : t ≠ 2 := of_decide_eq_true q.1
    simp only [fvsN, fvs]
    rw [fvsN_eq E h a r (k + 1) q.2]
    congr 1
    match t, h1 with
    | 0, _ => rfl
    | 1, _ => rfl
    | t + 3, _ => rfl
theorem wldN_eq (E : EV) (h : Hp) : ∀ (l : List (Nat × List Nat)) (b : Nat), l.all (fun q => decide (100 ≤ q.1) || q.2.all (fun t => decide (t ≠ 2))) = true → wldN E h b l = wld E h b l
  | [], b, _ => rfl
  | q :: r, b, hq => by
    rw [List.all_cons, Bool.and_eq_true] at hq
    simp only [wldN, wld]
    rw [wldN_eq E h r (b + 1) hq.2]
    congr 2
    obtain ⟨n, ts⟩ := q
    by_cases hn : n < 100
    · have h1 := hq.1
      have : decide (100 ≤ n) = false := decide_eq_false (by omega)
      rw [this, Bool.false_or] at h1
      rw [cellN_obj hn, cellE_obj hn, fvsN_eq E h b ts 0 h1]
    · by_cases h1 : n = 101
      · subst h1
        rfl
      · skip
        have ea : cellN E h b (n, ts) = .inl (E.2.2 (n - 100), ts.headD 0, .inl fun j => Int32.ofInt (h b j)) := by
          unfold cellN
          split
          · rename_i q
            injection q
            omega
          · rename_i q
            injection q with q1 q2
            subst q1; subst q2
            rw [if_neg hn]
        have eb : cellE E h b (n, ts) = .inl (E.2.2 (n - 100), ts.headD 0, .inl fun j => Int32.ofInt (h b j)) := by
          unfold cellE
          split
          · rename_i q
            injection q
            omega
          · rename_i q
            injection q with q1 q2
            subst q1; subst q2
            rw [if_neg hn]
        rw [ea, eb]
theorem wN_clsq {n : Nat} {E : EV} {h : Hp} (hn : (SH.take n).all (fun q => decide (100 ≤ q.1) || q.2.all (fun t => decide (t ≠ 2))) = true) : wldN E h 0 (SH.take n) = clsq n E h := wldN_eq E h _ 0 hn
def GW (n : Nat) (Pm : EV → (Nat → Prop) → State → Array Value → Launch → Code → Prop) (G : GN) (ck sl : Nat) : GP := (Pm, n, G.2.1, ck, sl, G.2.2)
theorem WNc.toG {n : Nat} {Pm : EV → (Nat → Prop) → State → Array Value → Launch → Code → Prop} {G : GN} {ll : List (Nat × List Nat)} {ck sl : Nat} {M : MI} {pc : Nat} {L : List (Option AV)} {st : List AV} {h : Hp} (hn : (SH.take n).all (fun q => decide (100 ≤ q.1) || q.2.all (fun t => decide (t ≠ 2))) = true) (hll : ll = SH.take n) (hPm : ∀ E A s args l c meth, G.1 E A s args l c meth → Pm E A s args l c) (k : Zr n h → WG (GW n Pm G ck sl) M pc L st h) : WNc G ll ck sl M pc L st h := by
  intro E A p l e s m args below meth c H locs ls F hX hA hK hP hD hS hL
  subst hll
  rw [wN_clsq hn] at hP hD
  exact k (fun a k q => F.2.2 a k (by rw [List.length_take]; omega)) E A p l e s m args below meth c H locs ls ⟨F.1, hPm _ _ _ _ _ _ _ F.2.1⟩ hX hA hK hP hD hS hL
theorem gw_vret {n n0 d mc ms ck sl : Nat} {Ph : Hp → Prop} {Pm : EV → (Nat → Prop) → State → Array Value → Launch → Code → Prop} {M : MI} {pc : Nat} {L : List (Option AV)} {h : Hp} (hn : (SH.take n).all (fun q => decide (100 ≤ q.1) || q.2.all (fun t => decide (t ≠ 2))) = true) (hd : decode M.2.1 pc = .ok (.return_, 1)) (hr : M.2.2.2 = none) (hck : ck ≤ mc ∧ sl ≤ ms) (hz : Zr (SH.take n).length h) (hp : Ph h) : WG (GW n Pm (GC n0 d mc ms (SH.take n) Ph) ck sl) M pc L [] h := by
  intro E A p l e s m args below meth c H locs ls F hX hA hK hP hD hS hL
  show W p l e (rmN d mc ms) s m args below meth c H locs ck sl (MQ below (QC n0 (SH.take n) Ph E A) args s mc ms A) (F0 m pc ls [])
  refine W.widen (k := mc) (n := ms) hck.1 hck.2 ?_
  have hP' : va_P E.1 vwCl (wldN E h 0 (SH.take n)) H := by rw [wN_clsq hn]; exact hP
  have hD' : va_D A (wldN E h 0 (SH.take n)) := by rw [wN_clsq hn]; exact hD
  exact W.vret F.1.1 F.1.2.1 (F.1.2.2.2.1.trans hr) (fun t ht hW => ⟨E, h, agr.rf, rfl, hp, hz, by rw [ht]; exact hP', va_K.moved hW.alike hK, hD', hS.F ht⟩) hS.2.2 hd F.1.2.2.2.2.1
