/-! THE GENERAL LAYER: worlds that are a beginning of SH, any room, any end -/
abbrev GP : Type := (EV → (Nat → Prop) → State → Array Value → Launch → Code → Prop) × Nat × Room × Nat × Nat × (EV → (Nat → Prop) → List Frame → Array Value → State → State → Prop)
def clsq (n : Nat) (E : EV) (h : Hp) : va_W := wld E h 0 (SH.take n)
theorem clsq_at {n : Nat} {E : EV} {h : Hp} {a : Nat} {q : Nat × List Nat} (hq : ix (SH.take n) a = some q) : (clsq n E h)[a]? = some (E.2.1 a, cellE E h a q) := by
  rw [ix_eq] at hq
  rw [clsq, wld_at, hq]
  simp
theorem clsq_set {n : Nat} {E : EV} {h h' : Hp} {a : Nat} {q : Nat × List Nat} (hq : ix (SH.take n) a = some q) (e : ∀ a' k, a' ≠ a → h' a' k = h a' k) : clsq n E h' = (clsq n E h).set a (E.2.1 a, cellE E h' a q) := by
  rw [ix_eq] at hq
  exact wld_set (SH.take n) hq e
theorem shq {n a : Nat} {q : Nat × List Nat} (h : a < n) (hs : ix SH a = some q) : ix (SH.take n) a = some q := by
  rw [ix_eq] at hs ⊢
  rw [List.getElem?_take, if_pos h]
  exact hs
def QQq (n : Nat) (E : EV) (A : Nat → Prop) (post : Pst) : Array Value → State → Outcome → State → Prop := fun _ st oc t =>
  ∃ (v : Option AV) (h' : Hp), oc = .returned (v.map (tr E)) ∧ post v h' ∧ va_P E.1 vwCl (clsq n E h') t.heap ∧ KK E t ∧ va_D A (clsq n E h') ∧ va_F A st t
def WLDq (n : Nat) (E : EV) (h : Hp) (sz : Nat) (U : State) : Prop := U.heap.size = sz ∧ va_P E.1 vwCl (clsq n E h) U.heap ∧ KK E U ∧ va_D (fun _ => True) (clsq n E h) ∧ XT E (va_A (clsq n E h) sz) U U.heap
def Clq (n : Nat) (d : Nat) (M : MI) (av : List AV) (h : Hp) (post : Pst) : Prop :=
  ∀ (E : EV) (sz : Nat) (l : Launch), Met l M.1 (wsM M) (rmD d) (va_Pc (av.map (tr E)) (WLDq n E h sz)) (QQq n E (va_A (clsq n E h) sz) post) 0 0 (va_A (clsq n E h) sz)
theorem take82 : SH.take 82 = SH := rfl
theorem clsq82 {E : EV} {h : Hp} : clsq 82 E h = cls E h := by rw [clsq, take82, cls]
theorem Clq82 {d : Nat} {M : MI} {av : List AV} {h : Hp} {post : Pst} (k : Cl d M av h post) : Clq 82 d M av h post := by
  intro E sz l
  have q := k E sz l
  have e1 : WLDq 82 E h sz = WLD E h sz := by
    funext U
    unfold WLDq WLD
    rw [clsq82]
  have e2 : ∀ A, QQq 82 E A post = QQ E A post := fun A => by
    funext a st oc t
    unfold QQq QQ
    simp only [clsq82]
  rw [e1, e2, clsq82]
  exact q
def WG (G : GP) (M : MI) (pc : Nat) (L : List (Option AV)) (st : List AV) (h : Hp) : Prop :=
  ∀ (E : EV) (A : Nat → Prop) (p : Program) (l : Launch) (e : Env) (s : State) (m : MethodId) (args : Array Value) (below : List Frame) (meth : Method) (c : Code) (H : Heap) (locs : List Loc) (ls : Array Slot),
    (FX M p s m args meth c ∧ G.1 E A s args l c) → XT E A s s.heap → (∀ q, s.heap.size ≤ q → A q) → KK E s → va_P E.1 vwCl (clsq G.2.1 E h) H → va_D A (clsq G.2.1 E h) → va_S A s.heap H locs → lvO E ls M.2.2.1 L →
    W p l e G.2.2.1 s m args below meth c H locs G.2.2.2.1 G.2.2.2.2.1 (G.2.2.2.2.2 E A below args s) (F0 m pc ls (st.map (tr E)))
def GQ (n d : Nat) (post : Pst) : GP := (fun _ _ _ _ _ _ => True, n, rmD d, 0, 0, fun E A below args s => MQ below (QQq n E A post) args s 0 0 A)
theorem WLDq.blind {n : Nat} {E : EV} {h : Hp} {sz : Nat} {av : List Value} : FrameBlind (va_Pc av (WLDq n E h sz)) := by
  intro a U g mk q
  obtain ⟨q0, q1, qP, qK, qD, qX⟩ := q
  refine ⟨q0, q1, qP, va_K.moved (u := U) (U := U.calling g mk a) (Vm.Alike.refl U.vm) qK, qD, ?_⟩
  exact ⟨vk_S.moved (u := U) (U := U.calling g mk a) (Vm.Alike.refl U.vm) qX.1, va_Z.moved (u := U) (U := U.calling g mk a) (Vm.Alike.refl U.vm) qX.2.1, va_Zq.moved (u := U) (U := U.calling g mk a) (Vm.Alike.refl U.vm) qX.2.2.1, fun i q hq => (qX.2.2.2.1 i q hq).same (U := U.calling g mk a) rfl, fun q hq => va_Nw.same (U := U.calling g mk a) rfl rfl (qX.2.2.2.2 q hq)⟩
theorem clsq_free {n : Nat} {E : EV} {h : Hp} {A : Nat → Prop} {H0 H : Heap} {locs : List Loc} (hD : va_D A (clsq n E h)) (hS : va_S A H0 H locs) (hA : ∀ q, H0.size ≤ q → A q) : ∀ q, va_A (clsq n E h) H.size q → A q := by
  intro q hq
  rcases hq with ⟨k, e, hk⟩ | hq
  · exact hD.2 k _ hk
  · exact hA q (Nat.le_trans hS.1 hq)
theorem WLDq.at {n : Nat} {E : EV} {h : Hp} {A : Nat → Prop} {s U : State} {H : Heap} {locs : List Loc} (hX : XT E A s s.heap) (hA : ∀ q, s.heap.size ≤ q → A q) (hK : KK E s) (hP : va_P E.1 vwCl (clsq n E h) H) (hD : va_D A (clsq n E h)) (hS : va_S A s.heap H locs) (hU : U.heap = H) (hW : s.WarmedH U.vm) : WLDq n E h H.size U := by
  refine ⟨by rw [hU], by rw [hU]; exact hP, va_K.moved hW.alike hK, hD.weaken (fun _ _ _ _ => trivial), ?_⟩
  have := hX.call hS hW (clsq_free hD hS hA)
  rw [hU]
  exact this
theorem Clq.of {n : Nat} {M : MI} {d : Nat} {av : List AV} {h : Hp} {post : Pst} {L : List (Option AV)} (hy : plainName M.1.cls = true) (hn : wtA av ≤ M.2.2.1) (hs : entL M.2.2.1 av = L) (k : WG (GQ n d post) M 0 L [] h) : Clq n d M av h post := by
  intro E sz l
  refine Met.ofW (cc := M.2.1) (maxL := M.2.2.1) (ret := M.2.2.2) hy rfl ?_
  intro p e s m args below meth c s₁ B hml hv
  obtain ⟨rfl, hsz, hP, hK, hD0, hX⟩ := hv
  subst hsz
  have hts := atoms_spec (ws := wsM M) B.pre
  have hl := lv_entry (av.map (tr E)) (n := M.2.2.1) (by rw [slA_len]; exact hn)
  rw [lg_entry_eq]
  refine k E (va_A (clsq n E h) s.heap.size) p l e s m _ below meth c s.heap [] _ ⟨⟨B.exec, B.bytes, hml, B.returns, B.notSynchronized, findClass_of_methodNamed B.named, fun w hw => hts w (List.mem_cons_of_mem _ hw)⟩, trivial⟩ hX (fun q hq => Or.inr hq) hK hP (hD0.self) va_S.rf ⟨hl.1, hl.2.1, fun i v hi => ?_⟩
  subst hs
  have := hl.2.2 _ (entL_in E av M.2.2.1 0 i v hi)
  simpa using this
section
variable {p : Program} {l : Launch} {e : Env} {R : Room} {s : State} {m : MethodId} {args : Array Value} {below : List Frame} {meth : Method} {c : Code} {H : Heap} {locs : List Loc} {ck sl nS : Nat} {Q : State → Prop} {pc : Nat} {ls : Array Slot} {rest st0 : List Value} {a : Array Value}
theorem gg_call0 {E : EV} {A A1 : Nat → Prop} {P : Pst} (hr : va_Run p l e R s m args below meth c H locs ck sl 0 0 (F0 m pc ls st0) rest (QQq nS E A1 P a) A1) (hS : va_S A s.heap H locs) (hA1 : ∀ q, A1 q → A q)
    (kk : ∀ (v : Option AV) (h' : Hp) (t : State) (H1 : Heap) (locs1 : List Loc), t.heap = H1 → s.vm.Alike t.vm → P v h' → va_P E.1 vwCl (clsq nS E h') H1 → KK E t → va_D A1 (clsq nS E h') → va_S A s.heap H1 locs1 → W p l e R s m args below meth c H1 locs1 ck sl Q (F0 m (pc + 3) ls ((v.map (tr E)).toList ++ rest))) :
    W p l e R s m args below meth c H locs ck sl Q (F0 m pc ls st0) := by
  intro T hT X
  obtain ⟨v, st₀, t, T', L, h0, X', hL, e1, e2, ⟨v', h', hv, hp, hP1, hK1, hD1, hz, hk⟩, st⟩ := hr T hT X
  cases hv
  rw [h0] at hz hk
  obtain ⟨t2, a1, b1⟩ := kk v' h' t T'.heap (locs ++ L) e1.symm (by rw [← e2]; exact X'.warmed.alike) hp (by rw [e1]; exact hP1) hK1 hD1
    ⟨Nat.le_trans hS.1 (by rw [e1]; exact hz), fun q h1 h2 => by rw [e1, hk q (Nat.lt_of_lt_of_le h1 hS.1) (fun z => h2 (hA1 q z))]; exact hS.2.1 q h1 h2, fun q hq => by
      rcases List.mem_append.mp hq with h | h
      · exact hS.2.2 q h
      · exact hA1 _ (hL q h)⟩ T' rfl X'
  exact ⟨t2, st t2 a1, b1⟩
end
section
variable {G : GP} {M : MI} {pc : Nat} {L L' : List (Option AV)} {st : List AV} {h : Hp}
theorem gg_iconst {n : Int} (hd : decode M.2.1 pc = .ok (.iconst n, 1)) (k : WG G M (pc + 1) L (.inl n :: st) h) : WG G M pc L st h := by
  intro E A p l e s m args below meth c H locs ls F hX hA hK hP hD hS hL
  exact lv_iconst F.1.1 F.1.2.1 hd rfl (k E A p l e s m args below meth c H locs ls F hX hA hK hP hD hS hL)
theorem gg_bipush {n : Int} (hd : decode M.2.1 pc = .ok (.bipush n, 2)) (hn : (Int8.ofInt n).toInt32 = Int32.ofInt n) (k : WG G M (pc + 2) L (.inl n :: st) h) : WG G M pc L st h := by
  intro E A p l e s m args below meth c H locs ls F hX hA hK hP hD hS hL
  exact lv_bipush F.1.1 F.1.2.1 hd hn (k E A p l e s m args below meth c H locs ls F hX hA hK hP hD hS hL)
theorem gg_sipush {n : Int} (hd : decode M.2.1 pc = .ok (.sipush n, 3)) (hn : (Int16.ofInt n).toInt32 = Int32.ofInt n) (k : WG G M (pc + 3) L (.inl n :: st) h) : WG G M pc L st h := by
  intro E A p l e s m args below meth c H locs ls F hX hA hK hP hD hS hL
  exact lv_sipush F.1.1 F.1.2.1 hd hn (k E A p l e s m args below meth c H locs ls F hX hA hK hP hD hS hL)
theorem gg_lconst {n : Fin 2} {z : Int} (hd : decode M.2.1 pc = .ok (.lconst n, 1)) (hn : Int64.ofNat (n : Nat) = Int64.ofInt z) (k : WG G M (pc + 1) L (.inr (.inl z) :: st) h) : WG G M pc L st h := by
  intro E A p l e s m args below meth c H locs ls F hX hA hK hP hD hS hL
  exact lv_lconst F.1.1 F.1.2.1 hd hn (k E A p l e s m args below meth c H locs ls F hX hA hK hP hD hS hL)
theorem gg_ldc {i : Nat} {v : Int32} {z : Int} (hd : decode M.2.1 pc = .ok (.ldc i, 2)) (hw : Cond.constant M.1.cls i v ∈ lw_g) (hz : v = Int32.ofInt z) (k : WG G M (pc + 2) L (.inl z :: st) h) : WG G M pc L st h := by
  intro E A p l e s m args below meth c H locs ls F hX hA hK hP hD hS hL
  subst hz
  exact lv_ldc F.1.1 F.1.2.1 F.1.2.2.2.2.2.1 (F.1.2.2.2.2.2.2 _ hw) hd (k E A p l e s m args below meth c H locs ls F hX hA hK hP hD hS hL)
theorem gg_ldcw {i : Nat} {v : Int32} {z : Int} (hd : decode M.2.1 pc = .ok (.ldc_w i, 3)) (hw : Cond.constant M.1.cls i v ∈ lw_g) (hz : v = Int32.ofInt z) (k : WG G M (pc + 3) L (.inl z :: st) h) : WG G M pc L st h := by
  intro E A p l e s m args below meth c H locs ls F hX hA hK hP hD hS hL
  subst hz
  exact lv_ldcw F.1.1 F.1.2.1 F.1.2.2.2.2.2.1 (F.1.2.2.2.2.2.2 _ hw) hd (k E A p l e s m args below meth c H locs ls F hX hA hK hP hD hS hL)
theorem gg_ldc2 {i : Nat} {v : Int64} {z : Int} (hd : decode M.2.1 pc = .ok (.ldc2_w i, 3)) (hw : Cond.constantLong M.1.cls i v ∈ lw_g) (hz : v = Int64.ofInt z) (k : WG G M (pc + 3) L (.inr (.inl z) :: st) h) : WG G M pc L st h := by
  intro E A p l e s m args below meth c H locs ls F hX hA hK hP hD hS hL
  subst hz
  exact lv_ldc2 F.1.1 F.1.2.1 F.1.2.2.2.2.2.1 (F.1.2.2.2.2.2.2 _ hw) hd (k E A p l e s m args below meth c H locs ls F hX hA hK hP hD hS hL)
theorem gg_iload_n {q : Fin 4} {i : Nat} {x : Int} (hd : decode M.2.1 pc = .ok (.iload_n q, 1)) (hi : (q : Nat) = i) (hl : ix L i = some (some (.inl x))) (k : WG G M (pc + 1) L (.inl x :: st) h) : WG G M pc L st h := by
  intro E A p l e s m args below meth c H locs ls F hX hA hK hP hD hS hL
  exact lv_iload_n F.1.1 F.1.2.1 hd hi (hL.2.2 _ _ hl) (k E A p l e s m args below meth c H locs ls F hX hA hK hP hD hS hL)
theorem gg_iload {i : Nat} {x : Int} (hd : decode M.2.1 pc = .ok (.iload i, 2)) (hl : ix L i = some (some (.inl x))) (k : WG G M (pc + 2) L (.inl x :: st) h) : WG G M pc L st h := by
  intro E A p l e s m args below meth c H locs ls F hX hA hK hP hD hS hL
  exact lv_iload F.1.1 F.1.2.1 hd (hL.2.2 _ _ hl) (k E A p l e s m args below meth c H locs ls F hX hA hK hP hD hS hL)
theorem gg_lload_n {q : Fin 4} {i : Nat} {x : Int} (hd : decode M.2.1 pc = .ok (.lload_n q, 1)) (hi : (q : Nat) = i) (hl : ix L i = some (some (.inr (.inl x)))) (k : WG G M (pc + 1) L (.inr (.inl x) :: st) h) : WG G M pc L st h := by
  intro E A p l e s m args below meth c H locs ls F hX hA hK hP hD hS hL
  exact lv_lload_n F.1.1 F.1.2.1 hd hi (hL.2.2 _ _ hl) (k E A p l e s m args below meth c H locs ls F hX hA hK hP hD hS hL)
theorem gg_lload {i : Nat} {x : Int} (hd : decode M.2.1 pc = .ok (.lload i, 2)) (hl : ix L i = some (some (.inr (.inl x)))) (k : WG G M (pc + 2) L (.inr (.inl x) :: st) h) : WG G M pc L st h := by
  intro E A p l e s m args below meth c H locs ls F hX hA hK hP hD hS hL
  exact lv_lload F.1.1 F.1.2.1 hd (hL.2.2 _ _ hl) (k E A p l e s m args below meth c H locs ls F hX hA hK hP hD hS hL)
theorem gg_aload_n {q : Fin 4} {i : Nat} {x : Nat} (hd : decode M.2.1 pc = .ok (.aload_n q, 1)) (hi : (q : Nat) = i) (hl : ix L i = some (some (.inr (.inr x)))) (k : WG G M (pc + 1) L (.inr (.inr x) :: st) h) : WG G M pc L st h := by
  intro E A p l e s m args below meth c H locs ls F hX hA hK hP hD hS hL
  exact lv_aload_n F.1.1 F.1.2.1 hd hi (hL.2.2 _ _ hl) (k E A p l e s m args below meth c H locs ls F hX hA hK hP hD hS hL)
theorem gg_aload {i : Nat} {x : Nat} (hd : decode M.2.1 pc = .ok (.aload i, 2)) (hl : ix L i = some (some (.inr (.inr x)))) (k : WG G M (pc + 2) L (.inr (.inr x) :: st) h) : WG G M pc L st h := by
  intro E A p l e s m args below meth c H locs ls F hX hA hK hP hD hS hL
  exact lv_aload F.1.1 F.1.2.1 hd (hL.2.2 _ _ hl) (k E A p l e s m args below meth c H locs ls F hX hA hK hP hD hS hL)
theorem gg_istore_n {q : Fin 4} {i : Nat} {x : Int} (hd : decode M.2.1 pc = .ok (.istore_n q, 1)) (hi : (q : Nat) = i) (hc : ncat L i = true) (hn : i < M.2.2.1) (hs : L.set i (some (.inl x)) = L') (k : WG G M (pc + 1) L' st h) : WG G M pc L (.inl x :: st) h := by
  intro E A p l e s m args below meth c H locs ls F hX hA hK hP hD hS hL
  subst hs
  exact lv_istore_n F.1.1 F.1.2.1 hd hi hL.has hn rfl (fun ls2 h2 => k E A p l e s m args below meth c H locs ls2 F hX hA hK hP hD hS (lvO.set1 (v := .inl x) hc h2))
theorem gg_istore {i : Nat} {x : Int} (hd : decode M.2.1 pc = .ok (.istore i, 2)) (hc : ncat L i = true) (hn : i < M.2.2.1) (hs : L.set i (some (.inl x)) = L') (k : WG G M (pc + 2) L' st h) : WG G M pc L (.inl x :: st) h := by
  intro E A p l e s m args below meth c H locs ls F hX hA hK hP hD hS hL
  subst hs
  exact lv_istore F.1.1 F.1.2.1 hd hL.has hn rfl (fun ls2 h2 => k E A p l e s m args below meth c H locs ls2 F hX hA hK hP hD hS (lvO.set1 (v := .inl x) hc h2))
theorem gg_lstore_n {q : Fin 4} {i : Nat} {x : Int} (hd : decode M.2.1 pc = .ok (.lstore_n q, 1)) (hi : (q : Nat) = i) (hc : ncat L i = true) (hn : i + 1 < M.2.2.1) (hs : (L.set i (some (.inr (.inl x)))).set (i + 1) none = L') (k : WG G M (pc + 1) L' st h) : WG G M pc L (.inr (.inl x) :: st) h := by
  intro E A p l e s m args below meth c H locs ls F hX hA hK hP hD hS hL
  subst hs
  exact lv_lstore_n F.1.1 F.1.2.1 hd hi hL.has hn rfl (fun ls2 h2 => k E A p l e s m args below meth c H locs ls2 F hX hA hK hP hD hS (lvO.set2 (v := .inr (.inl x)) hc h2))
theorem gg_lstore {i : Nat} {x : Int} (hd : decode M.2.1 pc = .ok (.lstore i, 2)) (hc : ncat L i = true) (hn : i + 1 < M.2.2.1) (hs : (L.set i (some (.inr (.inl x)))).set (i + 1) none = L') (k : WG G M (pc + 2) L' st h) : WG G M pc L (.inr (.inl x) :: st) h := by
  intro E A p l e s m args below meth c H locs ls F hX hA hK hP hD hS hL
  subst hs
  exact lv_lstore F.1.1 F.1.2.1 hd hL.has hn rfl (fun ls2 h2 => k E A p l e s m args below meth c H locs ls2 F hX hA hK hP hD hS (lvO.set2 (v := .inr (.inl x)) hc h2))
theorem gg_astore_n {q : Fin 4} {i : Nat} {x : Nat} (hd : decode M.2.1 pc = .ok (.astore_n q, 1)) (hi : (q : Nat) = i) (hc : ncat L i = true) (hn : i < M.2.2.1) (hs : L.set i (some (.inr (.inr x))) = L') (k : WG G M (pc + 1) L' st h) : WG G M pc L (.inr (.inr x) :: st) h := by
  intro E A p l e s m args below meth c H locs ls F hX hA hK hP hD hS hL
  subst hs
  exact lv_astore_n F.1.1 F.1.2.1 hd hi hL.has hn rfl (fun ls2 h2 => k E A p l e s m args below meth c H locs ls2 F hX hA hK hP hD hS (lvO.set1 (v := .inr (.inr x)) hc h2))
theorem gg_astore {i : Nat} {x : Nat} (hd : decode M.2.1 pc = .ok (.astore i, 2)) (hc : ncat L i = true) (hn : i < M.2.2.1) (hs : L.set i (some (.inr (.inr x))) = L') (k : WG G M (pc + 2) L' st h) : WG G M pc L (.inr (.inr x) :: st) h := by
  intro E A p l e s m args below meth c H locs ls F hX hA hK hP hD hS hL
  subst hs
  exact lv_astore F.1.1 F.1.2.1 hd hL.has hn rfl (fun ls2 h2 => k E A p l e s m args below meth c H locs ls2 F hX hA hK hP hD hS (lvO.set1 (v := .inr (.inr x)) hc h2))
theorem gg_iinc {i : Nat} {n x : Int} (hd : decode M.2.1 pc = .ok (.iinc i n, 3)) (hl : ix L i = some (some (.inl x))) (hc : ncat L i = true) (hn : i < M.2.2.1) (hs : L.set i (some (.inl (x + n))) = L') (k : WG G M (pc + 3) L' st h) : WG G M pc L st h := by
  intro E A p l e s m args below meth c H locs ls F hX hA hK hP hD hS hL
  subst hs
  obtain ⟨k0, hk0⟩ := List.getElem?_of_mem ((mem_lvl E L 0 (i, tr E (.inl x))).mpr ⟨i, _, hl, by simp⟩)
  exact lv_iinc (v := Int32.ofInt (x + n)) F.1.1 F.1.2.1 hd hL.has hk0 (by rw [Int32.ofInt_add]) hn rfl (fun ls2 h2 => k E A p l e s m args below meth c H locs ls2 F hX hA hK hP hD hS (lvO.set1 (v := .inl (x + n)) hc h2))
theorem gg_drop (i : Nat) (hs : L.set i none = L') (k : WG G M pc L' st h) : WG G M pc L st h := by
  subst hs
  intro E A p l e s m args below meth c H locs ls F hX hA hK hP hD hS hL
  refine k E A p l e s m args below meth c H locs ls F hX hA hK hP hD hS ⟨hL.1, hL.2.1, fun j w hj => ?_⟩
  rcases ix_set L i j _ _ hj with ⟨rfl, h2⟩ | ⟨hne, h2⟩
  · cases h2
  · exact hL.2.2 j w h2
theorem gg_iadd {x y : Int} (hd : decode M.2.1 pc = .ok (.iadd, 1)) (k : WG G M (pc + 1) L (.inl (x + y) :: st) h) : WG G M pc L (.inl y :: .inl x :: st) h := by
  intro E A p l e s m args below meth c H locs ls F hX hA hK hP hD hS hL
  refine lv_iadd F.1.1 F.1.2.1 hd ?_
  rw [← Int32.ofInt_add]
  exact k E A p l e s m args below meth c H locs ls F hX hA hK hP hD hS hL
theorem gg_isub {x y : Int} (hd : decode M.2.1 pc = .ok (.isub, 1)) (k : WG G M (pc + 1) L (.inl (x - y) :: st) h) : WG G M pc L (.inl y :: .inl x :: st) h := by
  intro E A p l e s m args below meth c H locs ls F hX hA hK hP hD hS hL
  refine lv_isub F.1.1 F.1.2.1 hd ?_
  rw [← Int32.ofInt_sub]
  exact k E A p l e s m args below meth c H locs ls F hX hA hK hP hD hS hL
theorem gg_imul {x y : Int} (hd : decode M.2.1 pc = .ok (.imul, 1)) (k : WG G M (pc + 1) L (.inl (x * y) :: st) h) : WG G M pc L (.inl y :: .inl x :: st) h := by
  intro E A p l e s m args below meth c H locs ls F hX hA hK hP hD hS hL
  refine lv_imul F.1.1 F.1.2.1 hd ?_
  rw [← Int32.ofInt_mul]
  exact k E A p l e s m args below meth c H locs ls F hX hA hK hP hD hS hL
theorem gg_ladd {x y : Int} (hd : decode M.2.1 pc = .ok (.ladd, 1)) (k : WG G M (pc + 1) L (.inr (.inl (x + y)) :: st) h) : WG G M pc L (.inr (.inl y) :: .inr (.inl x) :: st) h := by
  intro E A p l e s m args below meth c H locs ls F hX hA hK hP hD hS hL
  refine lv_ladd F.1.1 F.1.2.1 hd ?_
  rw [← Int64.ofInt_add]
  exact k E A p l e s m args below meth c H locs ls F hX hA hK hP hD hS hL
theorem gg_lsub {x y : Int} (hd : decode M.2.1 pc = .ok (.lsub, 1)) (k : WG G M (pc + 1) L (.inr (.inl (x - y)) :: st) h) : WG G M pc L (.inr (.inl y) :: .inr (.inl x) :: st) h := by
  intro E A p l e s m args below meth c H locs ls F hX hA hK hP hD hS hL
  refine lv_lsub F.1.1 F.1.2.1 hd ?_
  rw [← Int64.ofInt_sub]
  exact k E A p l e s m args below meth c H locs ls F hX hA hK hP hD hS hL
theorem gg_lmul {x y : Int} (hd : decode M.2.1 pc = .ok (.lmul, 1)) (k : WG G M (pc + 1) L (.inr (.inl (x * y)) :: st) h) : WG G M pc L (.inr (.inl y) :: .inr (.inl x) :: st) h := by
  intro E A p l e s m args below meth c H locs ls F hX hA hK hP hD hS hL
  refine lv_lmul F.1.1 F.1.2.1 hd ?_
  rw [← Int64.ofInt_mul]
  exact k E A p l e s m args below meth c H locs ls F hX hA hK hP hD hS hL
theorem gg_ineg {x : Int} (hd : decode M.2.1 pc = .ok (.ineg, 1)) (k : WG G M (pc + 1) L (.inl (-x) :: st) h) : WG G M pc L (.inl x :: st) h := by
  intro E A p l e s m args below meth c H locs ls F hX hA hK hP hD hS hL
  refine lv_ineg F.1.1 F.1.2.1 hd ?_
  rw [← Int32.ofInt_neg]
  exact k E A p l e s m args below meth c H locs ls F hX hA hK hP hD hS hL
theorem gg_lneg {x : Int} (hd : decode M.2.1 pc = .ok (.lneg, 1)) (k : WG G M (pc + 1) L (.inr (.inl (-x)) :: st) h) : WG G M pc L (.inr (.inl x) :: st) h := by
  intro E A p l e s m args below meth c H locs ls F hX hA hK hP hD hS hL
  refine lv_lneg F.1.1 F.1.2.1 hd ?_
  rw [← Int64.ofInt_neg]
  exact k E A p l e s m args below meth c H locs ls F hX hA hK hP hD hS hL
theorem gg_idiv {x y : Int} (hd : decode M.2.1 pc = .ok (.idiv, 1)) (hx : R32 x) (hy : R32 y) (h0 : y ≠ 0) (k : WG G M (pc + 1) L (.inl (x.tdiv y) :: st) h) : WG G M pc L (.inl y :: .inl x :: st) h := by
  intro E A p l e s m args below meth c H locs ls F hX hA hK hP hD hS hL
  refine lv_idiv F.1.1 F.1.2.1 hd (fun q => h0 ((eq32 hy r0).mp q)) ?_
  rw [← Int32.ofInt_tdiv (by exact hx.1) (by exact hx.2) (by exact hy.1) (by exact hy.2)]
  exact k E A p l e s m args below meth c H locs ls F hX hA hK hP hD hS hL
theorem gg_irem {x y : Int} (hd : decode M.2.1 pc = .ok (.irem, 1)) (hx : R32 x) (hy : R32 y) (h0 : y ≠ 0) (k : WG G M (pc + 1) L (.inl (x.tmod y) :: st) h) : WG G M pc L (.inl y :: .inl x :: st) h := by
  intro E A p l e s m args below meth c H locs ls F hX hA hK hP hD hS hL
  refine lv_irem F.1.1 F.1.2.1 hd (fun q => h0 ((eq32 hy r0).mp q)) ?_
  have e1 : Int32.ofInt x - Int32.ofInt x / Int32.ofInt y * Int32.ofInt y = Int32.ofInt (x.tmod y) := by
    rw [← Int32.ofInt_tdiv (by exact hx.1) (by exact hx.2) (by exact hy.1) (by exact hy.2), ← Int32.ofInt_mul, ← Int32.ofInt_sub]
    congr 1
    have := Int.tmod_add_tdiv_mul x y
    omega
  rw [e1]
  exact k E A p l e s m args below meth c H locs ls F hX hA hK hP hD hS hL
theorem gg_ldiv {x y : Int} (hd : decode M.2.1 pc = .ok (.ldiv, 1)) (hx : R64 x) (hy : R64 y) (h0 : y ≠ 0) (k : WG G M (pc + 1) L (.inr (.inl (x.tdiv y)) :: st) h) : WG G M pc L (.inr (.inl y) :: .inr (.inl x) :: st) h := by
  intro E A p l e s m args below meth c H locs ls F hX hA hK hP hD hS hL
  refine lv_ldiv F.1.1 F.1.2.1 hd (fun q => h0 ((eq64 hy ⟨by decide, by decide⟩).mp q)) ?_
  rw [← Int64.ofInt_tdiv (by exact hx.1) (by exact hx.2) (by exact hy.1) (by exact hy.2)]
  exact k E A p l e s m args below meth c H locs ls F hX hA hK hP hD hS hL
theorem gg_i2l {x : Int} (hd : decode M.2.1 pc = .ok (.i2l, 1)) (hx : R32 x) (k : WG G M (pc + 1) L (.inr (.inl x) :: st) h) : WG G M pc L (.inl x :: st) h := by
  intro E A p l e s m args below meth c H locs ls F hX hA hK hP hD hS hL
  exact lv_i2l F.1.1 F.1.2.1 hd (Int32.toInt64_ofInt (by exact hx.1) (by exact hx.2)) (k E A p l e s m args below meth c H locs ls F hX hA hK hP hD hS hL)
theorem gg_l2i {x : Int} (hd : decode M.2.1 pc = .ok (.l2i, 1)) (k : WG G M (pc + 1) L (.inl x :: st) h) : WG G M pc L (.inr (.inl x) :: st) h := by
  intro E A p l e s m args below meth c H locs ls F hX hA hK hP hD hS hL
  exact lv_l2i F.1.1 F.1.2.1 hd Int64.toInt32_ofInt (k E A p l e s m args below meth c H locs ls F hX hA hK hP hD hS hL)
theorem gg_dup {v : AV} (hd : decode M.2.1 pc = .ok (.dup, 1)) (hv : ∀ z, v ≠ .inr (.inl z)) (k : WG G M (pc + 1) L (v :: v :: st) h) : WG G M pc L (v :: st) h := by
  intro E A p l e s m args below meth c H locs ls F hX hA hK hP hD hS hL
  refine lv_dup F.1.1 F.1.2.1 hd ?_ (k E A p l e s m args below meth c H locs ls F hX hA hK hP hD hS hL)
  match v with
  | .inl z => rfl
  | .inr (.inl z) => exact absurd rfl (hv z)
  | .inr (.inr a) => rfl
theorem gg_dup2 {x : Int} {a : Nat} (hd : decode M.2.1 pc = .ok (.dup2, 1)) (k : WG G M (pc + 1) L (.inl x :: .inr (.inr a) :: .inl x :: .inr (.inr a) :: st) h) : WG G M pc L (.inl x :: .inr (.inr a) :: st) h := by
  intro E A p l e s m args below meth c H locs ls F hX hA hK hP hD hS hL
  exact lv_dup2_11 F.1.1 F.1.2.1 hd rfl rfl (k E A p l e s m args below meth c H locs ls F hX hA hK hP hD hS hL)
theorem gg_pop {v : AV} (hd : decode M.2.1 pc = .ok (.pop, 1)) (hv : ∀ z, v ≠ .inr (.inl z)) (k : WG G M (pc + 1) L st h) : WG G M pc L (v :: st) h := by
  intro E A p l e s m args below meth c H locs ls F hX hA hK hP hD hS hL
  refine lv_pop F.1.1 F.1.2.1 hd ?_ (k E A p l e s m args below meth c H locs ls F hX hA hK hP hD hS hL)
  match v with
  | .inl z => rfl
  | .inr (.inl z) => exact absurd rfl (hv z)
  | .inr (.inr a) => rfl
theorem gg_icmp_eq {x y off : Int} {tgt : Nat} (hd : decode M.2.1 pc = .ok (.if_icmp .eq off, 3)) (ht : (pc : Int) + off = (tgt : Int)) (hx : R32 x) (hy : R32 y) (kt : x = y → WG G M tgt L st h) (kf : ¬ x = y → WG G M (pc + 3) L st h) : WG G M pc L (.inl y :: .inl x :: st) h := by
  intro E A p l e s m args below meth c H locs ls F hX hA hK hP hD hS hL
  exact lv_icmp_eq F.1.1 F.1.2.1 hd ht (fun q => kt ((eq32 hx hy).mp q) E A p l e s m args below meth c H locs ls F hX hA hK hP hD hS hL) (fun q => kf (fun z => q ((eq32 hx hy).mpr z)) E A p l e s m args below meth c H locs ls F hX hA hK hP hD hS hL)
theorem gg_if_eq {x off : Int} {tgt : Nat} (hd : decode M.2.1 pc = .ok (.ifCond .eq off, 3)) (ht : (pc : Int) + off = (tgt : Int)) (hx : R32 x) (kt : x = 0 → WG G M tgt L st h) (kf : ¬ x = 0 → WG G M (pc + 3) L st h) : WG G M pc L (.inl x :: st) h := by
  intro E A p l e s m args below meth c H locs ls F hX hA hK hP hD hS hL
  exact lv_if_eq F.1.1 F.1.2.1 hd ht (fun q => kt ((eq32 hx r0).mp q) E A p l e s m args below meth c H locs ls F hX hA hK hP hD hS hL) (fun q => kf (fun z => q ((eq32 hx r0).mpr z)) E A p l e s m args below meth c H locs ls F hX hA hK hP hD hS hL)
theorem gg_icmp_lt {x y off : Int} {tgt : Nat} (hd : decode M.2.1 pc = .ok (.if_icmp .lt off, 3)) (ht : (pc : Int) + off = (tgt : Int)) (hx : R32 x) (hy : R32 y) (kt : x < y → WG G M tgt L st h) (kf : ¬ x < y → WG G M (pc + 3) L st h) : WG G M pc L (.inl y :: .inl x :: st) h := by
  intro E A p l e s m args below meth c H locs ls F hX hA hK hP hD hS hL
  exact lv_icmp_lt F.1.1 F.1.2.1 hd ht (fun q => kt ((lt32 hx hy).mp q) E A p l e s m args below meth c H locs ls F hX hA hK hP hD hS hL) (fun q => kf (fun z => q ((lt32 hx hy).mpr z)) E A p l e s m args below meth c H locs ls F hX hA hK hP hD hS hL)
theorem gg_if_lt {x off : Int} {tgt : Nat} (hd : decode M.2.1 pc = .ok (.ifCond .lt off, 3)) (ht : (pc : Int) + off = (tgt : Int)) (hx : R32 x) (kt : x < 0 → WG G M tgt L st h) (kf : ¬ x < 0 → WG G M (pc + 3) L st h) : WG G M pc L (.inl x :: st) h := by
  intro E A p l e s m args below meth c H locs ls F hX hA hK hP hD hS hL
  exact lv_if_lt F.1.1 F.1.2.1 hd ht (fun q => kt ((lt32 hx r0).mp q) E A p l e s m args below meth c H locs ls F hX hA hK hP hD hS hL) (fun q => kf (fun z => q ((lt32 hx r0).mpr z)) E A p l e s m args below meth c H locs ls F hX hA hK hP hD hS hL)
theorem gg_icmp_le {x y off : Int} {tgt : Nat} (hd : decode M.2.1 pc = .ok (.if_icmp .le off, 3)) (ht : (pc : Int) + off = (tgt : Int)) (hx : R32 x) (hy : R32 y) (kt : x ≤ y → WG G M tgt L st h) (kf : ¬ x ≤ y → WG G M (pc + 3) L st h) : WG G M pc L (.inl y :: .inl x :: st) h := by
  intro E A p l e s m args below meth c H locs ls F hX hA hK hP hD hS hL
  exact lv_icmp_le F.1.1 F.1.2.1 hd ht (fun q => kt ((le32 hx hy).mp q) E A p l e s m args below meth c H locs ls F hX hA hK hP hD hS hL) (fun q => kf (fun z => q ((le32 hx hy).mpr z)) E A p l e s m args below meth c H locs ls F hX hA hK hP hD hS hL)
theorem gg_if_le {x off : Int} {tgt : Nat} (hd : decode M.2.1 pc = .ok (.ifCond .le off, 3)) (ht : (pc : Int) + off = (tgt : Int)) (hx : R32 x) (kt : x ≤ 0 → WG G M tgt L st h) (kf : ¬ x ≤ 0 → WG G M (pc + 3) L st h) : WG G M pc L (.inl x :: st) h := by
  intro E A p l e s m args below meth c H locs ls F hX hA hK hP hD hS hL
  exact lv_if_le F.1.1 F.1.2.1 hd ht (fun q => kt ((le32 hx r0).mp q) E A p l e s m args below meth c H locs ls F hX hA hK hP hD hS hL) (fun q => kf (fun z => q ((le32 hx r0).mpr z)) E A p l e s m args below meth c H locs ls F hX hA hK hP hD hS hL)
theorem gg_icmp_gt {x y off : Int} {tgt : Nat} (hd : decode M.2.1 pc = .ok (.if_icmp .gt off, 3)) (ht : (pc : Int) + off = (tgt : Int)) (hx : R32 x) (hy : R32 y) (kt : y < x → WG G M tgt L st h) (kf : ¬ y < x → WG G M (pc + 3) L st h) : WG G M pc L (.inl y :: .inl x :: st) h := by
  intro E A p l e s m args below meth c H locs ls F hX hA hK hP hD hS hL
  exact lv_icmp_gt F.1.1 F.1.2.1 hd ht (fun q => kt ((lt32 hy hx).mp q) E A p l e s m args below meth c H locs ls F hX hA hK hP hD hS hL) (fun q => kf (fun z => q ((lt32 hy hx).mpr z)) E A p l e s m args below meth c H locs ls F hX hA hK hP hD hS hL)
theorem gg_if_gt {x off : Int} {tgt : Nat} (hd : decode M.2.1 pc = .ok (.ifCond .gt off, 3)) (ht : (pc : Int) + off = (tgt : Int)) (hx : R32 x) (kt : 0 < x → WG G M tgt L st h) (kf : ¬ 0 < x → WG G M (pc + 3) L st h) : WG G M pc L (.inl x :: st) h := by
  intro E A p l e s m args below meth c H locs ls F hX hA hK hP hD hS hL
  exact lv_if_gt F.1.1 F.1.2.1 hd ht (fun q => kt ((lt32 r0 hx).mp q) E A p l e s m args below meth c H locs ls F hX hA hK hP hD hS hL) (fun q => kf (fun z => q ((lt32 r0 hx).mpr z)) E A p l e s m args below meth c H locs ls F hX hA hK hP hD hS hL)
theorem gg_icmp_ge {x y off : Int} {tgt : Nat} (hd : decode M.2.1 pc = .ok (.if_icmp .ge off, 3)) (ht : (pc : Int) + off = (tgt : Int)) (hx : R32 x) (hy : R32 y) (kt : y ≤ x → WG G M tgt L st h) (kf : ¬ y ≤ x → WG G M (pc + 3) L st h) : WG G M pc L (.inl y :: .inl x :: st) h := by
  intro E A p l e s m args below meth c H locs ls F hX hA hK hP hD hS hL
  exact lv_icmp_ge F.1.1 F.1.2.1 hd ht (fun q => kt ((le32 hy hx).mp q) E A p l e s m args below meth c H locs ls F hX hA hK hP hD hS hL) (fun q => kf (fun z => q ((le32 hy hx).mpr z)) E A p l e s m args below meth c H locs ls F hX hA hK hP hD hS hL)
theorem gg_if_ge {x off : Int} {tgt : Nat} (hd : decode M.2.1 pc = .ok (.ifCond .ge off, 3)) (ht : (pc : Int) + off = (tgt : Int)) (hx : R32 x) (kt : 0 ≤ x → WG G M tgt L st h) (kf : ¬ 0 ≤ x → WG G M (pc + 3) L st h) : WG G M pc L (.inl x :: st) h := by
  intro E A p l e s m args below meth c H locs ls F hX hA hK hP hD hS hL
  exact lv_if_ge F.1.1 F.1.2.1 hd ht (fun q => kt ((le32 r0 hx).mp q) E A p l e s m args below meth c H locs ls F hX hA hK hP hD hS hL) (fun q => kf (fun z => q ((le32 r0 hx).mpr z)) E A p l e s m args below meth c H locs ls F hX hA hK hP hD hS hL)
theorem gg_icmp_ne {x y off : Int} {tgt : Nat} (hd : decode M.2.1 pc = .ok (.if_icmp .ne off, 3)) (ht : (pc : Int) + off = (tgt : Int)) (hx : R32 x) (hy : R32 y) (kt : ¬ x = y → WG G M tgt L st h) (kf : x = y → WG G M (pc + 3) L st h) : WG G M pc L (.inl y :: .inl x :: st) h := by
  intro E A p l e s m args below meth c H locs ls F hX hA hK hP hD hS hL
  exact lv_icmp_ne F.1.1 F.1.2.1 hd ht (fun q => kt (fun z => q ((eq32 hx hy).mpr z)) E A p l e s m args below meth c H locs ls F hX hA hK hP hD hS hL) (fun q => kf ((eq32 hx hy).mp (q)) E A p l e s m args below meth c H locs ls F hX hA hK hP hD hS hL)
theorem gg_if_ne {x off : Int} {tgt : Nat} (hd : decode M.2.1 pc = .ok (.ifCond .ne off, 3)) (ht : (pc : Int) + off = (tgt : Int)) (hx : R32 x) (kt : ¬ x = 0 → WG G M tgt L st h) (kf : x = 0 → WG G M (pc + 3) L st h) : WG G M pc L (.inl x :: st) h := by
  intro E A p l e s m args below meth c H locs ls F hX hA hK hP hD hS hL
  exact lv_if_ne F.1.1 F.1.2.1 hd ht (fun q => kt (fun z => q ((eq32 hx r0).mpr z)) E A p l e s m args below meth c H locs ls F hX hA hK hP hD hS hL) (fun q => kf ((eq32 hx r0).mp (q)) E A p l e s m args below meth c H locs ls F hX hA hK hP hD hS hL)
theorem gg_goto {off : Int} {tgt : Nat} (hd : decode M.2.1 pc = .ok (.goto off, 3)) (ht : (pc : Int) + off = (tgt : Int)) (k : WG G M tgt L st h) : WG G M pc L st h := by
  intro E A p l e s m args below meth c H locs ls F hX hA hK hP hD hS hL
  exact lv_goto F.1.1 F.1.2.1 hd ht (k E A p l e s m args below meth c H locs ls F hX hA hK hP hD hS hL)
theorem gg_lcmp_eq {x y off : Int} {tgt : Nat} (hd : decode M.2.1 pc = .ok (.lcmp, 1)) (hd2 : decode M.2.1 (pc + 1) = .ok (.ifCond .eq off, 3)) (ht : ((pc + 1 : Nat) : Int) + off = (tgt : Int)) (hx : R64 x) (hy : R64 y) (kt : x = y → WG G M tgt L st h) (kf : ¬ x = y → WG G M (pc + 1 + 3) L st h) : WG G M pc L (.inr (.inl y) :: .inr (.inl x) :: st) h := by
  intro E A p l e s m args below meth c H locs ls F hX hA hK hP hD hS hL
  refine W.lcmp F.1.1 F.1.2.1 hd ?_
  have e1 := cmp64_eq hx hy
  exact lv_if_eq F.1.1 F.1.2.1 hd2 ht (fun q => kt (e1.mp q) E A p l e s m args below meth c H locs ls F hX hA hK hP hD hS hL) (fun q => kf (fun z => q (e1.mpr z)) E A p l e s m args below meth c H locs ls F hX hA hK hP hD hS hL)
theorem gg_lcmp_ne {x y off : Int} {tgt : Nat} (hd : decode M.2.1 pc = .ok (.lcmp, 1)) (hd2 : decode M.2.1 (pc + 1) = .ok (.ifCond .ne off, 3)) (ht : ((pc + 1 : Nat) : Int) + off = (tgt : Int)) (hx : R64 x) (hy : R64 y) (kt : ¬ x = y → WG G M tgt L st h) (kf : x = y → WG G M (pc + 1 + 3) L st h) : WG G M pc L (.inr (.inl y) :: .inr (.inl x) :: st) h := by
  intro E A p l e s m args below meth c H locs ls F hX hA hK hP hD hS hL
  refine W.lcmp F.1.1 F.1.2.1 hd ?_
  have e1 := cmp64_eq hx hy
  exact lv_if_ne F.1.1 F.1.2.1 hd2 ht (fun q => kt (fun z => q (e1.mpr z)) E A p l e s m args below meth c H locs ls F hX hA hK hP hD hS hL) (fun q => kf (e1.mp (q)) E A p l e s m args below meth c H locs ls F hX hA hK hP hD hS hL)
theorem gg_lcmp_lt {x y off : Int} {tgt : Nat} (hd : decode M.2.1 pc = .ok (.lcmp, 1)) (hd2 : decode M.2.1 (pc + 1) = .ok (.ifCond .lt off, 3)) (ht : ((pc + 1 : Nat) : Int) + off = (tgt : Int)) (hx : R64 x) (hy : R64 y) (kt : x < y → WG G M tgt L st h) (kf : ¬ x < y → WG G M (pc + 1 + 3) L st h) : WG G M pc L (.inr (.inl y) :: .inr (.inl x) :: st) h := by
  intro E A p l e s m args below meth c H locs ls F hX hA hK hP hD hS hL
  refine W.lcmp F.1.1 F.1.2.1 hd ?_
  have e1 := cmp64_lt hx hy
  exact lv_if_lt F.1.1 F.1.2.1 hd2 ht (fun q => kt (e1.mp q) E A p l e s m args below meth c H locs ls F hX hA hK hP hD hS hL) (fun q => kf (fun z => q (e1.mpr z)) E A p l e s m args below meth c H locs ls F hX hA hK hP hD hS hL)
theorem gg_lcmp_ge {x y off : Int} {tgt : Nat} (hd : decode M.2.1 pc = .ok (.lcmp, 1)) (hd2 : decode M.2.1 (pc + 1) = .ok (.ifCond .ge off, 3)) (ht : ((pc + 1 : Nat) : Int) + off = (tgt : Int)) (hx : R64 x) (hy : R64 y) (kt : ¬ x < y → WG G M tgt L st h) (kf : x < y → WG G M (pc + 1 + 3) L st h) : WG G M pc L (.inr (.inl y) :: .inr (.inl x) :: st) h := by
  intro E A p l e s m args below meth c H locs ls F hX hA hK hP hD hS hL
  refine W.lcmp F.1.1 F.1.2.1 hd ?_
  have e1 := cmp64_lt hx hy
  exact lv_if_ge F.1.1 F.1.2.1 hd2 ht (fun q => kt (fun z => lcx_ge q (e1.mpr z)) E A p l e s m args below meth c H locs ls F hX hA hK hP hD hS hL) (fun q => kf (e1.mp (lcy_ge q)) E A p l e s m args below meth c H locs ls F hX hA hK hP hD hS hL)
theorem gg_lcmp_gt {x y off : Int} {tgt : Nat} (hd : decode M.2.1 pc = .ok (.lcmp, 1)) (hd2 : decode M.2.1 (pc + 1) = .ok (.ifCond .gt off, 3)) (ht : ((pc + 1 : Nat) : Int) + off = (tgt : Int)) (hx : R64 x) (hy : R64 y) (kt : y < x → WG G M tgt L st h) (kf : ¬ y < x → WG G M (pc + 1 + 3) L st h) : WG G M pc L (.inr (.inl y) :: .inr (.inl x) :: st) h := by
  intro E A p l e s m args below meth c H locs ls F hX hA hK hP hD hS hL
  refine W.lcmp F.1.1 F.1.2.1 hd ?_
  have e1 := cmp64_gt hx hy
  exact lv_if_gt F.1.1 F.1.2.1 hd2 ht (fun q => kt (e1.mp q) E A p l e s m args below meth c H locs ls F hX hA hK hP hD hS hL) (fun q => kf (fun z => q (e1.mpr z)) E A p l e s m args below meth c H locs ls F hX hA hK hP hD hS hL)
theorem gg_lcmp_le {x y off : Int} {tgt : Nat} (hd : decode M.2.1 pc = .ok (.lcmp, 1)) (hd2 : decode M.2.1 (pc + 1) = .ok (.ifCond .le off, 3)) (ht : ((pc + 1 : Nat) : Int) + off = (tgt : Int)) (hx : R64 x) (hy : R64 y) (kt : ¬ y < x → WG G M tgt L st h) (kf : y < x → WG G M (pc + 1 + 3) L st h) : WG G M pc L (.inr (.inl y) :: .inr (.inl x) :: st) h := by
  intro E A p l e s m args below meth c H locs ls F hX hA hK hP hD hS hL
  refine W.lcmp F.1.1 F.1.2.1 hd ?_
  have e1 := cmp64_gt hx hy
  exact lv_if_le F.1.1 F.1.2.1 hd2 ht (fun q => kt (fun z => lcx_le q (e1.mpr z)) E A p l e s m args below meth c H locs ls F hX hA hK hP hD hS hL) (fun q => kf (e1.mp (lcy_le q)) E A p l e s m args below meth c H locs ls F hX hA hK hP hD hS hL)
theorem gg_ishr {x : Int} {n : Nat} {y : Int} (hd : decode M.2.1 pc = .ok (.ishr, 1)) (hx : R32 x) (hy : y = (n : Int)) (hn : n < 32) (k : WG G M (pc + 1) L (.inl (x / 2 ^ n) :: st) h) : WG G M pc L (.inl y :: .inl x :: st) h := by
  intro E A p l e s m args below meth c H locs ls F hX hA hK hP hD hS hL
  subst hy
  refine lv_ishr F.1.1 F.1.2.1 hd ?_
  rw [shr32 hx n hn]
  exact k E A p l e s m args below meth c H locs ls F hX hA hK hP hD hS hL
theorem gg_iand {x mk q : Int} (n : Nat) (hd : decode M.2.1 pc = .ok (.iand, 1)) (hm : (Int32.ofInt mk).toBitVec.toNat = 2 ^ n - 1) (hq : ((2 ^ n : Nat) : Int) = q) (hv : q ∣ 4294967296) (k : WG G M (pc + 1) L (.inl (x % q) :: st) h) : WG G M pc L (.inl mk :: .inl x :: st) h := by
  intro E A p l e s m args below meth c H locs ls F hX hA hK hP hD hS hL
  refine lv_iand F.1.1 F.1.2.1 hd ?_
  rw [and32 x n mk hm q hq hv]
  exact k E A p l e s m args below meth c H locs ls F hX hA hK hP hD hS hL
theorem gg_i2b {x : Int} (hd : decode M.2.1 pc = .ok (.i2b, 1)) (k : WG G M (pc + 1) L (.inl (x.bmod 256) :: st) h) : WG G M pc L (.inl x :: st) h := by
  intro E A p l e s m args below meth c H locs ls F hX hA hK hP hD hS hL
  refine lv_i2b F.1.1 F.1.2.1 hd (v := Int32.ofInt (x.bmod 256)) ?_ (k E A p l e s m args below meth c H locs ls F hX hA hK hP hD hS hL)
  have h1 : x.bmod 256 < 128 := by have := @Int.bmod_lt x 256 (by decide); omega
  have h2 : -128 ≤ x.bmod 256 := by have := @Int.le_bmod x 256 (by decide); omega
  rw [← Int32.toInt_inj, Int8.toInt_toInt32, Int32.toInt_ofInt_of_le (by omega) (by omega), Int32.toInt8_ofInt, Int8.toInt_ofInt]
theorem gg_ishl {x y : Int} (n : Nat) (hd : decode M.2.1 pc = .ok (.ishl, 1)) (hy : y = (n : Int)) (hn : n < 32) (k : WG G M (pc + 1) L (.inl (x * 2 ^ n) :: st) h) : WG G M pc L (.inl y :: .inl x :: st) h := by
  intro E A p l e s m args below meth c H locs ls F hX hA hK hP hD hS hL
  subst hy
  refine lv_ishl F.1.1 F.1.2.1 hd ?_
  rw [shl32 x n hn]
  exact k E A p l e s m args below meth c H locs ls F hX hA hK hP hD hS hL
theorem gg_ior {x y : Int} (n : Nat) (hd : decode M.2.1 pc = .ok (.ior, 1)) (hn : n < 31) (hx : R32 x ∧ 0 ≤ x ∧ x % 2 ^ n = 0) (hy : 0 ≤ y ∧ y < 2 ^ n) (k : WG G M (pc + 1) L (.inl (x + y) :: st) h) : WG G M pc L (.inl y :: .inl x :: st) h := by
  intro E A p l e s m args below meth c H locs ls F hX hA hK hP hD hS hL
  refine lv_ior F.1.1 F.1.2.1 hd ?_
  rw [or32 n hn hx hy]
  exact k E A p l e s m args below meth c H locs ls F hX hA hK hP hD hS hL
theorem gg_lor {x y : Int} (n : Nat) (hd : decode M.2.1 pc = .ok (.lor, 1)) (hn : n < 62) (hx : R64 x ∧ 0 ≤ x ∧ x % 2 ^ (n + 1) = 0) (hy : y = 2 ^ n) (k : WG G M (pc + 1) L (.inr (.inl (x + y)) :: st) h) : WG G M pc L (.inr (.inl y) :: .inr (.inl x) :: st) h := by
  intro E A p l e s m args below meth c H locs ls F hX hA hK hP hD hS hL
  refine lv_lor F.1.1 F.1.2.1 hd ?_
  rw [or64 n hn hx hy]
  exact k E A p l e s m args below meth c H locs ls F hX hA hK hP hD hS hL
theorem gg_lshr1 {x : Int} (hd : decode M.2.1 pc = .ok (.lshr, 1)) (hx : R64 x) (k : WG G M (pc + 1) L (.inr (.inl (x / 2)) :: st) h) : WG G M pc L (.inl 1 :: .inr (.inl x) :: st) h := by
  intro E A p l e s m args below meth c H locs ls F hX hA hK hP hD hS hL
  exact lv_lshr F.1.1 F.1.2.1 hd (shr64 hx) (k E A p l e s m args below meth c H locs ls F hX hA hK hP hD hS hL)
theorem gg_getI {i a ci k : Nat} {ts : List Nat} {fin : Bool} {ty : FieldType} (hd : decode M.2.1 pc = .ok (.getfield i, 3)) (hf : FLk M.1.cls i ci k fin ty) (hs : ix (SH.take G.2.1) a = some (ci, ts)) (ht : ix ts k = some 0) (kk : WG G M (pc + 3) L (.inl (h a k) :: st) h) : WG G M pc L (.inr (.inr a) :: st) h := by
  intro E A p l e s m args below meth c H locs ls F hX hA hK hP hD hS hL
  obtain ⟨C, T, N, ty0, f1, f2, f3, f4, f5, f6, f7, f8, f9⟩ := hf
  rw [ix_eq] at f1 ht
  have he := clsq_at (E := E) (h := h) hs
  rw [cellE_obj f2] at he
  refine va_get F.1.1 F.1.2.1 F.1.2.2.2.2.2.2 f4 F.1.2.2.2.2.2.1 hK hP a he f1 k f3 (F.1.2.2.2.2.2.2 _ f7) (fun _ q => q) (v := .int (Int32.ofInt (h a k))) ?_ hd (kk E A p l e s m args below meth c H locs ls F hX hA hK hP hD hS hL)
  rw [fvs_at, ht]
  simp [fvv]
theorem gg_getJ {i a ci k : Nat} {ts : List Nat} {fin : Bool} {ty : FieldType} (hd : decode M.2.1 pc = .ok (.getfield i, 3)) (hf : FLk M.1.cls i ci k fin ty) (hs : ix (SH.take G.2.1) a = some (ci, ts)) (ht : ix ts k = some 1) (kk : WG G M (pc + 3) L (.inr (.inl (h a k)) :: st) h) : WG G M pc L (.inr (.inr a) :: st) h := by
  intro E A p l e s m args below meth c H locs ls F hX hA hK hP hD hS hL
  obtain ⟨C, T, N, ty0, f1, f2, f3, f4, f5, f6, f7, f8, f9⟩ := hf
  rw [ix_eq] at f1 ht
  have he := clsq_at (E := E) (h := h) hs
  rw [cellE_obj f2] at he
  refine va_get F.1.1 F.1.2.1 F.1.2.2.2.2.2.2 f4 F.1.2.2.2.2.2.1 hK hP a he f1 k f3 (F.1.2.2.2.2.2.2 _ f7) (fun _ q => q) (v := .long (Int64.ofInt (h a k))) ?_ hd (kk E A p l e s m args below meth c H locs ls F hX hA hK hP hD hS hL)
  rw [fvs_at, ht]
  simp [fvv]
theorem gg_getR {i a ci k b : Nat} {ts : List Nat} {fin : Bool} {ty : FieldType} (hd : decode M.2.1 pc = .ok (.getfield i, 3)) (hf : FLk M.1.cls i ci k fin ty) (hs : ix (SH.take G.2.1) a = some (ci, ts)) (ht : ix ts k = some (b + 2)) (kk : WG G M (pc + 3) L (.inr (.inr b) :: st) h) : WG G M pc L (.inr (.inr a) :: st) h := by
  intro E A p l e s m args below meth c H locs ls F hX hA hK hP hD hS hL
  obtain ⟨C, T, N, ty0, f1, f2, f3, f4, f5, f6, f7, f8, f9⟩ := hf
  rw [ix_eq] at f1 ht
  have he := clsq_at (E := E) (h := h) hs
  rw [cellE_obj f2] at he
  refine va_get F.1.1 F.1.2.1 F.1.2.2.2.2.2.2 f4 F.1.2.2.2.2.2.1 hK hP a he f1 k f3 (F.1.2.2.2.2.2.2 _ f7) (fun _ q => q) (v := .ref (E.2.1 b)) ?_ hd (kk E A p l e s m args below meth c H locs ls F hX hA hK hP hD hS hL)
  rw [fvs_at, ht]
  simp [fvv]
theorem gg_putI {i a ci k : Nat} {x : Int} {ts : List Nat} (hd : decode M.2.1 pc = .ok (.putfield i, 3)) (hf : FLk M.1.cls i ci k false .int) (hs : ix (SH.take G.2.1) a = some (ci, ts)) (ht : ix ts k = some 0) (kk : WG G M (pc + 3) L st (upH h a k x)) : WG G M pc L (.inl x :: .inr (.inr a) :: st) h := by
  intro E A p l e s m args below meth c H locs ls F hX hA hK hP hD hS hL
  obtain ⟨C, T, N, ty0, f1, f2, f3, f4, f5, f6, f7, f8, f9⟩ := hf
  rw [ix_eq] at f1
  have he := clsq_at (E := E) (h := h) hs
  rw [cellE_obj f2] at he
  have hlen : k < ts.length := by rw [ix_eq] at ht; exact (List.getElem?_eq_some_iff.mp ht).1
  have e1 : (clsq G.2.1 E h).set a (E.2.1 a, .inr (ci, (fvs E h a 0 ts).set k (.int (Int32.ofInt x)))) = clsq G.2.1 E (upH h a k x) := by
    rw [clsq_set (h' := upH h a k x) hs upH_off, cellE_obj f2, fvs_up (v := .int (Int32.ofInt x)) ht (by simp [fvv, up_s])]
  refine va_put F.1.1 F.1.2.1 F.1.2.2.2.2.2.2 f4 ty0 f5 f6 F.1.2.2.2.2.2.1 hK hP hD hS a he f1 k f3 (F.1.2.2.2.2.2.2 _ f7) (fun _ q => q) f8 (ty := .int) (v := .int (Int32.ofInt x)) (by rw [f5 k f3, f9]) rfl rfl (by rw [fvs_len]; exact hlen) hd (fun H1 locs1 hP1 hD1 hS1 => ?_)
  rw [e1] at hP1 hD1
  exact kk E A p l e s m args below meth c H1 locs1 ls F hX hA hK hP1 hD1 hS1 hL
theorem gg_putJ {i a ci k : Nat} {x : Int} {ts : List Nat} (hd : decode M.2.1 pc = .ok (.putfield i, 3)) (hf : FLk M.1.cls i ci k false .long) (hs : ix (SH.take G.2.1) a = some (ci, ts)) (ht : ix ts k = some 1) (kk : WG G M (pc + 3) L st (upH h a k x)) : WG G M pc L (.inr (.inl x) :: .inr (.inr a) :: st) h := by
  intro E A p l e s m args below meth c H locs ls F hX hA hK hP hD hS hL
  obtain ⟨C, T, N, ty0, f1, f2, f3, f4, f5, f6, f7, f8, f9⟩ := hf
  rw [ix_eq] at f1
  have he := clsq_at (E := E) (h := h) hs
  rw [cellE_obj f2] at he
  have hlen : k < ts.length := by rw [ix_eq] at ht; exact (List.getElem?_eq_some_iff.mp ht).1
  have e1 : (clsq G.2.1 E h).set a (E.2.1 a, .inr (ci, (fvs E h a 0 ts).set k (.long (Int64.ofInt x)))) = clsq G.2.1 E (upH h a k x) := by
    rw [clsq_set (h' := upH h a k x) hs upH_off, cellE_obj f2, fvs_up (v := .long (Int64.ofInt x)) ht (by simp [fvv, up_s])]
  refine va_put F.1.1 F.1.2.1 F.1.2.2.2.2.2.2 f4 ty0 f5 f6 F.1.2.2.2.2.2.1 hK hP hD hS a he f1 k f3 (F.1.2.2.2.2.2.2 _ f7) (fun _ q => q) f8 (ty := .long) (v := .long (Int64.ofInt x)) (by rw [f5 k f3, f9]) rfl rfl (by rw [fvs_len]; exact hlen) hd (fun H1 locs1 hP1 hD1 hS1 => ?_)
  rw [e1] at hP1 hD1
  exact kk E A p l e s m args below meth c H1 locs1 ls F hX hA hK hP1 hD1 hS1 hL
theorem gg_putZ {i a ci k : Nat} {x : Int} {ts : List Nat} (hd : decode M.2.1 pc = .ok (.putfield i, 3)) (hf : FLk M.1.cls i ci k false .boolean) (hs : ix (SH.take G.2.1) a = some (ci, ts)) (ht : ix ts k = some 0) (hx : x = 0 ∨ x = 1) (kk : WG G M (pc + 3) L st (upH h a k x)) : WG G M pc L (.inl x :: .inr (.inr a) :: st) h := by
  intro E A p l e s m args below meth c H locs ls F hX hA hK hP hD hS hL
  obtain ⟨C, T, N, ty0, f1, f2, f3, f4, f5, f6, f7, f8, f9⟩ := hf
  rw [ix_eq] at f1
  have he := clsq_at (E := E) (h := h) hs
  rw [cellE_obj f2] at he
  have hlen : k < ts.length := by rw [ix_eq] at ht; exact (List.getElem?_eq_some_iff.mp ht).1
  have e1 : (clsq G.2.1 E h).set a (E.2.1 a, .inr (ci, (fvs E h a 0 ts).set k (.int (Int32.ofInt x)))) = clsq G.2.1 E (upH h a k x) := by
    rw [clsq_set (h' := upH h a k x) hs upH_off, cellE_obj f2, fvs_up (v := .int (Int32.ofInt x)) ht (by simp [fvv, up_s])]
  refine va_put F.1.1 F.1.2.1 F.1.2.2.2.2.2.2 f4 ty0 f5 f6 F.1.2.2.2.2.2.1 hK hP hD hS a he f1 k f3 (F.1.2.2.2.2.2.2 _ f7) (fun _ q => q) f8 (ty := .boolean) (v := .int (Int32.ofInt x)) (by rw [f5 k f3, f9]) (by rcases hx with rfl | rfl <;> rfl) (by rcases hx with rfl | rfl <;> rfl) (by rw [fvs_len]; exact hlen) hd (fun H1 locs1 hP1 hD1 hS1 => ?_)
  rw [e1] at hP1 hD1
  exact kk E A p l e s m args below meth c H1 locs1 ls F hX hA hK hP1 hD1 hS1 hL
theorem gg_iald {x : Int} {a n : Nat} (hd : decode M.2.1 pc = .ok (.iaload, 1)) (hs : ix (SH.take G.2.1) a = some (100, [n])) (hn : n ≤ 2147483647) (h0 : 0 ≤ x ∧ x < n) (kk : WG G M (pc + 1) L (.inl (h a x.toNat) :: st) h) : WG G M pc L (.inl x :: .inr (.inr a) :: st) h := by
  intro E A p l e s m args below meth c H locs ls F hX hA hK hP hD hS hL
  refine va_iald F.1.1 F.1.2.1 hK hP a 0 (clsq_at (E := E) (h := h) hs) rfl (in32 h0.1 h0.2 hn) hd ?_
  rw [tn32 h0.1 (by omega)]
  exact kk E A p l e s m args below meth c H locs ls F hX hA hK hP hD hS hL
theorem gg_bald {x : Int} {a n : Nat} (hd : decode M.2.1 pc = .ok (.baload, 1)) (hs : ix (SH.take G.2.1) a = some (102, [n])) (hn : n ≤ 2147483647) (h0 : 0 ≤ x ∧ x < n) (kk : WG G M (pc + 1) L (.inl (h a x.toNat) :: st) h) : WG G M pc L (.inl x :: .inr (.inr a) :: st) h := by
  intro E A p l e s m args below meth c H locs ls F hX hA hK hP hD hS hL
  refine va_bald F.1.1 F.1.2.1 hK hP a 2 (clsq_at (E := E) (h := h) hs) rfl (in32 h0.1 h0.2 hn) hd ?_
  rw [tn32 h0.1 (by omega)]
  exact kk E A p l e s m args below meth c H locs ls F hX hA hK hP hD hS hL
theorem gg_zald {x : Int} {a n : Nat} (hd : decode M.2.1 pc = .ok (.baload, 1)) (hs : ix (SH.take G.2.1) a = some (103, [n])) (hn : n ≤ 2147483647) (h0 : 0 ≤ x ∧ x < n) (kk : WG G M (pc + 1) L (.inl (h a x.toNat) :: st) h) : WG G M pc L (.inl x :: .inr (.inr a) :: st) h := by
  intro E A p l e s m args below meth c H locs ls F hX hA hK hP hD hS hL
  refine va_zald F.1.1 F.1.2.1 hK hP a 3 (clsq_at (E := E) (h := h) hs) rfl (in32 h0.1 h0.2 hn) hd ?_
  rw [tn32 h0.1 (by omega)]
  exact kk E A p l e s m args below meth c H locs ls F hX hA hK hP hD hS hL
theorem gg_lald {x : Int} {a n : Nat} (hd : decode M.2.1 pc = .ok (.laload, 1)) (hs : ix (SH.take G.2.1) a = some (101, [n])) (hn : n ≤ 2147483647) (h0 : 0 ≤ x ∧ x < n) (kk : WG G M (pc + 1) L (.inr (.inl (h a x.toNat)) :: st) h) : WG G M pc L (.inl x :: .inr (.inr a) :: st) h := by
  intro E A p l e s m args below meth c H locs ls F hX hA hK hP hD hS hL
  refine va_lald F.1.1 F.1.2.1 hK hP a 1 (clsq_at (E := E) (h := h) hs) rfl (in32 h0.1 h0.2 hn) hd ?_
  rw [tn32 h0.1 (by omega)]
  exact kk E A p l e s m args below meth c H locs ls F hX hA hK hP hD hS hL
theorem gg_iast {x y : Int} {a n : Nat} (hd : decode M.2.1 pc = .ok (.iastore, 1)) (hs : ix (SH.take G.2.1) a = some (100, [n])) (hn : n ≤ 2147483647) (h0 : 0 ≤ x ∧ x < n) (kk : WG G M (pc + 1) L st (upH h a x.toNat y)) : WG G M pc L (.inl y :: .inl x :: .inr (.inr a) :: st) h := by
  intro E A p l e s m args below meth c H locs ls F hX hA hK hP hD hS hL
  have e1 := clsq_set (E := E) (h' := upH h a x.toNat y) hs upH_off
  refine va_iast F.1.1 F.1.2.1 hK hP hD hS a 0 (clsq_at (E := E) (h := h) hs) rfl (in32 h0.1 h0.2 hn) hd (fun H1 locs1 hP1 hD1 hS1 => ?_)
  rw [tn32 h0.1 (by omega)] at hP1 hD1
  rw [upd_of] at hP1 hD1
  refine kk E A p l e s m args below meth c H1 locs1 ls F hX hA hK ?_ ?_ hS1 hL
  · rw [e1]; exact hP1
  · rw [e1]; exact hD1
theorem gg_bast {x y : Int} {a n : Nat} (hd : decode M.2.1 pc = .ok (.bastore, 1)) (hs : ix (SH.take G.2.1) a = some (102, [n])) (hn : n ≤ 2147483647) (h0 : 0 ≤ x ∧ x < n) (hy : -128 ≤ y ∧ y ≤ 127) (kk : WG G M (pc + 1) L st (upH h a x.toNat y)) : WG G M pc L (.inl y :: .inl x :: .inr (.inr a) :: st) h := by
  intro E A p l e s m args below meth c H locs ls F hX hA hK hP hD hS hL
  have e1 := clsq_set (E := E) (h' := upH h a x.toNat y) hs upH_off
  refine va_bast F.1.1 F.1.2.1 hK hP hD hS a 2 (clsq_at (E := E) (h := h) hs) rfl (in32 h0.1 h0.2 hn) hd (fun H1 locs1 hP1 hD1 hS1 => ?_)
  rw [tn32 h0.1 (by omega)] at hP1 hD1
  have e2 : vp_nar .byte (Int32.ofInt y) = Int32.ofInt y := by
    rw [vp_nar_byte, ← Int32.toInt_inj, Int8.toInt_toInt32, Int32.toInt_ofInt_of_le (by omega) (by omega), Int32.toInt8_ofInt, Int8.toInt_ofInt_of_le (by omega) (by omega)]
  rw [e2] at hP1 hD1
  rw [upd_of] at hP1 hD1
  refine kk E A p l e s m args below meth c H1 locs1 ls F hX hA hK ?_ ?_ hS1 hL
  · rw [e1]; exact hP1
  · rw [e1]; exact hD1
theorem gg_zast {x y : Int} {a n : Nat} (hd : decode M.2.1 pc = .ok (.bastore, 1)) (hs : ix (SH.take G.2.1) a = some (103, [n])) (hn : n ≤ 2147483647) (h0 : 0 ≤ x ∧ x < n) (hy : y = 0 ∨ y = 1) (kk : WG G M (pc + 1) L st (upH h a x.toNat y)) : WG G M pc L (.inl y :: .inl x :: .inr (.inr a) :: st) h := by
  intro E A p l e s m args below meth c H locs ls F hX hA hK hP hD hS hL
  have e1 := clsq_set (E := E) (h' := upH h a x.toNat y) hs upH_off
  refine va_zast F.1.1 F.1.2.1 hK hP hD hS a 3 (clsq_at (E := E) (h := h) hs) rfl (in32 h0.1 h0.2 hn) hd (fun H1 locs1 hP1 hD1 hS1 => ?_)
  rw [tn32 h0.1 (by omega)] at hP1 hD1
  have e2 : vp_nar .boolean (Int32.ofInt y) = Int32.ofInt y := by rcases hy with rfl | rfl <;> rfl
  rw [e2] at hP1 hD1
  rw [upd_of] at hP1 hD1
  refine kk E A p l e s m args below meth c H1 locs1 ls F hX hA hK ?_ ?_ hS1 hL
  · rw [e1]; exact hP1
  · rw [e1]; exact hD1
theorem gg_last {x y : Int} {a n : Nat} (hd : decode M.2.1 pc = .ok (.lastore, 1)) (hs : ix (SH.take G.2.1) a = some (101, [n])) (hn : n ≤ 2147483647) (h0 : 0 ≤ x ∧ x < n) (kk : WG G M (pc + 1) L st (upH h a x.toNat y)) : WG G M pc L (.inr (.inl y) :: .inl x :: .inr (.inr a) :: st) h := by
  intro E A p l e s m args below meth c H locs ls F hX hA hK hP hD hS hL
  have e1 := clsq_set (E := E) (h' := upH h a x.toNat y) hs upH_off
  refine va_last F.1.1 F.1.2.1 hK hP hD hS a 1 (clsq_at (E := E) (h := h) hs) rfl (in32 h0.1 h0.2 hn) hd (fun H1 locs1 hP1 hD1 hS1 => ?_)
  rw [tn32 h0.1 (by omega)] at hP1 hD1
  rw [updL_of] at hP1 hD1
  refine kk E A p l e s m args below meth c H1 locs1 ls F hX hA hK ?_ ?_ hS1 hL
  · rw [e1]; exact hP1
  · rw [e1]; exact hD1
theorem gg_alen {a n : Nat} (hd : decode M.2.1 pc = .ok (.arraylength, 1)) (hs : ix (SH.take G.2.1) a = some (100, [n])) (kk : WG G M (pc + 1) L (.inl (n : Int) :: st) h) : WG G M pc L (.inr (.inr a) :: st) h := by
  intro E A p l e s m args below meth c H locs ls F hX hA hK hP hD hS hL
  exact va_alen F.1.1 F.1.2.1 hK hP a 0 (clsq_at (E := E) (h := h) hs) rfl (v := Int32.ofInt (n : Int)) Int32.ofInt_eq_ofNat.symm hd (kk E A p l e s m args below meth c H locs ls F hX hA hK hP hD hS hL)
theorem gg_tsOut {dflt lo hi : Int} {offs : Array Int} {len tgt : Nat} {x : Int} (hd : decode M.2.1 pc = .ok (.tableswitch dflt lo hi offs, len)) (hx : R32 x) (hq : x < lo ∨ hi < x) (ht : (pc : Int) + dflt = (tgt : Int)) (k : WG G M tgt L st h) : WG G M pc L (.inl x :: st) h := by
  intro E A p l e s m args below meth c H locs ls F hX hA hK hP hD hS hL
  exact lv_tableOut F.1.1 F.1.2.1 hd (by rw [Int32.toInt_ofInt_of_le (by omega) (by omega)]; exact hq) ht (k E A p l e s m args below meth c H locs ls F hX hA hK hP hD hS hL)
theorem gg_tsIn {dflt lo hi : Int} {offs : Array Int} {len tgt : Nat} {x v off : Int} (hd : decode M.2.1 pc = .ok (.tableswitch dflt lo hi offs, len)) (hv : x = v) (hr : R32 v) (h1 : ¬ v < lo) (h2 : ¬ hi < v) (ho : offs[(v - lo).toNat]? = some off) (ht : (pc : Int) + off = (tgt : Int)) (k : WG G M tgt L st h) : WG G M pc L (.inl x :: st) h := by
  intro E A p l e s m args below meth c H locs ls F hX hA hK hP hD hS hL
  subst hv
  have e1 : (Int32.ofInt x).toInt = x := Int32.toInt_ofInt_of_le (by omega) (by omega)
  exact lv_tableIn F.1.1 F.1.2.1 hd (by rw [e1]; exact h1) (by rw [e1]; exact h2) (by rw [e1]; exact ho) ht (k E A p l e s m args below meth c H locs ls F hX hA hK hP hD hS hL)
theorem gg_lookup {dflt : Int} {ps : Array (Int × Int)} {len tgt : Nat} {x off : Int} (hd : decode M.2.1 pc = .ok (.lookupswitch dflt ps, len)) (hp : (ps.toList.zip (ps.toList.drop 1)).all (fun (a, next) => a.1 < next.1) = true) (hx : R32 x) (ho : Op.lookupswitch.offset ps.toList dflt x = off) (ht : (pc : Int) + off = (tgt : Int)) (k : WG G M tgt L st h) : WG G M pc L (.inl x :: st) h := by
  intro E A p l e s m args below meth c H locs ls F hX hA hK hP hD hS hL
  exact lv_lookup F.1.1 F.1.2.1 hd hp (by rw [Int32.toInt_ofInt_of_le (by omega) (by omega)]; exact ho) ht (k E A p l e s m args below meth c H locs ls F hX hA hK hP hD hS hL)
theorem gg_nmI {x : Int} (k : ∀ v, v = x → WG G M pc L (.inl v :: st) h) : WG G M pc L (.inl x :: st) h := k x rfl
theorem gg_nmJ {x : Int} (k : ∀ v, v = x → WG G M pc L (.inr (.inl v) :: st) h) : WG G M pc L (.inr (.inl x) :: st) h := k x rfl
theorem gg_eqI {x y : Int} (e : x = y) (k : WG G M pc L (.inl y :: st) h) : WG G M pc L (.inl x :: st) h := e ▸ k
theorem gg_eqJ {x y : Int} (e : x = y) (k : WG G M pc L (.inr (.inl y) :: st) h) : WG G M pc L (.inr (.inl x) :: st) h := e ▸ k
theorem gg_eqH {h' : Hp} (e : h = h') (k : WG G M pc L st h') : WG G M pc L st h := e ▸ k
theorem gg_gh (k : ∀ g, g = h → WG G M pc L st g) : WG G M pc L st h := k h rfl
end
section
variable {nS d : Nat} {post : Pst} {M : MI} {pc : Nat} {L : List (Option AV)} {st : List AV} {h : Hp}
theorem gg_iret {x : Int} (hd : decode M.2.1 pc = .ok (.ireturn, 1)) (hr : M.2.2.2 = some .int) (hp : post (some (.inl x)) h) : WG (GQ nS d post) M pc L [.inl x] h := by
  intro E A p l e s m args below meth c H locs ls F hX hA hK hP hD hS hL
  show W p l e (rmD d) s m args below meth c H locs 0 0 (MQ below (QQq nS E A post) args s 0 0 A) _
  exact W.iret F.1.1 F.1.2.1 (F.1.2.2.2.1.trans hr) (fun t ht hW => ⟨some (.inl x), h, rfl, hp, by rw [ht]; exact hP, va_K.moved hW.alike hK, hD, hS.F ht⟩) hS.2.2 hd F.1.2.2.2.2.1
theorem gg_zret {x : Int} (hd : decode M.2.1 pc = .ok (.ireturn, 1)) (hr : M.2.2.2 = some .boolean) (hx : x = 0 ∨ x = 1) (hp : post (some (.inl x)) h) : WG (GQ nS d post) M pc L [.inl x] h := by
  intro E A p l e s m args below meth c H locs ls F hX hA hK hP hD hS hL
  show W p l e (rmD d) s m args below meth c H locs 0 0 (MQ below (QQq nS E A post) args s 0 0 A) _
  exact W.zret F.1.1 F.1.2.1 (F.1.2.2.2.1.trans hr) (by rcases hx with rfl | rfl <;> rfl) (fun t ht hW => ⟨some (.inl x), h, rfl, hp, by rw [ht]; exact hP, va_K.moved hW.alike hK, hD, hS.F ht⟩) hS.2.2 hd F.1.2.2.2.2.1
theorem gg_lret {x : Int} (hd : decode M.2.1 pc = .ok (.lreturn, 1)) (hr : M.2.2.2 = some .long) (hp : post (some (.inr (.inl x))) h) : WG (GQ nS d post) M pc L [.inr (.inl x)] h := by
  intro E A p l e s m args below meth c H locs ls F hX hA hK hP hD hS hL
  show W p l e (rmD d) s m args below meth c H locs 0 0 (MQ below (QQq nS E A post) args s 0 0 A) _
  exact W.lret F.1.1 F.1.2.1 (F.1.2.2.2.1.trans hr) (fun t ht hW => ⟨some (.inr (.inl x)), h, rfl, hp, by rw [ht]; exact hP, va_K.moved hW.alike hK, hD, hS.F ht⟩) hS.2.2 hd F.1.2.2.2.2.1
theorem gg_vret (hd : decode M.2.1 pc = .ok (.return_, 1)) (hr : M.2.2.2 = none) (hp : post none h) : WG (GQ nS d post) M pc L [] h := by
  intro E A p l e s m args below meth c H locs ls F hX hA hK hP hD hS hL
  show W p l e (rmD d) s m args below meth c H locs 0 0 (MQ below (QQq nS E A post) args s 0 0 A) _
  exact W.vret F.1.1 F.1.2.1 (F.1.2.2.2.1.trans hr) (fun t ht hW => ⟨none, h, rfl, hp, by rw [ht]; exact hP, va_K.moved hW.alike hK, hD, hS.F ht⟩) hS.2.2 hd F.1.2.2.2.2.1
theorem gq_rm : d + 1 ≤ (GQ nS (d + 1) post).2.2.1.frames ∧ 100 * (d + 1) ≤ (GQ nS (d + 1) post).2.2.1.locals := ⟨Nat.le_refl _, Nat.le_refl _⟩
theorem gq_ck : (GQ nS d post).2.2.2.1 ≤ (GQ nS d post).2.2.1.cells ∧ (GQ nS d post).2.2.2.2.1 ≤ (GQ nS d post).2.2.1.slots := ⟨Nat.le_refl _, Nat.le_refl _⟩
end
section
variable {G : GP} {M M' : MI} {d : Nat} {pc : Nat} {L L' : List (Option AV)} {st : List AV} {h : Hp}
theorem gg_callV (hRm : d + 1 ≤ G.2.2.1.frames ∧ 100 * (d + 1) ≤ G.2.2.1.locals) (hCk : G.2.2.2.1 ≤ G.2.2.1.cells ∧ G.2.2.2.2.1 ≤ G.2.2.1.slots) {i a ci n : Nat} {ts : List Nat} {r : vw_C} {st0 av : List AV} (hd : decode M.2.1 pc = .ok (.invokevirtual i, 3)) (hm : MVk M' n) (hl : Cond.methodLink M.1.cls i M'.1 ∈ lw_g) (hs : ix (SH.take G.2.1) a = some (ci, ts)) (hc : ci < 100) (hr : ix vwCl ci = some r) (hrc : r.1 = M'.1.cls) (hn : av.length = n) (hst : st0 = av.reverse ++ .inr (.inr a) :: st) (hw : wtA st ≤ 8)
    (k : Clq G.2.1 d M' (.inr (.inr a) :: av) h (fun v h' => WG G M (pc + 3) L (v.toList ++ st) h')) : WG G M pc L st0 h := by
  intro E A p l e s m args below meth c H locs ls F hX hA hK hP hD hS hL
  obtain ⟨m1, m2, m3, m4, m5, m6⟩ := hm
  have hts := F.1.2.2.2.2.2.2
  have he := clsq_at (E := E) (h := h) hs
  rw [cellE_obj hc] at he
  have hrv := va_recv hK hP (by rw [ix_eq] at hr; exact hr) he
  rw [hrc] at hrv
  have hF := clsq_free hD hS hA
  have cb : CallB G.2.2.1 s args M.1.cls i M'.1 M'.2.1 M'.2.2.1 M'.2.2.2 (wsM M') (rmD d) 0 0 n := callB_of n hts (wsM_good m4) rfl rfl rfl (hts _ m3) (hts _ hl) m5 ⟨hRm.1, by show 8 + (M'.2.2.1 + 11) + 100 * d ≤ G.2.2.1.locals; have := hRm.2; omega⟩
  refine gg_call0 (A1 := va_A (clsq G.2.1 E h) H.size) (va_runV (As := av.map (tr E)) (rest := st.map (tr E)) (b := E.2.1 a) ⟨F.1.1, F.1.2.1, F.1.2.2.1, F.1.2.2.2.2.2.1, hts⟩ (k E H.size l) ⟨cb, hts _ m1, hts _ m2⟩ ⟨WLDq.blind, hrv, fun U hU hW => ⟨rfl, WLDq.at hX hA hK hP hD hS hU hW⟩⟩ rfl (by simpa using hn) hL.1 (by subst hst; simp [List.map_reverse]; rfl) (lv_room (by rw [wtA_eq]; exact hw)) hd hCk) hS hF
    (fun v h' t H1 locs1 ht hvm hp hP1 hK1 hD1 hS1 => ?_)
  have := hp E A p l e s m args below meth c H1 locs1 ls F hX hA (va_K.moved hvm.symm hK1) hP1 (hD1.weaken (fun _ q _ z => hF q.1 z)) hS1 hL
  cases v with
  | none => exact this
  | some v => exact this
theorem gg_callS (hRm : d + 1 ≤ G.2.2.1.frames ∧ 100 * (d + 1) ≤ G.2.2.1.locals) (hCk : G.2.2.2.1 ≤ G.2.2.1.cells ∧ G.2.2.2.2.1 ≤ G.2.2.1.slots) {i n : Nat} {st0 av : List AV} (hd : decode M.2.1 pc = .ok (.invokestatic i, 3)) (hm : MSk M' n) (hl : Cond.methodLink M.1.cls i M'.1 ∈ lw_g) (hn : av.length = n) (hst : st0 = av.reverse ++ st) (hw : wtA st ≤ 8)
    (k : Clq G.2.1 d M' av h (fun v h' => WG G M (pc + 3) L (v.toList ++ st) h')) : WG G M pc L st0 h := by
  intro E A p l e s m args below meth c H locs ls F hX hA hK hP hD hS hL
  obtain ⟨m1, m3, m4, m5, m6⟩ := hm
  have hts := F.1.2.2.2.2.2.2
  have hF := clsq_free hD hS hA
  have cb : CallB G.2.2.1 s args M.1.cls i M'.1 M'.2.1 M'.2.2.1 M'.2.2.2 (wsM M') (rmD d) 0 0 n := callB_of n hts (wsM_good m4) rfl rfl rfl (hts _ m3) (hts _ hl) m5 ⟨hRm.1, by show 8 + (M'.2.2.1 + 11) + 100 * d ≤ G.2.2.1.locals; have := hRm.2; omega⟩
  refine gg_call0 (A1 := va_A (clsq G.2.1 E h) H.size) (va_runS (As := av.map (tr E)) (rest := st.map (tr E)) ⟨F.1.1, F.1.2.1, F.1.2.2.1, F.1.2.2.2.2.2.1, hts⟩ (k E H.size l) ⟨cb, hts _ m1⟩ ⟨WLDq.blind, fun U hU hW => ⟨rfl, WLDq.at hX hA hK hP hD hS hU hW⟩⟩ rfl (by simpa using hn) hL.1 (by subst hst; simp [List.map_reverse]) (lv_room (by rw [wtA_eq]; exact hw)) hd hCk) hS hF
    (fun v h' t H1 locs1 ht hvm hp hP1 hK1 hD1 hS1 => ?_)
  have := hp E A p l e s m args below meth c H1 locs1 ls F hX hA (va_K.moved hvm.symm hK1) hP1 (hD1.weaken (fun _ q _ z => hF q.1 z)) hS1 hL
  cases v with
  | none => exact this
  | some v => exact this
theorem gg_callN (hRm : d + 1 ≤ G.2.2.1.frames ∧ 100 * (d + 1) ≤ G.2.2.1.locals) (hCk : G.2.2.2.1 ≤ G.2.2.1.cells ∧ G.2.2.2.2.1 ≤ G.2.2.1.slots) {i n : Nat} {st0 av : List AV} (hd : decode M.2.1 pc = .ok (.invokestatic i, 3)) (hm : MSk M' n) (hl : (M.1.cls, i, M'.1) ∈ nestL) (hn : av.length = n) (hst : st0 = av.reverse ++ st) (hw : wtA st ≤ 8)
    (k : Clq G.2.1 d M' av h (fun v h' => WG G M (pc + 3) L (v.toList ++ st) h')) : WG G M pc L st0 h := by
  intro E A p l e s m args below meth c H locs ls F hX hA hK hP hD hS hL
  obtain ⟨m1, m3, m4, m5, m6⟩ := hm
  have hts := F.1.2.2.2.2.2.2
  have hF := clsq_free hD hS hA
  have cb : va_CN G.2.2.1 s args M.1.cls i M'.1 "CordPens" M'.2.1 M'.2.2.1 M'.2.2.2 (wsM M') (rmD d) 0 0 n := va_cnB n hts (wsM_good m4) rfl rfl rfl (hX.2.2.2.2 _ hl) (hts _ m3) m5 ⟨hRm.1, by show 8 + (M'.2.2.1 + 11) + 100 * d ≤ G.2.2.1.locals; have := hRm.2; omega⟩
  refine gg_call0 (A1 := va_A (clsq G.2.1 E h) H.size) (va_runSN (As := av.map (tr E)) (rest := st.map (tr E)) ⟨F.1.1, F.1.2.1, F.1.2.2.1, F.1.2.2.2.2.2.1, hts⟩ (k E H.size l) ⟨cb, hts _ m1, trivial⟩ ⟨WLDq.blind, fun U hU hW => ⟨rfl, WLDq.at hX hA hK hP hD hS hU hW⟩⟩ rfl (by simpa using hn) hL.1 (by subst hst; simp [List.map_reverse]) (lv_room (by rw [wtA_eq]; exact hw)) hd hCk) hS hF
    (fun v h' t H1 locs1 ht hvm hp hP1 hK1 hD1 hS1 => ?_)
  have := hp E A p l e s m args below meth c H1 locs1 ls F hX hA (va_K.moved hvm.symm hK1) hP1 (hD1.weaken (fun _ q _ z => hF q.1 z)) hS1 hL
  cases v with
  | none => exact this
  | some v => exact this
theorem gg_callVI (hRm : d + 1 ≤ G.2.2.1.frames ∧ 100 * (d + 1) ≤ G.2.2.1.locals) (hCk : G.2.2.2.1 ≤ G.2.2.1.cells ∧ G.2.2.2.2.1 ≤ G.2.2.1.slots) {i a ci n : Nat} {ts : List Nat} {r : vw_C} {st0 av : List AV} (hd : decode M.2.1 pc = .ok (.invokevirtual i, 3)) (hm : MVk M' n) (hl : Cond.methodLink M.1.cls i M'.1 ∈ lw_g) (hs : ix (SH.take G.2.1) a = some (ci, ts)) (hc : ci < 100) (hr : ix vwCl ci = some r) (hrc : r.1 = M'.1.cls) (hn : av.length = n) (hst : st0 = av.reverse ++ .inr (.inr a) :: st) (hw : wtA st ≤ 8)
    (k : Clq G.2.1 d M' (.inr (.inr a) :: av) h (pI fun r h' => WG G M (pc + 3) L (.inl r :: st) h')) : WG G M pc L st0 h := by
  intro E A p l e s m args below meth c H locs ls F hX hA hK hP hD hS hL
  obtain ⟨m1, m2, m3, m4, m5, m6⟩ := hm
  have hts := F.1.2.2.2.2.2.2
  have he := clsq_at (E := E) (h := h) hs
  rw [cellE_obj hc] at he
  have hrv := va_recv hK hP (by rw [ix_eq] at hr; exact hr) he
  rw [hrc] at hrv
  have hF := clsq_free hD hS hA
  have cb : CallB G.2.2.1 s args M.1.cls i M'.1 M'.2.1 M'.2.2.1 M'.2.2.2 (wsM M') (rmD d) 0 0 n := callB_of n hts (wsM_good m4) rfl rfl rfl (hts _ m3) (hts _ hl) m5 ⟨hRm.1, by show 8 + (M'.2.2.1 + 11) + 100 * d ≤ G.2.2.1.locals; have := hRm.2; omega⟩
  refine gg_call0 (A1 := va_A (clsq G.2.1 E h) H.size) (va_runV (As := av.map (tr E)) (rest := st.map (tr E)) (b := E.2.1 a) ⟨F.1.1, F.1.2.1, F.1.2.2.1, F.1.2.2.2.2.2.1, hts⟩ (k E H.size l) ⟨cb, hts _ m1, hts _ m2⟩ ⟨WLDq.blind, hrv, fun U hU hW => ⟨rfl, WLDq.at hX hA hK hP hD hS hU hW⟩⟩ rfl (by simpa using hn) hL.1 (by subst hst; simp [List.map_reverse]; rfl) (lv_room (by rw [wtA_eq]; exact hw)) hd hCk) hS hF
    (fun v h' t H1 locs1 ht hvm hp hP1 hK1 hD1 hS1 => ?_)
  obtain ⟨r, rfl, hp⟩ := hp
  exact hp E A p l e s m args below meth c H1 locs1 ls F hX hA (va_K.moved hvm.symm hK1) hP1 (hD1.weaken (fun _ q _ z => hF q.1 z)) hS1 hL
theorem gg_callSI (hRm : d + 1 ≤ G.2.2.1.frames ∧ 100 * (d + 1) ≤ G.2.2.1.locals) (hCk : G.2.2.2.1 ≤ G.2.2.1.cells ∧ G.2.2.2.2.1 ≤ G.2.2.1.slots) {i n : Nat} {st0 av : List AV} (hd : decode M.2.1 pc = .ok (.invokestatic i, 3)) (hm : MSk M' n) (hl : Cond.methodLink M.1.cls i M'.1 ∈ lw_g) (hn : av.length = n) (hst : st0 = av.reverse ++ st) (hw : wtA st ≤ 8)
    (k : Clq G.2.1 d M' av h (pI fun r h' => WG G M (pc + 3) L (.inl r :: st) h')) : WG G M pc L st0 h := by
  intro E A p l e s m args below meth c H locs ls F hX hA hK hP hD hS hL
  obtain ⟨m1, m3, m4, m5, m6⟩ := hm
  have hts := F.1.2.2.2.2.2.2
  have hF := clsq_free hD hS hA
  have cb : CallB G.2.2.1 s args M.1.cls i M'.1 M'.2.1 M'.2.2.1 M'.2.2.2 (wsM M') (rmD d) 0 0 n := callB_of n hts (wsM_good m4) rfl rfl rfl (hts _ m3) (hts _ hl) m5 ⟨hRm.1, by show 8 + (M'.2.2.1 + 11) + 100 * d ≤ G.2.2.1.locals; have := hRm.2; omega⟩
  refine gg_call0 (A1 := va_A (clsq G.2.1 E h) H.size) (va_runS (As := av.map (tr E)) (rest := st.map (tr E)) ⟨F.1.1, F.1.2.1, F.1.2.2.1, F.1.2.2.2.2.2.1, hts⟩ (k E H.size l) ⟨cb, hts _ m1⟩ ⟨WLDq.blind, fun U hU hW => ⟨rfl, WLDq.at hX hA hK hP hD hS hU hW⟩⟩ rfl (by simpa using hn) hL.1 (by subst hst; simp [List.map_reverse]) (lv_room (by rw [wtA_eq]; exact hw)) hd hCk) hS hF
    (fun v h' t H1 locs1 ht hvm hp hP1 hK1 hD1 hS1 => ?_)
  obtain ⟨r, rfl, hp⟩ := hp
  exact hp E A p l e s m args below meth c H1 locs1 ls F hX hA (va_K.moved hvm.symm hK1) hP1 (hD1.weaken (fun _ q _ z => hF q.1 z)) hS1 hL
theorem gg_callNI (hRm : d + 1 ≤ G.2.2.1.frames ∧ 100 * (d + 1) ≤ G.2.2.1.locals) (hCk : G.2.2.2.1 ≤ G.2.2.1.cells ∧ G.2.2.2.2.1 ≤ G.2.2.1.slots) {i n : Nat} {st0 av : List AV} (hd : decode M.2.1 pc = .ok (.invokestatic i, 3)) (hm : MSk M' n) (hl : (M.1.cls, i, M'.1) ∈ nestL) (hn : av.length = n) (hst : st0 = av.reverse ++ st) (hw : wtA st ≤ 8)
    (k : Clq G.2.1 d M' av h (pI fun r h' => WG G M (pc + 3) L (.inl r :: st) h')) : WG G M pc L st0 h := by
  intro E A p l e s m args below meth c H locs ls F hX hA hK hP hD hS hL
  obtain ⟨m1, m3, m4, m5, m6⟩ := hm
  have hts := F.1.2.2.2.2.2.2
  have hF := clsq_free hD hS hA
  have cb : va_CN G.2.2.1 s args M.1.cls i M'.1 "CordPens" M'.2.1 M'.2.2.1 M'.2.2.2 (wsM M') (rmD d) 0 0 n := va_cnB n hts (wsM_good m4) rfl rfl rfl (hX.2.2.2.2 _ hl) (hts _ m3) m5 ⟨hRm.1, by show 8 + (M'.2.2.1 + 11) + 100 * d ≤ G.2.2.1.locals; have := hRm.2; omega⟩
  refine gg_call0 (A1 := va_A (clsq G.2.1 E h) H.size) (va_runSN (As := av.map (tr E)) (rest := st.map (tr E)) ⟨F.1.1, F.1.2.1, F.1.2.2.1, F.1.2.2.2.2.2.1, hts⟩ (k E H.size l) ⟨cb, hts _ m1, trivial⟩ ⟨WLDq.blind, fun U hU hW => ⟨rfl, WLDq.at hX hA hK hP hD hS hU hW⟩⟩ rfl (by simpa using hn) hL.1 (by subst hst; simp [List.map_reverse]) (lv_room (by rw [wtA_eq]; exact hw)) hd hCk) hS hF
    (fun v h' t H1 locs1 ht hvm hp hP1 hK1 hD1 hS1 => ?_)
  obtain ⟨r, rfl, hp⟩ := hp
  exact hp E A p l e s m args below meth c H1 locs1 ls F hX hA (va_K.moved hvm.symm hK1) hP1 (hD1.weaken (fun _ q _ z => hF q.1 z)) hS1 hL
theorem gg_callVJ (hRm : d + 1 ≤ G.2.2.1.frames ∧ 100 * (d + 1) ≤ G.2.2.1.locals) (hCk : G.2.2.2.1 ≤ G.2.2.1.cells ∧ G.2.2.2.2.1 ≤ G.2.2.1.slots) {i a ci n : Nat} {ts : List Nat} {r : vw_C} {st0 av : List AV} (hd : decode M.2.1 pc = .ok (.invokevirtual i, 3)) (hm : MVk M' n) (hl : Cond.methodLink M.1.cls i M'.1 ∈ lw_g) (hs : ix (SH.take G.2.1) a = some (ci, ts)) (hc : ci < 100) (hr : ix vwCl ci = some r) (hrc : r.1 = M'.1.cls) (hn : av.length = n) (hst : st0 = av.reverse ++ .inr (.inr a) :: st) (hw : wtA st ≤ 8)
    (k : Clq G.2.1 d M' (.inr (.inr a) :: av) h (pJ fun r h' => WG G M (pc + 3) L (.inr (.inl r) :: st) h')) : WG G M pc L st0 h := by
  intro E A p l e s m args below meth c H locs ls F hX hA hK hP hD hS hL
  obtain ⟨m1, m2, m3, m4, m5, m6⟩ := hm
  have hts := F.1.2.2.2.2.2.2
  have he := clsq_at (E := E) (h := h) hs
  rw [cellE_obj hc] at he
  have hrv := va_recv hK hP (by rw [ix_eq] at hr; exact hr) he
  rw [hrc] at hrv
  have hF := clsq_free hD hS hA
  have cb : CallB G.2.2.1 s args M.1.cls i M'.1 M'.2.1 M'.2.2.1 M'.2.2.2 (wsM M') (rmD d) 0 0 n := callB_of n hts (wsM_good m4) rfl rfl rfl (hts _ m3) (hts _ hl) m5 ⟨hRm.1, by show 8 + (M'.2.2.1 + 11) + 100 * d ≤ G.2.2.1.locals; have := hRm.2; omega⟩
  refine gg_call0 (A1 := va_A (clsq G.2.1 E h) H.size) (va_runV (As := av.map (tr E)) (rest := st.map (tr E)) (b := E.2.1 a) ⟨F.1.1, F.1.2.1, F.1.2.2.1, F.1.2.2.2.2.2.1, hts⟩ (k E H.size l) ⟨cb, hts _ m1, hts _ m2⟩ ⟨WLDq.blind, hrv, fun U hU hW => ⟨rfl, WLDq.at hX hA hK hP hD hS hU hW⟩⟩ rfl (by simpa using hn) hL.1 (by subst hst; simp [List.map_reverse]; rfl) (lv_room (by rw [wtA_eq]; exact hw)) hd hCk) hS hF
    (fun v h' t H1 locs1 ht hvm hp hP1 hK1 hD1 hS1 => ?_)
  obtain ⟨r, rfl, hp⟩ := hp
  exact hp E A p l e s m args below meth c H1 locs1 ls F hX hA (va_K.moved hvm.symm hK1) hP1 (hD1.weaken (fun _ q _ z => hF q.1 z)) hS1 hL
theorem gg_callSJ (hRm : d + 1 ≤ G.2.2.1.frames ∧ 100 * (d + 1) ≤ G.2.2.1.locals) (hCk : G.2.2.2.1 ≤ G.2.2.1.cells ∧ G.2.2.2.2.1 ≤ G.2.2.1.slots) {i n : Nat} {st0 av : List AV} (hd : decode M.2.1 pc = .ok (.invokestatic i, 3)) (hm : MSk M' n) (hl : Cond.methodLink M.1.cls i M'.1 ∈ lw_g) (hn : av.length = n) (hst : st0 = av.reverse ++ st) (hw : wtA st ≤ 8)
    (k : Clq G.2.1 d M' av h (pJ fun r h' => WG G M (pc + 3) L (.inr (.inl r) :: st) h')) : WG G M pc L st0 h := by
  intro E A p l e s m args below meth c H locs ls F hX hA hK hP hD hS hL
  obtain ⟨m1, m3, m4, m5, m6⟩ := hm
  have hts := F.1.2.2.2.2.2.2
  have hF := clsq_free hD hS hA
  have cb : CallB G.2.2.1 s args M.1.cls i M'.1 M'.2.1 M'.2.2.1 M'.2.2.2 (wsM M') (rmD d) 0 0 n := callB_of n hts (wsM_good m4) rfl rfl rfl (hts _ m3) (hts _ hl) m5 ⟨hRm.1, by show 8 + (M'.2.2.1 + 11) + 100 * d ≤ G.2.2.1.locals; have := hRm.2; omega⟩
  refine gg_call0 (A1 := va_A (clsq G.2.1 E h) H.size) (va_runS (As := av.map (tr E)) (rest := st.map (tr E)) ⟨F.1.1, F.1.2.1, F.1.2.2.1, F.1.2.2.2.2.2.1, hts⟩ (k E H.size l) ⟨cb, hts _ m1⟩ ⟨WLDq.blind, fun U hU hW => ⟨rfl, WLDq.at hX hA hK hP hD hS hU hW⟩⟩ rfl (by simpa using hn) hL.1 (by subst hst; simp [List.map_reverse]) (lv_room (by rw [wtA_eq]; exact hw)) hd hCk) hS hF
    (fun v h' t H1 locs1 ht hvm hp hP1 hK1 hD1 hS1 => ?_)
  obtain ⟨r, rfl, hp⟩ := hp
  exact hp E A p l e s m args below meth c H1 locs1 ls F hX hA (va_K.moved hvm.symm hK1) hP1 (hD1.weaken (fun _ q _ z => hF q.1 z)) hS1 hL
theorem gg_callNJ (hRm : d + 1 ≤ G.2.2.1.frames ∧ 100 * (d + 1) ≤ G.2.2.1.locals) (hCk : G.2.2.2.1 ≤ G.2.2.1.cells ∧ G.2.2.2.2.1 ≤ G.2.2.1.slots) {i n : Nat} {st0 av : List AV} (hd : decode M.2.1 pc = .ok (.invokestatic i, 3)) (hm : MSk M' n) (hl : (M.1.cls, i, M'.1) ∈ nestL) (hn : av.length = n) (hst : st0 = av.reverse ++ st) (hw : wtA st ≤ 8)
    (k : Clq G.2.1 d M' av h (pJ fun r h' => WG G M (pc + 3) L (.inr (.inl r) :: st) h')) : WG G M pc L st0 h := by
  intro E A p l e s m args below meth c H locs ls F hX hA hK hP hD hS hL
  obtain ⟨m1, m3, m4, m5, m6⟩ := hm
  have hts := F.1.2.2.2.2.2.2
  have hF := clsq_free hD hS hA
  have cb : va_CN G.2.2.1 s args M.1.cls i M'.1 "CordPens" M'.2.1 M'.2.2.1 M'.2.2.2 (wsM M') (rmD d) 0 0 n := va_cnB n hts (wsM_good m4) rfl rfl rfl (hX.2.2.2.2 _ hl) (hts _ m3) m5 ⟨hRm.1, by show 8 + (M'.2.2.1 + 11) + 100 * d ≤ G.2.2.1.locals; have := hRm.2; omega⟩
  refine gg_call0 (A1 := va_A (clsq G.2.1 E h) H.size) (va_runSN (As := av.map (tr E)) (rest := st.map (tr E)) ⟨F.1.1, F.1.2.1, F.1.2.2.1, F.1.2.2.2.2.2.1, hts⟩ (k E H.size l) ⟨cb, hts _ m1, trivial⟩ ⟨WLDq.blind, fun U hU hW => ⟨rfl, WLDq.at hX hA hK hP hD hS hU hW⟩⟩ rfl (by simpa using hn) hL.1 (by subst hst; simp [List.map_reverse]) (lv_room (by rw [wtA_eq]; exact hw)) hd hCk) hS hF
    (fun v h' t H1 locs1 ht hvm hp hP1 hK1 hD1 hS1 => ?_)
  obtain ⟨r, rfl, hp⟩ := hp
  exact hp E A p l e s m args below meth c H1 locs1 ls F hX hA (va_K.moved hvm.symm hK1) hP1 (hD1.weaken (fun _ q _ z => hF q.1 z)) hS1 hL
theorem gg_callVU (hRm : d + 1 ≤ G.2.2.1.frames ∧ 100 * (d + 1) ≤ G.2.2.1.locals) (hCk : G.2.2.2.1 ≤ G.2.2.1.cells ∧ G.2.2.2.2.1 ≤ G.2.2.1.slots) {i a ci n : Nat} {ts : List Nat} {r : vw_C} {st0 av : List AV} (hd : decode M.2.1 pc = .ok (.invokevirtual i, 3)) (hm : MVk M' n) (hl : Cond.methodLink M.1.cls i M'.1 ∈ lw_g) (hs : ix (SH.take G.2.1) a = some (ci, ts)) (hc : ci < 100) (hr : ix vwCl ci = some r) (hrc : r.1 = M'.1.cls) (hn : av.length = n) (hst : st0 = av.reverse ++ .inr (.inr a) :: st) (hw : wtA st ≤ 8)
    (k : Clq G.2.1 d M' (.inr (.inr a) :: av) h (pV fun h' => WG G M (pc + 3) L st h')) : WG G M pc L st0 h := by
  intro E A p l e s m args below meth c H locs ls F hX hA hK hP hD hS hL
  obtain ⟨m1, m2, m3, m4, m5, m6⟩ := hm
  have hts := F.1.2.2.2.2.2.2
  have he := clsq_at (E := E) (h := h) hs
  rw [cellE_obj hc] at he
  have hrv := va_recv hK hP (by rw [ix_eq] at hr; exact hr) he
  rw [hrc] at hrv
  have hF := clsq_free hD hS hA
  have cb : CallB G.2.2.1 s args M.1.cls i M'.1 M'.2.1 M'.2.2.1 M'.2.2.2 (wsM M') (rmD d) 0 0 n := callB_of n hts (wsM_good m4) rfl rfl rfl (hts _ m3) (hts _ hl) m5 ⟨hRm.1, by show 8 + (M'.2.2.1 + 11) + 100 * d ≤ G.2.2.1.locals; have := hRm.2; omega⟩
  refine gg_call0 (A1 := va_A (clsq G.2.1 E h) H.size) (va_runV (As := av.map (tr E)) (rest := st.map (tr E)) (b := E.2.1 a) ⟨F.1.1, F.1.2.1, F.1.2.2.1, F.1.2.2.2.2.2.1, hts⟩ (k E H.size l) ⟨cb, hts _ m1, hts _ m2⟩ ⟨WLDq.blind, hrv, fun U hU hW => ⟨rfl, WLDq.at hX hA hK hP hD hS hU hW⟩⟩ rfl (by simpa using hn) hL.1 (by subst hst; simp [List.map_reverse]; rfl) (lv_room (by rw [wtA_eq]; exact hw)) hd hCk) hS hF
    (fun v h' t H1 locs1 ht hvm hp hP1 hK1 hD1 hS1 => ?_)
  obtain ⟨rfl, hp⟩ := hp
  exact hp E A p l e s m args below meth c H1 locs1 ls F hX hA (va_K.moved hvm.symm hK1) hP1 (hD1.weaken (fun _ q _ z => hF q.1 z)) hS1 hL
theorem gg_callSU (hRm : d + 1 ≤ G.2.2.1.frames ∧ 100 * (d + 1) ≤ G.2.2.1.locals) (hCk : G.2.2.2.1 ≤ G.2.2.1.cells ∧ G.2.2.2.2.1 ≤ G.2.2.1.slots) {i n : Nat} {st0 av : List AV} (hd : decode M.2.1 pc = .ok (.invokestatic i, 3)) (hm : MSk M' n) (hl : Cond.methodLink M.1.cls i M'.1 ∈ lw_g) (hn : av.length = n) (hst : st0 = av.reverse ++ st) (hw : wtA st ≤ 8)
    (k : Clq G.2.1 d M' av h (pV fun h' => WG G M (pc + 3) L st h')) : WG G M pc L st0 h := by
  intro E A p l e s m args below meth c H locs ls F hX hA hK hP hD hS hL
  obtain ⟨m1, m3, m4, m5, m6⟩ := hm
  have hts := F.1.2.2.2.2.2.2
  have hF := clsq_free hD hS hA
  have cb : CallB G.2.2.1 s args M.1.cls i M'.1 M'.2.1 M'.2.2.1 M'.2.2.2 (wsM M') (rmD d) 0 0 n := callB_of n hts (wsM_good m4) rfl rfl rfl (hts _ m3) (hts _ hl) m5 ⟨hRm.1, by show 8 + (M'.2.2.1 + 11) + 100 * d ≤ G.2.2.1.locals; have := hRm.2; omega⟩
  refine gg_call0 (A1 := va_A (clsq G.2.1 E h) H.size) (va_runS (As := av.map (tr E)) (rest := st.map (tr E)) ⟨F.1.1, F.1.2.1, F.1.2.2.1, F.1.2.2.2.2.2.1, hts⟩ (k E H.size l) ⟨cb, hts _ m1⟩ ⟨WLDq.blind, fun U hU hW => ⟨rfl, WLDq.at hX hA hK hP hD hS hU hW⟩⟩ rfl (by simpa using hn) hL.1 (by subst hst; simp [List.map_reverse]) (lv_room (by rw [wtA_eq]; exact hw)) hd hCk) hS hF
    (fun v h' t H1 locs1 ht hvm hp hP1 hK1 hD1 hS1 => ?_)
  obtain ⟨rfl, hp⟩ := hp
  exact hp E A p l e s m args below meth c H1 locs1 ls F hX hA (va_K.moved hvm.symm hK1) hP1 (hD1.weaken (fun _ q _ z => hF q.1 z)) hS1 hL
theorem gg_callNU (hRm : d + 1 ≤ G.2.2.1.frames ∧ 100 * (d + 1) ≤ G.2.2.1.locals) (hCk : G.2.2.2.1 ≤ G.2.2.1.cells ∧ G.2.2.2.2.1 ≤ G.2.2.1.slots) {i n : Nat} {st0 av : List AV} (hd : decode M.2.1 pc = .ok (.invokestatic i, 3)) (hm : MSk M' n) (hl : (M.1.cls, i, M'.1) ∈ nestL) (hn : av.length = n) (hst : st0 = av.reverse ++ st) (hw : wtA st ≤ 8)
    (k : Clq G.2.1 d M' av h (pV fun h' => WG G M (pc + 3) L st h')) : WG G M pc L st0 h := by
  intro E A p l e s m args below meth c H locs ls F hX hA hK hP hD hS hL
  obtain ⟨m1, m3, m4, m5, m6⟩ := hm
  have hts := F.1.2.2.2.2.2.2
  have hF := clsq_free hD hS hA
  have cb : va_CN G.2.2.1 s args M.1.cls i M'.1 "CordPens" M'.2.1 M'.2.2.1 M'.2.2.2 (wsM M') (rmD d) 0 0 n := va_cnB n hts (wsM_good m4) rfl rfl rfl (hX.2.2.2.2 _ hl) (hts _ m3) m5 ⟨hRm.1, by show 8 + (M'.2.2.1 + 11) + 100 * d ≤ G.2.2.1.locals; have := hRm.2; omega⟩
  refine gg_call0 (A1 := va_A (clsq G.2.1 E h) H.size) (va_runSN (As := av.map (tr E)) (rest := st.map (tr E)) ⟨F.1.1, F.1.2.1, F.1.2.2.1, F.1.2.2.2.2.2.1, hts⟩ (k E H.size l) ⟨cb, hts _ m1, trivial⟩ ⟨WLDq.blind, fun U hU hW => ⟨rfl, WLDq.at hX hA hK hP hD hS hU hW⟩⟩ rfl (by simpa using hn) hL.1 (by subst hst; simp [List.map_reverse]) (lv_room (by rw [wtA_eq]; exact hw)) hd hCk) hS hF
    (fun v h' t H1 locs1 ht hvm hp hP1 hK1 hD1 hS1 => ?_)
  obtain ⟨rfl, hp⟩ := hp
  exact hp E A p l e s m args below meth c H1 locs1 ls F hX hA (va_K.moved hvm.symm hK1) hP1 (hD1.weaken (fun _ q _ z => hF q.1 z)) hS1 hL
end
