/-! THE START -/
theorem wk_59 : Cond.instantiable RX11 13 ∈ lw_g := in_g (List.mem_of_getElem? (i := 129) (by decide +kernel)) (by decide +kernel)
theorem wk_60 : Cond.instantiable RX12 66 ∈ lw_g := in_g (List.mem_of_getElem? (i := 1310) (by decide +kernel)) (by decide +kernel)
theorem map_in {α : Type} {f : α → Cond} {L : List α} {ps : List Nat} (e : L.map f = ps.filterMap (fun i => lw_tbl[i]?)) : ∀ q ∈ L, f q ∈ lw_tbl := by
  intro q hq
  have h1 : f q ∈ L.map f := List.mem_map.mpr ⟨q, hq, rfl⟩
  rw [e] at h1
  obtain ⟨i, -, hi⟩ := List.mem_filterMap.mp h1
  exact List.mem_of_getElem? hi
theorem sr_in : ∀ q ∈ refS, Cond.stringRef q.1 q.2.1 q.2.2 ∈ lw_tbl := map_in (f := fun q : String × Nat × String => Cond.stringRef q.1 q.2.1 q.2.2) (ps := [704, 757, 758, 759, 760, 761, 762, 1267, 1302]) (by decide +kernel)
theorem nl_in : ∀ q ∈ nestL, Cond.methodLinkNest q.1 q.2.1 q.2.2 "CordPens" ∈ lw_tbl := map_in (f := fun q : String × Nat × MethodName => Cond.methodLinkNest q.1 q.2.1 q.2.2 "CordPens") (ps := [138, 189, 223, 514, 580, 779, 875, 897, 938, 988, 989, 1087, 1182]) (by decide +kernel)
theorem ls_cs : Cond.laysStatic "java/lang/String" "COMPACT_STRINGS" "Z" ∈ lw_tbl := List.mem_of_getElem? (i := 718) (by decide +kernel)
theorem in_str : Cond.initialized "java/lang/String" ∈ lw_tbl := List.mem_of_getElem? (i := 119) (by decide +kernel)
theorem ls_sf : Cond.laysStatic "jdk/internal/util/Preconditions" "SIOOBE_FORMATTER" "Ljava/util/function/BiFunction;" ∈ lw_tbl := List.mem_of_getElem? (i := 734) (by decide +kernel)
theorem in_pre : Cond.initialized "jdk/internal/util/Preconditions" ∈ lw_tbl := List.mem_of_getElem? (i := 121) (by decide +kernel)
def tmS (i : Nat) : Term := Term.string (refS.getD i ("", 0, "")).1 (refS.getD i ("", 0, "")).2.1
abbrev flS1 : List Cond := flatC (Jvm.Cond.and given_1 narrow_1)
theorem sm_ex : ∀ i, i < 9 → Cond.exactly (tmS i) "java/lang/String" ∈ flS1 := by decide +kernel
theorem sm_co : ∀ i, i < 9 → Cond.eq (.field (tmS i) "java/lang/String" "coder" "B") (.int 0) ∈ flS1 := by decide +kernel
theorem sm_ar : ∀ i, i < 9 → Cond.arrayOf (.field (tmS i) "java/lang/String" "value" "[B") .byte ∈ flS1 := by decide +kernel
theorem sm_le : ∀ i, i < 9 → Cond.eq (.length (.field (tmS i) "java/lang/String" "value" "[B")) (.int (Int32.ofNat (lenS.getD i 0))) ∈ flS1 := by decide +kernel
theorem sm_el : ∀ i, i < 9 → ∀ j, j < lenS.getD i 0 → Cond.eq (.elem (.field (tmS i) "java/lang/String" "value" "[B") (.int (Int32.ofNat j))) (.int ((bytS.getD i []).getD j 0)) ∈ flS1 := by decide +kernel
theorem sm_ne : ∀ i, i < 9 → ∀ j, j < 9 → i ≠ j → (Cond.not (Cond.eq (tmS i) (tmS j)) ∈ flS1 ∨ Cond.not (Cond.eq (tmS j) (tmS i)) ∈ flS1) := by decide +kernel
def adrE (b : Nat) (adK adV : Nat → Nat) : Nat → Nat := fun a => if a = 3000 then b else if 2000 ≤ a then adV (a - 2000) else if 1000 ≤ a then adK (a - 1000) else 0
theorem adr_3 {b : Nat} {adK adV : Nat → Nat} : adrE b adK adV 3000 = b := by
  unfold adrE
  exact if_pos rfl
theorem adr_K {b i : Nat} {adK adV : Nat → Nat} (hi : i < 9) : adrE b adK adV (1000 + i) = adK i := by
  unfold adrE
  rw [if_neg (by omega), if_neg (by omega), if_pos (by omega), show 1000 + i - 1000 = i by omega]
theorem adr_V {b i : Nat} {adK adV : Nat → Nat} (hi : i < 9) : adrE b adK adV (2000 + i) = adV i := by
  unfold adrE
  rw [if_neg (by omega), if_pos (by omega), show 2000 + i - 2000 = i by omega]
set_option maxRecDepth 20000 in
theorem env_start {s : State} {b : Nat} (hts : ∀ w ∈ lw_tbl, w.before #[Value.ref b] s = true) (hgv : (Jvm.Cond.and given_1 narrow_1).before #[Value.ref b] s = true) : ∃ E : EV, E.2.1 3000 = b ∧ KK E s ∧ XT E (fun q => s.heap.size ≤ q) s s.heap := by
  have hA : ∀ a : Nat, a < s.heap.size → ¬ (fun q : Nat => s.heap.size ≤ q) a := fun a h => Nat.not_le.mpr h
  have hs := flat_of_before _ hgv
  have htg : ∀ w ∈ lw_g, w.before #[Value.ref b] s = true := fun w h => hts w (List.mem_filter.mp h).1
  have hall : ∀ k : Nat, ∃ p : ClassId × (Nat → Nat), ∀ q : vw_C, vwCl[k]? = some q → u_Kn s q.1 q.2.1 q.2.2 p.1 p.2 := by
    intro k
    match k with
    | 0 =>
      obtain ⟨c, i, h⟩ := u_known (C := RX0) (T := TX0) (N := 11) (n := 11) htg lay_X0 (htg _ wk_39)
      exact ⟨(c, i), fun q hq => by cases hq; exact h⟩
    | 1 =>
      obtain ⟨c, i, h⟩ := u_known (C := RX1) (T := TX1) (N := 10) (n := 10) htg lay_X1 (htg _ wk_44)
      exact ⟨(c, i), fun q hq => by cases hq; exact h⟩
    | 2 =>
      obtain ⟨c, i, h⟩ := u_known (C := RX2) (T := TX2) (N := 8) (n := 8) htg lay_X2 (htg _ wk_23)
      exact ⟨(c, i), fun q hq => by cases hq; exact h⟩
    | 3 =>
      obtain ⟨c, i, h⟩ := u_known (C := RX3) (T := TX3) (N := 6) (n := 6) htg lay_X3 (htg _ wk_18)
      exact ⟨(c, i), fun q hq => by cases hq; exact h⟩
    | 4 =>
      obtain ⟨c, i, h⟩ := u_known (C := RX4) (T := TX4) (N := 6) (n := 6) htg lay_X4 (htg _ wk_49)
      exact ⟨(c, i), fun q hq => by cases hq; exact h⟩
    | 5 =>
      obtain ⟨c, i, h⟩ := u_known (C := RX5) (T := TX5) (N := 12) (n := 12) htg lay_X5 (htg _ wk_29)
      exact ⟨(c, i), fun q hq => by cases hq; exact h⟩
    | 6 =>
      obtain ⟨c, i, h⟩ := u_known (C := RX6) (T := TX6) (N := 5) (n := 5) htg lay_X6 (htg _ wk_54)
      exact ⟨(c, i), fun q hq => by cases hq; exact h⟩
    | 7 =>
      obtain ⟨c, i, h⟩ := u_known (C := RX7) (T := TX7) (N := 11) (n := 11) htg lay_X7 (htg _ wk_13)
      exact ⟨(c, i), fun q hq => by cases hq; exact h⟩
    | 8 =>
      obtain ⟨c, i, h⟩ := u_known (C := RX8) (T := TX8) (N := 7) (n := 7) htg lay_X8 (htg _ wk_8)
      exact ⟨(c, i), fun q hq => by cases hq; exact h⟩
    | 9 =>
      obtain ⟨c, i, h⟩ := u_known (C := RX9) (T := TX9) (N := 7) (n := 7) htg lay_X9 (htg _ wk_34)
      exact ⟨(c, i), fun q hq => by cases hq; exact h⟩
    | 10 =>
      obtain ⟨c, i, h⟩ := u_known (C := RX10) (T := TX10) (N := 9) (n := 9) htg lay_X10 (htg _ wk_4)
      exact ⟨(c, i), fun q hq => by cases hq; exact h⟩
    | 11 =>
      obtain ⟨c, i, h⟩ := u_known (C := RX11) (T := TX11) (N := 13) (n := 13) htg lay_X11 (htg _ wk_59)
      exact ⟨(c, i), fun q hq => by cases hq; exact h⟩
    | 12 =>
      obtain ⟨c, i, h⟩ := u_known (C := RX12) (T := TX12) (N := 66) (n := 66) htg lay_X12 (htg _ wk_60)
      exact ⟨(c, i), fun q hq => by cases hq; exact h⟩
    | k + 13 => exact ⟨(0, fun _ => 0), fun q hq => by simp [vwCl] at hq⟩
  obtain ⟨cI, kI, pI1, i1, i2, i3⟩ := Cond.arrayClass_spec (htg _ wk_16)
  obtain ⟨cJ, kJ, pJ1, j1, j2, j3⟩ := Cond.arrayClass_spec (htg _ wk_52)
  obtain ⟨cB, kB, pB1, b1, b2, b3⟩ := Cond.arrayClass_spec (htg _ wk_11)
  obtain ⟨cZ, kZ, pZ1, z1, z2, z3⟩ := Cond.arrayClass_spec (htg _ wk_27)
  obtain ⟨adK, adV, hvS, hev⟩ := vk_Sof (args := #[Value.ref b]) (s := s) (N := 9) (tm := tmS) (len := lenS) (byt := bytS) (A := fun q => s.heap.size ≤ q) (by decide) (fun i hi => hs _ (sm_ex i hi)) (fun i hi => hs _ (sm_co i hi)) (fun i hi => hs _ (sm_ar i hi)) (fun i hi => hs _ (sm_le i hi)) (fun i hi j hj => hs _ (sm_el i hi j hj)) (fun i j hi hj hne => (sm_ne i hi j hj hne).elim (fun q => Or.inl (hs _ q)) (fun q => Or.inr (hs _ q))) hA
  refine ⟨((fun k => (Classical.choose (hall k)).1, fun k => (Classical.choose (hall k)).2), adrE b adK adV, fun i => if i = 0 then cI else if i = 1 then cJ else if i = 2 then cB else cZ), adr_3 (b := b) (adK := adK) (adV := adV), ⟨fun k q hq => Classical.choose_spec (hall k) q hq, fun k q hq => ?_⟩, ?_, ?_, ?_, ?_, ?_⟩
  · match k, hq with
    | 0, hq => cases hq; exact ⟨fun n z => ⟨fun k h => (by cases h), kI, i2, pI1, i3⟩, i1⟩
    | 1, hq => cases hq; exact ⟨fun n z => ⟨fun k h => (by cases h), kJ, j2, pJ1, j3⟩, j1⟩
    | 2, hq => cases hq; exact ⟨fun n z => ⟨fun k h => (by cases h), kB, b2, pB1, b3⟩, b1⟩
    | 3, hq => cases hq; exact ⟨fun n z => ⟨fun k h => (by cases h), kZ, z2, pZ1, z3⟩, z1⟩
    | k + 4, hq => simp [tysE] at hq
  · refine ⟨fun i hi => ?_, fun i j hi hj e => ?_⟩
    · have h1 := hvS.1 i hi
      rw [← adr_K (b := b) (adK := adK) (adV := adV) hi, ← adr_V (b := b) (adK := adK) (adV := adV) hi] at h1
      exact h1
    · have e' : adrE b adK adV (1000 + i) = adrE b adK adV (1000 + j) := e
      rw [adr_K hi, adr_K hj] at e'
      exact hvS.2 i j hi hj e'
  · obtain ⟨w, h1, h2⟩ := Cond.eq_one (show (Cond.eq (.static "java/lang/String" "COMPACT_STRINGS" "Z") (.int 1)).holds #[Value.ref b] s none s [] = true from hs (Cond.eq (.static "java/lang/String" "COMPACT_STRINGS" "Z") (.int 1)) (by decide +kernel))
    have h3 : w = .int 1 := (Option.some.inj h2).symm
    subst h3
    exact va_Zof (hts _ ls_cs) (hts _ in_str) h1 hA
  · exact va_Zqof (hts _ ls_sf) (hts _ in_pre) (hs (Cond.isRef (.static "jdk/internal/util/Preconditions" "SIOOBE_FORMATTER" "Ljava/util/function/BiFunction;")) (by decide +kernel)) hA
  · intro i q hq
    have hi : i < 9 := ix_lt hq
    have h1 := hev i hi
    have e1 : refS.getD i ("", 0, "") = q := by
      rw [List.getD_eq_getElem?_getD, ← ix_eq, hq]
      rfl
    have e2 : tmS i = Term.string q.1 q.2.1 := by
      unfold tmS
      rw [e1]
    rw [e2, ← adr_K (b := b) (adK := adK) (adV := adV) hi] at h1
    exact vk_R.of (hts _ (sr_in q (List.mem_of_getElem? (by rw [← ix_eq]; exact hq)))) h1
  · exact fun q hq => va_Nw.of rfl (hts _ (nl_in q hq))
