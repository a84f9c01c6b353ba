set_option maxRecDepth 20000 in
set_option maxHeartbeats 400000 in
theorem sp_X12_hatches {d : Nat} (hd : 6 ≤ d) {h : Hp} {a N : Nat} (ha : a < 60) (hN : ∀ i : Nat, i < N ↔ h 53 (5 * a + 1) + (i : Int) * h 53 (5 * a + 4) ≤ h 53 (5 * a + 3)) (hn : (0 ≤ h 53 (5 * a) ∧ h 53 (5 * a) ≤ 999) ∧ (0 ≤ h 53 (5 * a + 1) ∧ h 53 (5 * a + 1) ≤ 999) ∧ (0 ≤ h 53 (5 * a + 2) ∧ h 53 (5 * a + 2) ≤ 999) ∧ (0 ≤ h 53 (5 * a + 3) ∧ h 53 (5 * a + 3) ≤ 999) ∧ (1 ≤ h 53 (5 * a + 4) ∧ h 53 (5 * a + 4) ≤ 99)) (hsh : (-500000 ≤ h 49 34 ∧ h 49 34 ≤ 500000) ∧ (-500000 ≤ h 49 35 ∧ h 49 35 ≤ 500000)) (hw : WnR (wnM h)) (hg : GmR (gmM h)) (h0 : h 49 12 = 0) {P : Int → Hp → Prop} (k0 : ∀ h' : Hp, (FrK h h') → (gmM h' = itF (wnM h) (htE (h 53 (5 * a)) (h 53 (5 * a + 2)) (h 53 (5 * a + 1)) (h 53 (5 * a + 4)) (h 49 34) (h 49 35)) N 0 (gmM h)) → (h' 49 12 = 0) → P (1) h') (k1 : ∀ h' : Hp, (FrK h h') → (gmM h' = itF (wnM h) (htE (h 53 (5 * a)) (h 53 (5 * a + 2)) (h 53 (5 * a + 1)) (h 53 (5 * a + 4)) (h 49 34) (h 49 35)) N 0 (gmM h)) → (h' 49 12 = 1) → P (0) h') : Cl d mX12_hatches [.inr (.inr 49), .inl (a : Int)] h (pI P) := by
  refine Cl.of (L := [some (.inr (.inr 49)), some (.inl (a : Int)), none, none, none, none]) (by decide +kernel) (Nat.le_of_ble_eq_true rfl) rfl ?_
  obtain ⟨d, rfl⟩ : ∃ q, d = q + 1 := ⟨d - 1, by omega⟩
  have i0 : (5 * (a : Int)).toNat = 5 * a := by clear hw hg hN; omega
  have i1 : (5 * (a : Int) + 1).toNat = 5 * a + 1 := by clear hw hg hN; omega
  have i2 : (5 * (a : Int) + 2).toNat = 5 * a + 2 := by clear hw hg hN; omega
  refine r_aload_n dX12_hatches_0 rfl rfl ?_
  refine r_getR dX12_hatches_1 fl_X12_38 sh_49 rfl ?_
  refine r_iconst dX12_hatches_4 ?_
  refine r_iload_n dX12_hatches_5 rfl rfl ?_
  refine r_imul dX12_hatches_6 ?_
  refine r_iald dX12_hatches_7 sh_53 (by decide) (by clear hw hg hN; omega) ?_
  rw [i0]
  refine r_istore_n (L' := [_, _, _, _, _, _]) dX12_hatches_8 rfl rfl (by decide) rfl ?_
  refine r_aload_n dX12_hatches_9 rfl rfl ?_
  refine r_getR dX12_hatches_10 fl_X12_38 sh_49 rfl ?_
  refine r_iconst dX12_hatches_13 ?_
  refine r_iload_n dX12_hatches_14 rfl rfl ?_
  refine r_imul dX12_hatches_15 ?_
  refine r_iconst dX12_hatches_16 ?_
  refine r_iadd dX12_hatches_17 ?_
  refine r_iald dX12_hatches_18 sh_53 (by decide) (by clear hw hg hN; omega) ?_
  rw [i2]
  refine r_istore_n (L' := [_, _, _, _, _, _]) dX12_hatches_19 rfl rfl (by decide) rfl ?_
  refine r_iconst dX12_hatches_20 ?_
  refine r_istore (L' := [_, _, _, _, _, _]) dX12_hatches_21 rfl (by decide) rfl ?_
  refine r_aload_n dX12_hatches_23 rfl rfl ?_
  refine r_getR dX12_hatches_24 fl_X12_38 sh_49 rfl ?_
  refine r_iconst dX12_hatches_27 ?_
  refine r_iload_n dX12_hatches_28 rfl rfl ?_
  refine r_imul dX12_hatches_29 ?_
  refine r_iconst dX12_hatches_30 ?_
  refine r_iadd dX12_hatches_31 ?_
  refine r_iald dX12_hatches_32 sh_53 (by decide) (by clear hw hg hN; omega) ?_
  rw [i1]
  refine r_istore (L' := [_, _, _, _, _, _]) dX12_hatches_33 rfl (by decide) rfl ?_
  exact lp_mhatch (h := h) (y1 := h 53 (5 * a + 1)) (N := N) (a := a) (by omega) ha hN ⟨rfl, rfl⟩ hn.2.2.2.1 hn.2.2.2.2 hn.1 hn.2.2.1 hsh hw (fun g a e z => k0 g a e z) (fun g a e z => k1 g a e z) (N + 1) 0 N (h 53 (5 * a + 1)) h (by omega) (by rw [show ((0 : Nat) : Int) = 0 from rfl, Int.zero_mul, Int.add_zero]) (by clear hw hg hN; omega) FrK.rf hg h0 rfl (by omega)
