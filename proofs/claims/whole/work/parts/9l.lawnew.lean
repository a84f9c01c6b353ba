set_option maxRecDepth 20000 in
theorem df_X11 : ∀ j, j < 13 → defaultValue (tyX11 j) = vp_V (([2, 2, 2, 2, 2, 2, 2, 2, 2, 2, 2, 2, 0] : List Nat).map dvN) j := by decide +kernel
set_option maxRecDepth 20000 in
theorem df_X12 : ∀ j, j < 66 → defaultValue (tyX12 j) = vp_V (([2, 0, 0, 0, 0, 0, 0, 0, 0, 2, 0, 0, 0, 0, 0, 0, 0, 0, 0, 2, 2, 2, 0, 2, 0, 2, 2, 2, 2, 0, 0, 2, 2, 2, 0, 0, 2, 2, 2, 2, 2, 2, 0, 0, 0, 0, 0, 2, 0, 2, 2, 2, 2, 2, 2, 0, 2, 2, 2, 2, 0, 2, 0, 0, 0, 0] : List Nat).map dvN) j := by decide +kernel
theorem wk_61 : Cond.classLink RL 8 RX11 ∈ lw_g := in_g (List.mem_of_getElem? (i := 128) (by decide +kernel)) (by decide +kernel)
theorem wk_62 : Cond.classLink RL 18 RX12 ∈ lw_g := in_g (List.mem_of_getElem? (i := 1309) (by decide +kernel)) (by decide +kernel)
theorem wk_63 : Cond.initialized RX11 ∈ lw_g := in_g (List.mem_of_getElem? (i := 105) (by decide +kernel)) (by decide +kernel)
theorem wk_64 : Cond.initialized RX12 ∈ lw_g := in_g (List.mem_of_getElem? (i := 117) (by decide +kernel)) (by decide +kernel)
theorem wk_65 : Cond.methodLink RL 17 yX11_init ∈ lw_g := in_g (List.mem_of_getElem? (i := 130) (by decide +kernel)) (by decide +kernel)
theorem wk_66 : Cond.methodLink RL 20 yX12_init ∈ lw_g := in_g (List.mem_of_getElem? (i := 1311) (by decide +kernel)) (by decide +kernel)
def GLN (b Ln : Nat) (xs : Nat → Int32) : GN := (fun E A s args l c _ => PmL b Ln xs E A s args l c, room_1, fun _ _ below args s => lw_Z below args s)
theorem GLN.ok {b Ln n : Nat} {xs : Nat → Int32} : OKN n (GLN b Ln xs) := by
  refine ⟨fun E E' A s args l c meth ag q => ?_, fun _ _ _ _ _ _ _ _ q => q⟩
  obtain ⟨q1, q2, q3⟩ := q
  exact ⟨q1, (ag.2.2 3000 (by omega)).trans q2, q3⟩
set_option maxRecDepth 20000 in
set_option maxHeartbeats 1000000 in
theorem law_new {b Ln : Nat} {xs : Nat → Int32} (hLn : Ln ≤ 3072) : WNc (GLN b Ln xs) [] 0 0 mLw 0 [some (.inr (.inr 3000)), none, none, none, none, none, none] [] hZ0 := by
  refine nn_new (ll' := zs_111) (ci := 11) (N := 13) (n := 0) (ts := [2, 2, 2, 2, 2, 2, 2, 2, 2, 2, 2, 2, 0]) dL_law_0 wk_61 wk_59 wk_63 lay_X11 tyX11_ok rfl (by decide) df_X11 (by decide) rfl (by decide) (by decide +kernel) rfl rfl GLN.ok ⟨Nat.le_of_ble_eq_true rfl, Nat.le_of_ble_eq_true rfl⟩ (by decide +kernel) ?_
  refine nn_dup dL_law_3 (fun z q => by cases q) ?_
  refine nn_callI (d := 6) (mc := 48) (ms := 6463) (n0 := 1) (av := []) (M' := mX11_init) ⟨Nat.le_of_ble_eq_true rfl, Nat.le_of_ble_eq_true rfl⟩ ⟨Nat.le_of_ble_eq_true rfl, Nat.le_of_ble_eq_true rfl⟩ dL_law_4 mc_X11 wk_65 rfl rfl (by decide) rfl rfl rfl GLN.ok cn_X11_0 ?_
  rintro _ ⟨rfl, z1⟩
  refine nn_astore_n (L' := [_, _, _, _, _, _, _]) dL_law_7 rfl rfl (by decide) rfl ?_
  refine nn_new (ll' := zs_174) (ci := 12) (N := 66) (n := 49) (ts := [2, 0, 0, 0, 0, 0, 0, 0, 0, 2, 0, 0, 0, 0, 0, 0, 0, 0, 0, 2, 2, 2, 0, 2, 0, 2, 2, 2, 2, 0, 0, 2, 2, 2, 0, 0, 2, 2, 2, 2, 2, 2, 0, 0, 0, 0, 0, 2, 0, 2, 2, 2, 2, 2, 2, 0, 2, 2, 2, 2, 0, 2, 0, 0, 0, 0]) dL_law_8 wk_62 wk_60 wk_64 lay_X12 tyX12_ok rfl (by decide) df_X12 (by decide) rfl (by decide) (by decide +kernel) rfl rfl GLN.ok ⟨Nat.le_of_ble_eq_true rfl, Nat.le_of_ble_eq_true rfl⟩ (by decide +kernel) ?_
  refine nn_dup dL_law_11 (fun z q => by cases q) ?_
  refine nn_callI (d := 6) (mc := 31) (ms := 28292) (n0 := 50) (av := []) (M' := mX12_init) ⟨Nat.le_of_ble_eq_true rfl, Nat.le_of_ble_eq_true rfl⟩ ⟨Nat.le_of_ble_eq_true rfl, Nat.le_of_ble_eq_true rfl⟩ dL_law_12 mc_X12 wk_66 rfl rfl (by decide) rfl rfl rfl GLN.ok (cn_X12_49 (fun k => z1 49 k (Nat.le_refl _))) ?_
  intro h2 I2
  refine nn_astore_n (L' := [_, _, _, _, _, _, _]) dL_law_15 rfl rfl (by decide) rfl ?_
  refine nn_iconst dL_law_16 ?_
  refine nn_newaJ (ll' := SH) (N := 1) (n := 81) dL_law_17 wk_52 rfl (by decide) rfl (by decide) (by decide +kernel) rfl rfl GLN.ok ⟨Nat.le_of_ble_eq_true rfl, Nat.le_of_ble_eq_true rfl⟩ (by decide +kernel) ?_
  refine WNc.toG (n := 82) (Pm := PmL b Ln xs) (by decide +kernel) rfl (fun _ _ _ _ _ _ _ q => q) (fun _ => ?_)
  show WG (GL b Ln xs 82 34835) mLw 19 [some (.inr (.inr 3000)), some (.inr (.inr 0)), some (.inr (.inr 49)), none, none, none, none] [.inr (.inr 81)] h2
  refine gg_astore_n (L' := [_, _, _, _, _, _, _]) dL_law_19 rfl rfl (by decide) rfl ?_
  refine gg_iconst dL_law_20 ?_
  refine gg_istore (L' := [_, _, _, _, _, _, _]) dL_law_21 rfl (by decide) rfl ?_
  exact law_all hLn (by decide) (by decide) (rel_start I2)
