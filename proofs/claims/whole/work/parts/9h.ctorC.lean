/-! THE CONSTRUCTORS -/
def hZ0 : Hp := fun _ _ => 0
noncomputable def gh16 (h : Hp) : Hp := upH (upH (upH (upH (upH (upH h 16 0 0) 17 0 ((h 1 0).tdiv 2)) 18 0 (h 1 1)) 19 0 0) 20 0 (stF (h 1 2) (h 1 3) (100 * (h 1 0).tdiv 2) (100 * (h 1 1)))) 21 0 (stF (h 1 2) (h 1 3) (100 * (h 1 0) - 100 * (h 1 0).tdiv 2) (100 * (h 1 1)))
noncomputable def gh23 (h : Hp) : Hp := upH (upH (upH (upH (upH (upH h 23 0 0) 24 0 ((h 1 0).tdiv 2)) 25 0 (h 1 1)) 26 0 0) 27 0 (stF (h 1 2) (h 1 3) (100 * (h 1 0).tdiv 2) (100 * (h 1 1)))) 28 0 (stF (h 1 2) (h 1 3) (100 * (h 1 0) - 100 * (h 1 0).tdiv 2) (100 * (h 1 1)))
def mX11_init : MI := (yX11_init, cX11_init, 1, none)
theorem mc_X11 : MCk mX11_init 0 := ⟨rfl, in_g (List.mem_of_getElem? (i := 131) (by decide +kernel)) (by decide +kernel), in_g (List.mem_of_getElem? (i := 105) (by decide +kernel)) (by decide +kernel), in_g (List.mem_of_getElem? (i := 132) (by decide +kernel)) (by decide +kernel), ⟨by decide, by decide, by decide +kernel⟩, by decide, rfl⟩
theorem wk_0 : Cond.methodLink RX11 1 Lib.objectInit ∈ lw_g := in_g (List.mem_of_getElem? (i := 133) (by decide +kernel)) (by decide +kernel)
theorem wk_1 : Cond.instanceMethod Lib.objectInit ∈ lw_g := in_g (List.mem_of_getElem? (i := 134) (by decide +kernel)) (by decide +kernel)
theorem wk_2 : Cond.code Lib.objectInit ⟨#[0xb1]⟩ 1 none ∈ lw_g := in_g (List.mem_of_getElem? (i := 135) (by decide +kernel)) (by decide +kernel)
theorem wk_3 : Cond.classLink RX11 7 RX10 ∈ lw_g := in_g (List.mem_of_getElem? (i := 136) (by decide +kernel)) (by decide +kernel)
theorem wk_4 : Cond.instantiable RX10 9 ∈ lw_g := in_g (List.mem_of_getElem? (i := 137) (by decide +kernel)) (by decide +kernel)
theorem wk_5 : Cond.initialized RX10 ∈ lw_g := in_g (List.mem_of_getElem? (i := 106) (by decide +kernel)) (by decide +kernel)
set_option maxRecDepth 20000 in
theorem df_X10 : ∀ j, j < 9 → defaultValue (tyX10 j) = vp_V (([0, 0, 0, 0, 0, 0, 1, 1, 0] : List Nat).map dvN) j := by decide +kernel
def zs_0 : List (Nat × List Nat) := [(11, [2, 2, 2, 2, 2, 2, 2, 2, 2, 2, 2, 2, 0]), (10, [0, 0, 0, 0, 0, 0, 1, 1, 0])]
def mX10_init : MI := (yX10_init, cX10_init, 1, none)
theorem mc_X10 : MCk mX10_init 0 := ⟨rfl, in_g (List.mem_of_getElem? (i := 139) (by decide +kernel)) (by decide +kernel), in_g (List.mem_of_getElem? (i := 106) (by decide +kernel)) (by decide +kernel), in_g (List.mem_of_getElem? (i := 140) (by decide +kernel)) (by decide +kernel), ⟨by decide, by decide, by decide +kernel⟩, by decide, rfl⟩
theorem wk_6 : Cond.methodLink RX10 3 Lib.objectInit ∈ lw_g := in_g (List.mem_of_getElem? (i := 141) (by decide +kernel)) (by decide +kernel)
def fX10_1 (h : Hp) : Hp := upH (upH (upH (upH (upH (upH (upH (upH (upH h 1 0 (100)) 1 1 (100)) 1 2 (4)) 1 3 (0)) 1 4 (1)) 1 5 (9999)) 1 6 (0)) 1 7 (0)) 1 8 (-1)
set_option maxRecDepth 20000 in
set_option maxHeartbeats 1000000 in
theorem cn_X10_1 {h : Hp} : CNt 1 0 0 mX10_init [.inr (.inr 1)] zs_0 h zs_0 (fun h' => h' = fX10_1 h) := by
  refine CNt.of (n0 := 2) (L := [some (.inr (.inr 1))]) (by decide +kernel) rfl (Nat.le_of_ble_eq_true rfl) rfl rfl ?_
  refine nn_aload_n dX10_init_0 rfl rfl ?_
  refine nn_obj dX10_init_1 wk_6 wk_1 wk_2 ⟨Nat.le_of_ble_eq_true rfl, Nat.le_of_ble_eq_true rfl⟩ ?_
  refine nn_aload_n dX10_init_4 rfl rfl ?_
  refine nn_bipush dX10_init_5 (by decide +kernel) ?_
  refine nn_putI dX10_init_7 fl_X10_9 rfl rfl ?_
  refine nn_aload_n dX10_init_10 rfl rfl ?_
  refine nn_bipush dX10_init_11 (by decide +kernel) ?_
  refine nn_putI dX10_init_13 fl_X10_15 rfl rfl ?_
  refine nn_aload_n dX10_init_16 rfl rfl ?_
  refine nn_iconst dX10_init_17 ?_
  refine nn_putI dX10_init_18 fl_X10_18 rfl rfl ?_
  refine nn_aload_n dX10_init_21 rfl rfl ?_
  refine nn_iconst dX10_init_22 ?_
  refine nn_putI dX10_init_23 fl_X10_21 rfl rfl ?_
  refine nn_aload_n dX10_init_26 rfl rfl ?_
  refine nn_iconst dX10_init_27 ?_
  refine nn_putI dX10_init_28 fl_X10_24 rfl rfl ?_
  refine nn_aload_n dX10_init_31 rfl rfl ?_
  refine nn_sipush dX10_init_32 (by decide +kernel) ?_
  refine nn_putI dX10_init_35 fl_X10_27 rfl rfl ?_
  refine nn_aload_n dX10_init_38 rfl rfl ?_
  refine nn_lconst (z := 0) dX10_init_39 (by decide) ?_
  refine nn_putJ dX10_init_40 fl_X10_30 rfl rfl ?_
  refine nn_aload_n dX10_init_43 rfl rfl ?_
  refine nn_lconst (z := 0) dX10_init_44 (by decide) ?_
  refine nn_putJ dX10_init_45 fl_X10_34 rfl rfl ?_
  refine nn_aload_n dX10_init_48 rfl rfl ?_
  refine nn_iconst dX10_init_49 ?_
  refine nn_putI dX10_init_50 fl_X10_37 rfl rfl ?_
  exact nn_vret dX10_init_53 rfl ⟨Nat.le_of_ble_eq_true rfl, Nat.le_of_ble_eq_true rfl⟩ rfl
def zs_1 : List (Nat × List Nat) := [(11, [3, 2, 2, 2, 2, 2, 2, 2, 2, 2, 2, 2, 0]), (10, [0, 0, 0, 0, 0, 0, 1, 1, 0])]
theorem wk_7 : Cond.classLink RX11 16 RX8 ∈ lw_g := in_g (List.mem_of_getElem? (i := 187) (by decide +kernel)) (by decide +kernel)
theorem wk_8 : Cond.instantiable RX8 7 ∈ lw_g := in_g (List.mem_of_getElem? (i := 188) (by decide +kernel)) (by decide +kernel)
theorem wk_9 : Cond.initialized RX8 ∈ lw_g := in_g (List.mem_of_getElem? (i := 107) (by decide +kernel)) (by decide +kernel)
set_option maxRecDepth 20000 in
theorem df_X8 : ∀ j, j < 7 → defaultValue (tyX8 j) = vp_V (([0, 0, 0, 0, 0, 0, 2] : List Nat).map dvN) j := by decide +kernel
def zs_2 : List (Nat × List Nat) := [(11, [3, 2, 2, 2, 2, 2, 2, 2, 2, 2, 2, 2, 0]), (10, [0, 0, 0, 0, 0, 0, 1, 1, 0]), (8, [0, 0, 0, 0, 0, 0, 2])]
def mX8_init : MI := (yX8_init, cX8_init, 1, none)
theorem mc_X8 : MCk mX8_init 0 := ⟨rfl, in_g (List.mem_of_getElem? (i := 190) (by decide +kernel)) (by decide +kernel), in_g (List.mem_of_getElem? (i := 107) (by decide +kernel)) (by decide +kernel), in_g (List.mem_of_getElem? (i := 191) (by decide +kernel)) (by decide +kernel), ⟨by decide, by decide, by decide +kernel⟩, by decide, rfl⟩
theorem wk_10 : Cond.methodLink RX8 1 Lib.objectInit ∈ lw_g := in_g (List.mem_of_getElem? (i := 192) (by decide +kernel)) (by decide +kernel)
def zs_3 : List (Nat × List Nat) := [(11, [3, 2, 2, 2, 2, 2, 2, 2, 2, 2, 2, 2, 0]), (10, [0, 0, 0, 0, 0, 0, 1, 1, 0]), (8, [0, 0, 0, 0, 0, 0, 2]), (102, [500])]
theorem wk_11 : Cond.arrayClass (newarray.typeOf .byte) ∈ lw_g := in_g (List.mem_of_getElem? (i := 220) (by decide +kernel)) (by decide +kernel)
def zs_4 : List (Nat × List Nat) := [(11, [3, 2, 2, 2, 2, 2, 2, 2, 2, 2, 2, 2, 0]), (10, [0, 0, 0, 0, 0, 0, 1, 1, 0]), (8, [0, 0, 0, 0, 0, 0, 5]), (102, [500])]
def fX8_2 (h : Hp) : Hp := upH (upH (upH (upH (upH (upH h 2 0 (0)) 2 1 (0)) 2 2 (0)) 2 3 (0)) 2 4 (0)) 2 5 (0)
set_option maxRecDepth 20000 in
set_option maxHeartbeats 1000000 in
theorem cn_X8_2 {h : Hp} : CNt 1 1 500 mX8_init [.inr (.inr 2)] zs_2 h zs_4 (fun h' => h' = fX8_2 h) := by
  refine CNt.of (n0 := 3) (L := [some (.inr (.inr 2))]) (by decide +kernel) rfl (Nat.le_of_ble_eq_true rfl) rfl rfl ?_
  refine nn_aload_n dX8_init_0 rfl rfl ?_
  refine nn_obj dX8_init_1 wk_10 wk_1 wk_2 ⟨Nat.le_of_ble_eq_true rfl, Nat.le_of_ble_eq_true rfl⟩ ?_
  refine nn_aload_n dX8_init_4 rfl rfl ?_
  refine nn_iconst dX8_init_5 ?_
  refine nn_putI dX8_init_6 fl_X8_7 rfl rfl ?_
  refine nn_aload_n dX8_init_9 rfl rfl ?_
  refine nn_iconst dX8_init_10 ?_
  refine nn_putI dX8_init_11 fl_X8_13 rfl rfl ?_
  refine nn_aload_n dX8_init_14 rfl rfl ?_
  refine nn_iconst dX8_init_15 ?_
  refine nn_putI dX8_init_16 fl_X8_16 rfl rfl ?_
  refine nn_aload_n dX8_init_19 rfl rfl ?_
  refine nn_iconst dX8_init_20 ?_
  refine nn_putI dX8_init_21 fl_X8_19 rfl rfl ?_
  refine nn_aload_n dX8_init_24 rfl rfl ?_
  refine nn_iconst dX8_init_25 ?_
  refine nn_putI dX8_init_26 fl_X8_22 rfl rfl ?_
  refine nn_aload_n dX8_init_29 rfl rfl ?_
  refine nn_iconst dX8_init_30 ?_
  refine nn_putI dX8_init_31 fl_X8_25 rfl rfl ?_
  refine nn_aload_n dX8_init_34 rfl rfl ?_
  refine nn_sipush dX8_init_35 (by decide +kernel) ?_
  refine nn_newaB (ll' := zs_3) (N := 500) (n := 3) dX8_init_38 wk_11 rfl (by decide) rfl (by decide) (by decide +kernel) rfl rfl (GC.ok (by decide)) ⟨Nat.le_of_ble_eq_true rfl, Nat.le_of_ble_eq_true rfl⟩ (by decide +kernel) ?_
  refine nn_putRF (ll' := zs_4) (b := 2) dX8_init_40 fl_X8_28 rfl (by decide) (fun _ => ⟨rfl, rfl⟩) rfl (fun _ _ _ _ _ _ _ q => q) (by decide +kernel) ?_
  exact nn_vret dX8_init_43 rfl ⟨Nat.le_of_ble_eq_true rfl, Nat.le_of_ble_eq_true rfl⟩ rfl
def zs_5 : List (Nat × List Nat) := [(11, [3, 4, 2, 2, 2, 2, 2, 2, 2, 2, 2, 2, 0]), (10, [0, 0, 0, 0, 0, 0, 1, 1, 0]), (8, [0, 0, 0, 0, 0, 0, 5]), (102, [500])]
theorem wk_12 : Cond.classLink RX11 23 RX7 ∈ lw_g := in_g (List.mem_of_getElem? (i := 221) (by decide +kernel)) (by decide +kernel)
theorem wk_13 : Cond.instantiable RX7 11 ∈ lw_g := in_g (List.mem_of_getElem? (i := 222) (by decide +kernel)) (by decide +kernel)
theorem wk_14 : Cond.initialized RX7 ∈ lw_g := in_g (List.mem_of_getElem? (i := 108) (by decide +kernel)) (by decide +kernel)
set_option maxRecDepth 20000 in
theorem df_X7 : ∀ j, j < 11 → defaultValue (tyX7 j) = vp_V (([0, 0, 2, 2, 2, 2, 2, 2, 2, 2, 2] : List Nat).map dvN) j := by decide +kernel
def zs_6 : List (Nat × List Nat) := [(11, [3, 4, 2, 2, 2, 2, 2, 2, 2, 2, 2, 2, 0]), (10, [0, 0, 0, 0, 0, 0, 1, 1, 0]), (8, [0, 0, 0, 0, 0, 0, 5]), (102, [500]), (7, [0, 0, 2, 2, 2, 2, 2, 2, 2, 2, 2])]
def mX7_init : MI := (yX7_init, cX7_init, 1, none)
theorem mc_X7 : MCk mX7_init 0 := ⟨rfl, in_g (List.mem_of_getElem? (i := 224) (by decide +kernel)) (by decide +kernel), in_g (List.mem_of_getElem? (i := 108) (by decide +kernel)) (by decide +kernel), in_g (List.mem_of_getElem? (i := 225) (by decide +kernel)) (by decide +kernel), ⟨by decide, by decide, by decide +kernel⟩, by decide, rfl⟩
theorem wk_15 : Cond.methodLink RX7 1 Lib.objectInit ∈ lw_g := in_g (List.mem_of_getElem? (i := 226) (by decide +kernel)) (by decide +kernel)
def zs_7 : List (Nat × List Nat) := [(11, [3, 4, 2, 2, 2, 2, 2, 2, 2, 2, 2, 2, 0]), (10, [0, 0, 0, 0, 0, 0, 1, 1, 0]), (8, [0, 0, 0, 0, 0, 0, 5]), (102, [500]), (7, [0, 0, 2, 2, 2, 2, 2, 2, 2, 2, 2]), (100, [60])]
theorem wk_16 : Cond.arrayClass (newarray.typeOf .int) ∈ lw_g := in_g (List.mem_of_getElem? (i := 274) (by decide +kernel)) (by decide +kernel)
def zs_8 : List (Nat × List Nat) := [(11, [3, 4, 2, 2, 2, 2, 2, 2, 2, 2, 2, 2, 0]), (10, [0, 0, 0, 0, 0, 0, 1, 1, 0]), (8, [0, 0, 0, 0, 0, 0, 5]), (102, [500]), (7, [0, 0, 7, 2, 2, 2, 2, 2, 2, 2, 2]), (100, [60])]
def zs_9 : List (Nat × List Nat) := [(11, [3, 4, 2, 2, 2, 2, 2, 2, 2, 2, 2, 2, 0]), (10, [0, 0, 0, 0, 0, 0, 1, 1, 0]), (8, [0, 0, 0, 0, 0, 0, 5]), (102, [500]), (7, [0, 0, 7, 2, 2, 2, 2, 2, 2, 2, 2]), (100, [60]), (100, [60])]
def zs_10 : List (Nat × List Nat) := [(11, [3, 4, 2, 2, 2, 2, 2, 2, 2, 2, 2, 2, 0]), (10, [0, 0, 0, 0, 0, 0, 1, 1, 0]), (8, [0, 0, 0, 0, 0, 0, 5]), (102, [500]), (7, [0, 0, 7, 8, 2, 2, 2, 2, 2, 2, 2]), (100, [60]), (100, [60])]
def zs_11 : List (Nat × List Nat) := [(11, [3, 4, 2, 2, 2, 2, 2, 2, 2, 2, 2, 2, 0]), (10, [0, 0, 0, 0, 0, 0, 1, 1, 0]), (8, [0, 0, 0, 0, 0, 0, 5]), (102, [500]), (7, [0, 0, 7, 8, 2, 2, 2, 2, 2, 2, 2]), (100, [60]), (100, [60]), (100, [60])]
def zs_12 : List (Nat × List Nat) := [(11, [3, 4, 2, 2, 2, 2, 2, 2, 2, 2, 2, 2, 0]), (10, [0, 0, 0, 0, 0, 0, 1, 1, 0]), (8, [0, 0, 0, 0, 0, 0, 5]), (102, [500]), (7, [0, 0, 7, 8, 9, 2, 2, 2, 2, 2, 2]), (100, [60]), (100, [60]), (100, [60])]
def zs_13 : List (Nat × List Nat) := [(11, [3, 4, 2, 2, 2, 2, 2, 2, 2, 2, 2, 2, 0]), (10, [0, 0, 0, 0, 0, 0, 1, 1, 0]), (8, [0, 0, 0, 0, 0, 0, 5]), (102, [500]), (7, [0, 0, 7, 8, 9, 2, 2, 2, 2, 2, 2]), (100, [60]), (100, [60]), (100, [60]), (100, [300])]
def zs_14 : List (Nat × List Nat) := [(11, [3, 4, 2, 2, 2, 2, 2, 2, 2, 2, 2, 2, 0]), (10, [0, 0, 0, 0, 0, 0, 1, 1, 0]), (8, [0, 0, 0, 0, 0, 0, 5]), (102, [500]), (7, [0, 0, 7, 8, 9, 10, 2, 2, 2, 2, 2]), (100, [60]), (100, [60]), (100, [60]), (100, [300])]
def zs_15 : List (Nat × List Nat) := [(11, [3, 4, 2, 2, 2, 2, 2, 2, 2, 2, 2, 2, 0]), (10, [0, 0, 0, 0, 0, 0, 1, 1, 0]), (8, [0, 0, 0, 0, 0, 0, 5]), (102, [500]), (7, [0, 0, 7, 8, 9, 10, 2, 2, 2, 2, 2]), (100, [60]), (100, [60]), (100, [60]), (100, [300]), (100, [8])]
def zs_16 : List (Nat × List Nat) := [(11, [3, 4, 2, 2, 2, 2, 2, 2, 2, 2, 2, 2, 0]), (10, [0, 0, 0, 0, 0, 0, 1, 1, 0]), (8, [0, 0, 0, 0, 0, 0, 5]), (102, [500]), (7, [0, 0, 7, 8, 9, 10, 11, 2, 2, 2, 2]), (100, [60]), (100, [60]), (100, [60]), (100, [300]), (100, [8])]
def zs_17 : List (Nat × List Nat) := [(11, [3, 4, 2, 2, 2, 2, 2, 2, 2, 2, 2, 2, 0]), (10, [0, 0, 0, 0, 0, 0, 1, 1, 0]), (8, [0, 0, 0, 0, 0, 0, 5]), (102, [500]), (7, [0, 0, 7, 8, 9, 10, 11, 2, 2, 2, 2]), (100, [60]), (100, [60]), (100, [60]), (100, [300]), (100, [8]), (100, [8])]
def zs_18 : List (Nat × List Nat) := [(11, [3, 4, 2, 2, 2, 2, 2, 2, 2, 2, 2, 2, 0]), (10, [0, 0, 0, 0, 0, 0, 1, 1, 0]), (8, [0, 0, 0, 0, 0, 0, 5]), (102, [500]), (7, [0, 0, 7, 8, 9, 10, 11, 12, 2, 2, 2]), (100, [60]), (100, [60]), (100, [60]), (100, [300]), (100, [8]), (100, [8])]
def zs_19 : List (Nat × List Nat) := [(11, [3, 4, 2, 2, 2, 2, 2, 2, 2, 2, 2, 2, 0]), (10, [0, 0, 0, 0, 0, 0, 1, 1, 0]), (8, [0, 0, 0, 0, 0, 0, 5]), (102, [500]), (7, [0, 0, 7, 8, 9, 10, 11, 12, 2, 2, 2]), (100, [60]), (100, [60]), (100, [60]), (100, [300]), (100, [8]), (100, [8]), (100, [8])]
def zs_20 : List (Nat × List Nat) := [(11, [3, 4, 2, 2, 2, 2, 2, 2, 2, 2, 2, 2, 0]), (10, [0, 0, 0, 0, 0, 0, 1, 1, 0]), (8, [0, 0, 0, 0, 0, 0, 5]), (102, [500]), (7, [0, 0, 7, 8, 9, 10, 11, 12, 13, 2, 2]), (100, [60]), (100, [60]), (100, [60]), (100, [300]), (100, [8]), (100, [8]), (100, [8])]
def zs_21 : List (Nat × List Nat) := [(11, [3, 4, 2, 2, 2, 2, 2, 2, 2, 2, 2, 2, 0]), (10, [0, 0, 0, 0, 0, 0, 1, 1, 0]), (8, [0, 0, 0, 0, 0, 0, 5]), (102, [500]), (7, [0, 0, 7, 8, 9, 10, 11, 12, 13, 2, 2]), (100, [60]), (100, [60]), (100, [60]), (100, [300]), (100, [8]), (100, [8]), (100, [8]), (100, [96])]
def zs_22 : List (Nat × List Nat) := [(11, [3, 4, 2, 2, 2, 2, 2, 2, 2, 2, 2, 2, 0]), (10, [0, 0, 0, 0, 0, 0, 1, 1, 0]), (8, [0, 0, 0, 0, 0, 0, 5]), (102, [500]), (7, [0, 0, 7, 8, 9, 10, 11, 12, 13, 14, 2]), (100, [60]), (100, [60]), (100, [60]), (100, [300]), (100, [8]), (100, [8]), (100, [8]), (100, [96])]
def zs_23 : List (Nat × List Nat) := [(11, [3, 4, 2, 2, 2, 2, 2, 2, 2, 2, 2, 2, 0]), (10, [0, 0, 0, 0, 0, 0, 1, 1, 0]), (8, [0, 0, 0, 0, 0, 0, 5]), (102, [500]), (7, [0, 0, 7, 8, 9, 10, 11, 12, 13, 14, 2]), (100, [60]), (100, [60]), (100, [60]), (100, [300]), (100, [8]), (100, [8]), (100, [8]), (100, [96]), (100, [96])]
def zs_24 : List (Nat × List Nat) := [(11, [3, 4, 2, 2, 2, 2, 2, 2, 2, 2, 2, 2, 0]), (10, [0, 0, 0, 0, 0, 0, 1, 1, 0]), (8, [0, 0, 0, 0, 0, 0, 5]), (102, [500]), (7, [0, 0, 7, 8, 9, 10, 11, 12, 13, 14, 15]), (100, [60]), (100, [60]), (100, [60]), (100, [300]), (100, [8]), (100, [8]), (100, [8]), (100, [96]), (100, [96])]
def fX7_4 (h : Hp) : Hp := upH (upH h 4 0 (0)) 4 1 (0)
set_option maxRecDepth 20000 in
set_option maxHeartbeats 1000000 in
theorem cn_X7_4 {h : Hp} : CNt 1 9 696 mX7_init [.inr (.inr 4)] zs_6 h zs_24 (fun h' => h' = fX7_4 h) := by
  refine CNt.of (n0 := 5) (L := [some (.inr (.inr 4))]) (by decide +kernel) rfl (Nat.le_of_ble_eq_true rfl) rfl rfl ?_
  refine nn_aload_n dX7_init_0 rfl rfl ?_
  refine nn_obj dX7_init_1 wk_15 wk_1 wk_2 ⟨Nat.le_of_ble_eq_true rfl, Nat.le_of_ble_eq_true rfl⟩ ?_
  refine nn_aload_n dX7_init_4 rfl rfl ?_
  refine nn_iconst dX7_init_5 ?_
  refine nn_putI dX7_init_6 fl_X7_7 rfl rfl ?_
  refine nn_aload_n dX7_init_9 rfl rfl ?_
  refine nn_iconst dX7_init_10 ?_
  refine nn_putI dX7_init_11 fl_X7_13 rfl rfl ?_
  refine nn_aload_n dX7_init_14 rfl rfl ?_
  refine nn_bipush dX7_init_15 (by decide +kernel) ?_
  refine nn_newaI (ll' := zs_7) (N := 60) (n := 5) dX7_init_17 wk_16 rfl (by decide) rfl (by decide) (by decide +kernel) rfl rfl (GC.ok (by decide)) ⟨Nat.le_of_ble_eq_true rfl, Nat.le_of_ble_eq_true rfl⟩ (by decide +kernel) ?_
  refine nn_putRF (ll' := zs_8) (b := 4) dX7_init_19 fl_X7_16 rfl (by decide) (fun _ => ⟨rfl, rfl⟩) rfl (fun _ _ _ _ _ _ _ q => q) (by decide +kernel) ?_
  refine nn_aload_n dX7_init_22 rfl rfl ?_
  refine nn_bipush dX7_init_23 (by decide +kernel) ?_
  refine nn_newaI (ll' := zs_9) (N := 60) (n := 6) dX7_init_25 wk_16 rfl (by decide) rfl (by decide) (by decide +kernel) rfl rfl (GC.ok (by decide)) ⟨Nat.le_of_ble_eq_true rfl, Nat.le_of_ble_eq_true rfl⟩ (by decide +kernel) ?_
  refine nn_putRF (ll' := zs_10) (b := 5) dX7_init_27 fl_X7_20 rfl (by decide) (fun _ => ⟨rfl, rfl⟩) rfl (fun _ _ _ _ _ _ _ q => q) (by decide +kernel) ?_
  refine nn_aload_n dX7_init_30 rfl rfl ?_
  refine nn_bipush dX7_init_31 (by decide +kernel) ?_
  refine nn_newaI (ll' := zs_11) (N := 60) (n := 7) dX7_init_33 wk_16 rfl (by decide) rfl (by decide) (by decide +kernel) rfl rfl (GC.ok (by decide)) ⟨Nat.le_of_ble_eq_true rfl, Nat.le_of_ble_eq_true rfl⟩ (by decide +kernel) ?_
  refine nn_putRF (ll' := zs_12) (b := 6) dX7_init_35 fl_X7_23 rfl (by decide) (fun _ => ⟨rfl, rfl⟩) rfl (fun _ _ _ _ _ _ _ q => q) (by decide +kernel) ?_
  refine nn_aload_n dX7_init_38 rfl rfl ?_
  refine nn_sipush dX7_init_39 (by decide +kernel) ?_
  refine nn_newaI (ll' := zs_13) (N := 300) (n := 8) dX7_init_42 wk_16 rfl (by decide) rfl (by decide) (by decide +kernel) rfl rfl (GC.ok (by decide)) ⟨Nat.le_of_ble_eq_true rfl, Nat.le_of_ble_eq_true rfl⟩ (by decide +kernel) ?_
  refine nn_putRF (ll' := zs_14) (b := 7) dX7_init_44 fl_X7_26 rfl (by decide) (fun _ => ⟨rfl, rfl⟩) rfl (fun _ _ _ _ _ _ _ q => q) (by decide +kernel) ?_
  refine nn_aload_n dX7_init_47 rfl rfl ?_
  refine nn_bipush dX7_init_48 (by decide +kernel) ?_
  refine nn_newaI (ll' := zs_15) (N := 8) (n := 9) dX7_init_50 wk_16 rfl (by decide) rfl (by decide) (by decide +kernel) rfl rfl (GC.ok (by decide)) ⟨Nat.le_of_ble_eq_true rfl, Nat.le_of_ble_eq_true rfl⟩ (by decide +kernel) ?_
  refine nn_putRF (ll' := zs_16) (b := 8) dX7_init_52 fl_X7_29 rfl (by decide) (fun _ => ⟨rfl, rfl⟩) rfl (fun _ _ _ _ _ _ _ q => q) (by decide +kernel) ?_
  refine nn_aload_n dX7_init_55 rfl rfl ?_
  refine nn_bipush dX7_init_56 (by decide +kernel) ?_
  refine nn_newaI (ll' := zs_17) (N := 8) (n := 10) dX7_init_58 wk_16 rfl (by decide) rfl (by decide) (by decide +kernel) rfl rfl (GC.ok (by decide)) ⟨Nat.le_of_ble_eq_true rfl, Nat.le_of_ble_eq_true rfl⟩ (by decide +kernel) ?_
  refine nn_putRF (ll' := zs_18) (b := 9) dX7_init_60 fl_X7_32 rfl (by decide) (fun _ => ⟨rfl, rfl⟩) rfl (fun _ _ _ _ _ _ _ q => q) (by decide +kernel) ?_
  refine nn_aload_n dX7_init_63 rfl rfl ?_
  refine nn_bipush dX7_init_64 (by decide +kernel) ?_
  refine nn_newaI (ll' := zs_19) (N := 8) (n := 11) dX7_init_66 wk_16 rfl (by decide) rfl (by decide) (by decide +kernel) rfl rfl (GC.ok (by decide)) ⟨Nat.le_of_ble_eq_true rfl, Nat.le_of_ble_eq_true rfl⟩ (by decide +kernel) ?_
  refine nn_putRF (ll' := zs_20) (b := 10) dX7_init_68 fl_X7_35 rfl (by decide) (fun _ => ⟨rfl, rfl⟩) rfl (fun _ _ _ _ _ _ _ q => q) (by decide +kernel) ?_
  refine nn_aload_n dX7_init_71 rfl rfl ?_
  refine nn_bipush dX7_init_72 (by decide +kernel) ?_
  refine nn_newaI (ll' := zs_21) (N := 96) (n := 12) dX7_init_74 wk_16 rfl (by decide) rfl (by decide) (by decide +kernel) rfl rfl (GC.ok (by decide)) ⟨Nat.le_of_ble_eq_true rfl, Nat.le_of_ble_eq_true rfl⟩ (by decide +kernel) ?_
  refine nn_putRF (ll' := zs_22) (b := 11) dX7_init_76 fl_X7_38 rfl (by decide) (fun _ => ⟨rfl, rfl⟩) rfl (fun _ _ _ _ _ _ _ q => q) (by decide +kernel) ?_
  refine nn_aload_n dX7_init_79 rfl rfl ?_
  refine nn_bipush dX7_init_80 (by decide +kernel) ?_
  refine nn_newaI (ll' := zs_23) (N := 96) (n := 13) dX7_init_82 wk_16 rfl (by decide) rfl (by decide) (by decide +kernel) rfl rfl (GC.ok (by decide)) ⟨Nat.le_of_ble_eq_true rfl, Nat.le_of_ble_eq_true rfl⟩ (by decide +kernel) ?_
  refine nn_putRF (ll' := zs_24) (b := 12) dX7_init_84 fl_X7_41 rfl (by decide) (fun _ => ⟨rfl, rfl⟩) rfl (fun _ _ _ _ _ _ _ q => q) (by decide +kernel) ?_
  exact nn_vret dX7_init_87 rfl ⟨Nat.le_of_ble_eq_true rfl, Nat.le_of_ble_eq_true rfl⟩ rfl
def zs_25 : List (Nat × List Nat) := [(11, [3, 4, 6, 2, 2, 2, 2, 2, 2, 2, 2, 2, 0]), (10, [0, 0, 0, 0, 0, 0, 1, 1, 0]), (8, [0, 0, 0, 0, 0, 0, 5]), (102, [500]), (7, [0, 0, 7, 8, 9, 10, 11, 12, 13, 14, 15]), (100, [60]), (100, [60]), (100, [60]), (100, [300]), (100, [8]), (100, [8]), (100, [8]), (100, [96]), (100, [96])]
theorem wk_17 : Cond.classLink RX11 30 RX3 ∈ lw_g := in_g (List.mem_of_getElem? (i := 275) (by decide +kernel)) (by decide +kernel)
theorem wk_18 : Cond.instantiable RX3 6 ∈ lw_g := in_g (List.mem_of_getElem? (i := 276) (by decide +kernel)) (by decide +kernel)
theorem wk_19 : Cond.initialized RX3 ∈ lw_g := in_g (List.mem_of_getElem? (i := 109) (by decide +kernel)) (by decide +kernel)
set_option maxRecDepth 20000 in
theorem df_X3 : ∀ j, j < 6 → defaultValue (tyX3 j) = vp_V (([2, 2, 0, 0, 0, 2] : List Nat).map dvN) j := by decide +kernel
def zs_26 : List (Nat × List Nat) := [(11, [3, 4, 6, 2, 2, 2, 2, 2, 2, 2, 2, 2, 0]), (10, [0, 0, 0, 0, 0, 0, 1, 1, 0]), (8, [0, 0, 0, 0, 0, 0, 5]), (102, [500]), (7, [0, 0, 7, 8, 9, 10, 11, 12, 13, 14, 15]), (100, [60]), (100, [60]), (100, [60]), (100, [300]), (100, [8]), (100, [8]), (100, [8]), (100, [96]), (100, [96]), (3, [2, 2, 0, 0, 0, 2])]
theorem wk_20 : Cond.methodLink RX11 32 yX3_init ∈ lw_g := in_g (List.mem_of_getElem? (i := 277) (by decide +kernel)) (by decide +kernel)
def mX3_init : MI := (yX3_init, cX3_init, 3, none)
theorem mc_X3 : MCk mX3_init 2 := ⟨rfl, in_g (List.mem_of_getElem? (i := 278) (by decide +kernel)) (by decide +kernel), in_g (List.mem_of_getElem? (i := 109) (by decide +kernel)) (by decide +kernel), in_g (List.mem_of_getElem? (i := 279) (by decide +kernel)) (by decide +kernel), ⟨by decide, by decide, by decide +kernel⟩, by decide, rfl⟩
theorem wk_21 : Cond.methodLink RX3 3 Lib.objectInit ∈ lw_g := in_g (List.mem_of_getElem? (i := 280) (by decide +kernel)) (by decide +kernel)
def zs_27 : List (Nat × List Nat) := [(11, [3, 4, 6, 2, 2, 2, 2, 2, 2, 2, 2, 2, 0]), (10, [0, 0, 0, 0, 0, 0, 1, 1, 0]), (8, [0, 0, 0, 0, 0, 0, 5]), (102, [500]), (7, [0, 0, 7, 8, 9, 10, 11, 12, 13, 14, 15]), (100, [60]), (100, [60]), (100, [60]), (100, [300]), (100, [8]), (100, [8]), (100, [8]), (100, [96]), (100, [96]), (3, [2, 2, 0, 0, 0, 2]), (100, [5])]
def zs_28 : List (Nat × List Nat) := [(11, [3, 4, 6, 2, 2, 2, 2, 2, 2, 2, 2, 2, 0]), (10, [0, 0, 0, 0, 0, 0, 1, 1, 0]), (8, [0, 0, 0, 0, 0, 0, 5]), (102, [500]), (7, [0, 0, 7, 8, 9, 10, 11, 12, 13, 14, 15]), (100, [60]), (100, [60]), (100, [60]), (100, [300]), (100, [8]), (100, [8]), (100, [8]), (100, [96]), (100, [96]), (3, [2, 2, 0, 0, 0, 17]), (100, [5])]
def zs_29 : List (Nat × List Nat) := [(11, [3, 4, 6, 2, 2, 2, 2, 2, 2, 2, 2, 2, 0]), (10, [0, 0, 0, 0, 0, 0, 1, 1, 0]), (8, [0, 0, 0, 0, 0, 0, 5]), (102, [500]), (7, [0, 0, 7, 8, 9, 10, 11, 12, 13, 14, 15]), (100, [60]), (100, [60]), (100, [60]), (100, [300]), (100, [8]), (100, [8]), (100, [8]), (100, [96]), (100, [96]), (3, [4, 2, 0, 0, 0, 17]), (100, [5])]
def zs_30 : List (Nat × List Nat) := [(11, [3, 4, 6, 2, 2, 2, 2, 2, 2, 2, 2, 2, 0]), (10, [0, 0, 0, 0, 0, 0, 1, 1, 0]), (8, [0, 0, 0, 0, 0, 0, 5]), (102, [500]), (7, [0, 0, 7, 8, 9, 10, 11, 12, 13, 14, 15]), (100, [60]), (100, [60]), (100, [60]), (100, [300]), (100, [8]), (100, [8]), (100, [8]), (100, [96]), (100, [96]), (3, [4, 6, 0, 0, 0, 17]), (100, [5])]
def fX3_14 (h : Hp) : Hp := upH (upH (upH h 14 2 (0)) 14 3 (-1)) 14 4 (0)
set_option maxRecDepth 20000 in
set_option maxHeartbeats 1000000 in
theorem cn_X3_14 {h : Hp} : CNt 1 1 5 mX3_init [.inr (.inr 14), .inr (.inr 2), .inr (.inr 4)] zs_26 h zs_30 (fun h' => h' = fX3_14 h) := by
  refine CNt.of (n0 := 15) (L := [some (.inr (.inr 14)), some (.inr (.inr 2)), some (.inr (.inr 4))]) (by decide +kernel) rfl (Nat.le_of_ble_eq_true rfl) rfl rfl ?_
  refine nn_aload_n dX3_init_0 rfl rfl ?_
  refine nn_obj dX3_init_1 wk_21 wk_1 wk_2 ⟨Nat.le_of_ble_eq_true rfl, Nat.le_of_ble_eq_true rfl⟩ ?_
  refine nn_aload_n dX3_init_4 rfl rfl ?_
  refine nn_iconst dX3_init_5 ?_
  refine nn_putI dX3_init_6 fl_X3_9 rfl rfl ?_
  refine nn_aload_n dX3_init_9 rfl rfl ?_
  refine nn_iconst dX3_init_10 ?_
  refine nn_putI dX3_init_11 fl_X3_15 rfl rfl ?_
  refine nn_aload_n dX3_init_14 rfl rfl ?_
  refine nn_iconst dX3_init_15 ?_
  refine nn_putI dX3_init_16 fl_X3_18 rfl rfl ?_
  refine nn_aload_n dX3_init_19 rfl rfl ?_
  refine nn_iconst dX3_init_20 ?_
  refine nn_newaI (ll' := zs_27) (N := 5) (n := 15) dX3_init_21 wk_16 rfl (by decide) rfl (by decide) (by decide +kernel) rfl rfl (GC.ok (by decide)) ⟨Nat.le_of_ble_eq_true rfl, Nat.le_of_ble_eq_true rfl⟩ (by decide +kernel) ?_
  refine nn_putRF (ll' := zs_28) (b := 14) dX3_init_23 fl_X3_21 rfl (by decide) (fun _ => ⟨rfl, rfl⟩) rfl (fun _ _ _ _ _ _ _ q => q) (by decide +kernel) ?_
  refine nn_aload_n dX3_init_26 rfl rfl ?_
  refine nn_aload_n dX3_init_27 rfl rfl ?_
  refine nn_putRF (ll' := zs_29) (b := 1) dX3_init_28 fl_X3_25 rfl (by decide) (fun _ => ⟨rfl, rfl⟩) rfl (fun _ _ _ _ _ _ _ q => q) (by decide +kernel) ?_
  refine nn_aload_n dX3_init_31 rfl rfl ?_
  refine nn_aload_n dX3_init_32 rfl rfl ?_
  refine nn_putRF (ll' := zs_30) (b := 3) dX3_init_33 fl_X3_29 rfl (by decide) (fun _ => ⟨rfl, rfl⟩) rfl (fun _ _ _ _ _ _ _ q => q) (by decide +kernel) ?_
  exact nn_vret dX3_init_36 rfl ⟨Nat.le_of_ble_eq_true rfl, Nat.le_of_ble_eq_true rfl⟩ rfl
def zs_31 : List (Nat × List Nat) := [(11, [3, 4, 6, 16, 2, 2, 2, 2, 2, 2, 2, 2, 0]), (10, [0, 0, 0, 0, 0, 0, 1, 1, 0]), (8, [0, 0, 0, 0, 0, 0, 5]), (102, [500]), (7, [0, 0, 7, 8, 9, 10, 11, 12, 13, 14, 15]), (100, [60]), (100, [60]), (100, [60]), (100, [300]), (100, [8]), (100, [8]), (100, [8]), (100, [96]), (100, [96]), (3, [4, 6, 0, 0, 0, 17]), (100, [5])]
theorem wk_22 : Cond.classLink RX11 39 RX2 ∈ lw_g := in_g (List.mem_of_getElem? (i := 302) (by decide +kernel)) (by decide +kernel)
theorem wk_23 : Cond.instantiable RX2 8 ∈ lw_g := in_g (List.mem_of_getElem? (i := 303) (by decide +kernel)) (by decide +kernel)
theorem wk_24 : Cond.initialized RX2 ∈ lw_g := in_g (List.mem_of_getElem? (i := 110) (by decide +kernel)) (by decide +kernel)
set_option maxRecDepth 20000 in
theorem df_X2 : ∀ j, j < 8 → defaultValue (tyX2 j) = vp_V (([0, 2, 2, 2, 2, 2, 2, 2] : List Nat).map dvN) j := by decide +kernel
def zs_32 : List (Nat × List Nat) := [(11, [3, 4, 6, 16, 2, 2, 2, 2, 2, 2, 2, 2, 0]), (10, [0, 0, 0, 0, 0, 0, 1, 1, 0]), (8, [0, 0, 0, 0, 0, 0, 5]), (102, [500]), (7, [0, 0, 7, 8, 9, 10, 11, 12, 13, 14, 15]), (100, [60]), (100, [60]), (100, [60]), (100, [300]), (100, [8]), (100, [8]), (100, [8]), (100, [96]), (100, [96]), (3, [4, 6, 0, 0, 0, 17]), (100, [5]), (2, [0, 2, 2, 2, 2, 2, 2, 2])]
theorem wk_25 : Cond.methodLink RX11 41 yX2_init ∈ lw_g := in_g (List.mem_of_getElem? (i := 304) (by decide +kernel)) (by decide +kernel)
def mX2_init : MI := (yX2_init, cX2_init, 2, none)
theorem mc_X2 : MCk mX2_init 1 := ⟨rfl, in_g (List.mem_of_getElem? (i := 305) (by decide +kernel)) (by decide +kernel), in_g (List.mem_of_getElem? (i := 110) (by decide +kernel)) (by decide +kernel), in_g (List.mem_of_getElem? (i := 306) (by decide +kernel)) (by decide +kernel), ⟨by decide, by decide, by decide +kernel⟩, by decide, rfl⟩
theorem wk_26 : Cond.methodLink RX2 3 Lib.objectInit ∈ lw_g := in_g (List.mem_of_getElem? (i := 307) (by decide +kernel)) (by decide +kernel)
def zs_33 : List (Nat × List Nat) := [(11, [3, 4, 6, 16, 2, 2, 2, 2, 2, 2, 2, 2, 0]), (10, [0, 0, 0, 0, 0, 0, 1, 1, 0]), (8, [0, 0, 0, 0, 0, 0, 5]), (102, [500]), (7, [0, 0, 7, 8, 9, 10, 11, 12, 13, 14, 15]), (100, [60]), (100, [60]), (100, [60]), (100, [300]), (100, [8]), (100, [8]), (100, [8]), (100, [96]), (100, [96]), (3, [4, 6, 0, 0, 0, 17]), (100, [5]), (2, [0, 2, 2, 2, 2, 2, 2, 2]), (100, [151])]
def zs_34 : List (Nat × List Nat) := [(11, [3, 4, 6, 16, 2, 2, 2, 2, 2, 2, 2, 2, 0]), (10, [0, 0, 0, 0, 0, 0, 1, 1, 0]), (8, [0, 0, 0, 0, 0, 0, 5]), (102, [500]), (7, [0, 0, 7, 8, 9, 10, 11, 12, 13, 14, 15]), (100, [60]), (100, [60]), (100, [60]), (100, [300]), (100, [8]), (100, [8]), (100, [8]), (100, [96]), (100, [96]), (3, [4, 6, 0, 0, 0, 17]), (100, [5]), (2, [0, 19, 2, 2, 2, 2, 2, 2]), (100, [151])]
def zs_35 : List (Nat × List Nat) := [(11, [3, 4, 6, 16, 2, 2, 2, 2, 2, 2, 2, 2, 0]), (10, [0, 0, 0, 0, 0, 0, 1, 1, 0]), (8, [0, 0, 0, 0, 0, 0, 5]), (102, [500]), (7, [0, 0, 7, 8, 9, 10, 11, 12, 13, 14, 15]), (100, [60]), (100, [60]), (100, [60]), (100, [300]), (100, [8]), (100, [8]), (100, [8]), (100, [96]), (100, [96]), (3, [4, 6, 0, 0, 0, 17]), (100, [5]), (2, [0, 19, 2, 2, 2, 2, 2, 2]), (100, [151]), (100, [151])]
def zs_36 : List (Nat × List Nat) := [(11, [3, 4, 6, 16, 2, 2, 2, 2, 2, 2, 2, 2, 0]), (10, [0, 0, 0, 0, 0, 0, 1, 1, 0]), (8, [0, 0, 0, 0, 0, 0, 5]), (102, [500]), (7, [0, 0, 7, 8, 9, 10, 11, 12, 13, 14, 15]), (100, [60]), (100, [60]), (100, [60]), (100, [300]), (100, [8]), (100, [8]), (100, [8]), (100, [96]), (100, [96]), (3, [4, 6, 0, 0, 0, 17]), (100, [5]), (2, [0, 19, 20, 2, 2, 2, 2, 2]), (100, [151]), (100, [151])]
def zs_37 : List (Nat × List Nat) := [(11, [3, 4, 6, 16, 2, 2, 2, 2, 2, 2, 2, 2, 0]), (10, [0, 0, 0, 0, 0, 0, 1, 1, 0]), (8, [0, 0, 0, 0, 0, 0, 5]), (102, [500]), (7, [0, 0, 7, 8, 9, 10, 11, 12, 13, 14, 15]), (100, [60]), (100, [60]), (100, [60]), (100, [300]), (100, [8]), (100, [8]), (100, [8]), (100, [96]), (100, [96]), (3, [4, 6, 0, 0, 0, 17]), (100, [5]), (2, [0, 19, 20, 2, 2, 2, 2, 2]), (100, [151]), (100, [151]), (103, [151])]
theorem wk_27 : Cond.arrayClass (newarray.typeOf .boolean) ∈ lw_g := in_g (List.mem_of_getElem? (i := 355) (by decide +kernel)) (by decide +kernel)
def zs_38 : List (Nat × List Nat) := [(11, [3, 4, 6, 16, 2, 2, 2, 2, 2, 2, 2, 2, 0]), (10, [0, 0, 0, 0, 0, 0, 1, 1, 0]), (8, [0, 0, 0, 0, 0, 0, 5]), (102, [500]), (7, [0, 0, 7, 8, 9, 10, 11, 12, 13, 14, 15]), (100, [60]), (100, [60]), (100, [60]), (100, [300]), (100, [8]), (100, [8]), (100, [8]), (100, [96]), (100, [96]), (3, [4, 6, 0, 0, 0, 17]), (100, [5]), (2, [0, 19, 20, 21, 2, 2, 2, 2]), (100, [151]), (100, [151]), (103, [151])]
def zs_39 : List (Nat × List Nat) := [(11, [3, 4, 6, 16, 2, 2, 2, 2, 2, 2, 2, 2, 0]), (10, [0, 0, 0, 0, 0, 0, 1, 1, 0]), (8, [0, 0, 0, 0, 0, 0, 5]), (102, [500]), (7, [0, 0, 7, 8, 9, 10, 11, 12, 13, 14, 15]), (100, [60]), (100, [60]), (100, [60]), (100, [300]), (100, [8]), (100, [8]), (100, [8]), (100, [96]), (100, [96]), (3, [4, 6, 0, 0, 0, 17]), (100, [5]), (2, [0, 19, 20, 21, 2, 2, 2, 2]), (100, [151]), (100, [151]), (103, [151]), (100, [151])]
def zs_40 : List (Nat × List Nat) := [(11, [3, 4, 6, 16, 2, 2, 2, 2, 2, 2, 2, 2, 0]), (10, [0, 0, 0, 0, 0, 0, 1, 1, 0]), (8, [0, 0, 0, 0, 0, 0, 5]), (102, [500]), (7, [0, 0, 7, 8, 9, 10, 11, 12, 13, 14, 15]), (100, [60]), (100, [60]), (100, [60]), (100, [300]), (100, [8]), (100, [8]), (100, [8]), (100, [96]), (100, [96]), (3, [4, 6, 0, 0, 0, 17]), (100, [5]), (2, [0, 19, 20, 21, 22, 2, 2, 2]), (100, [151]), (100, [151]), (103, [151]), (100, [151])]
def zs_41 : List (Nat × List Nat) := [(11, [3, 4, 6, 16, 2, 2, 2, 2, 2, 2, 2, 2, 0]), (10, [0, 0, 0, 0, 0, 0, 1, 1, 0]), (8, [0, 0, 0, 0, 0, 0, 5]), (102, [500]), (7, [0, 0, 7, 8, 9, 10, 11, 12, 13, 14, 15]), (100, [60]), (100, [60]), (100, [60]), (100, [300]), (100, [8]), (100, [8]), (100, [8]), (100, [96]), (100, [96]), (3, [4, 6, 0, 0, 0, 17]), (100, [5]), (2, [0, 19, 20, 21, 22, 2, 2, 2]), (100, [151]), (100, [151]), (103, [151]), (100, [151]), (100, [151])]
def zs_42 : List (Nat × List Nat) := [(11, [3, 4, 6, 16, 2, 2, 2, 2, 2, 2, 2, 2, 0]), (10, [0, 0, 0, 0, 0, 0, 1, 1, 0]), (8, [0, 0, 0, 0, 0, 0, 5]), (102, [500]), (7, [0, 0, 7, 8, 9, 10, 11, 12, 13, 14, 15]), (100, [60]), (100, [60]), (100, [60]), (100, [300]), (100, [8]), (100, [8]), (100, [8]), (100, [96]), (100, [96]), (3, [4, 6, 0, 0, 0, 17]), (100, [5]), (2, [0, 19, 20, 21, 22, 23, 2, 2]), (100, [151]), (100, [151]), (103, [151]), (100, [151]), (100, [151])]
def zs_43 : List (Nat × List Nat) := [(11, [3, 4, 6, 16, 2, 2, 2, 2, 2, 2, 2, 2, 0]), (10, [0, 0, 0, 0, 0, 0, 1, 1, 0]), (8, [0, 0, 0, 0, 0, 0, 5]), (102, [500]), (7, [0, 0, 7, 8, 9, 10, 11, 12, 13, 14, 15]), (100, [60]), (100, [60]), (100, [60]), (100, [300]), (100, [8]), (100, [8]), (100, [8]), (100, [96]), (100, [96]), (3, [4, 6, 0, 0, 0, 17]), (100, [5]), (2, [0, 19, 20, 21, 22, 23, 2, 2]), (100, [151]), (100, [151]), (103, [151]), (100, [151]), (100, [151]), (100, [300])]
def zs_44 : List (Nat × List Nat) := [(11, [3, 4, 6, 16, 2, 2, 2, 2, 2, 2, 2, 2, 0]), (10, [0, 0, 0, 0, 0, 0, 1, 1, 0]), (8, [0, 0, 0, 0, 0, 0, 5]), (102, [500]), (7, [0, 0, 7, 8, 9, 10, 11, 12, 13, 14, 15]), (100, [60]), (100, [60]), (100, [60]), (100, [300]), (100, [8]), (100, [8]), (100, [8]), (100, [96]), (100, [96]), (3, [4, 6, 0, 0, 0, 17]), (100, [5]), (2, [0, 19, 20, 21, 22, 23, 24, 2]), (100, [151]), (100, [151]), (103, [151]), (100, [151]), (100, [151]), (100, [300])]
def zs_45 : List (Nat × List Nat) := [(11, [3, 4, 6, 16, 2, 2, 2, 2, 2, 2, 2, 2, 0]), (10, [0, 0, 0, 0, 0, 0, 1, 1, 0]), (8, [0, 0, 0, 0, 0, 0, 5]), (102, [500]), (7, [0, 0, 7, 8, 9, 10, 11, 12, 13, 14, 15]), (100, [60]), (100, [60]), (100, [60]), (100, [300]), (100, [8]), (100, [8]), (100, [8]), (100, [96]), (100, [96]), (3, [4, 6, 0, 0, 0, 17]), (100, [5]), (2, [0, 19, 20, 21, 22, 23, 24, 3]), (100, [151]), (100, [151]), (103, [151]), (100, [151]), (100, [151]), (100, [300])]
def fX2_16 (h : Hp) : Hp := upH h 16 0 (0)
set_option maxRecDepth 20000 in
set_option maxHeartbeats 1000000 in
theorem cn_X2_16 {h : Hp} : CNt 1 6 1055 mX2_init [.inr (.inr 16), .inr (.inr 1)] zs_32 h zs_45 (fun h' => h' = fX2_16 h) := by
  refine CNt.of (n0 := 17) (L := [some (.inr (.inr 16)), some (.inr (.inr 1))]) (by decide +kernel) rfl (Nat.le_of_ble_eq_true rfl) rfl rfl ?_
  refine nn_aload_n dX2_init_0 rfl rfl ?_
  refine nn_obj dX2_init_1 wk_26 wk_1 wk_2 ⟨Nat.le_of_ble_eq_true rfl, Nat.le_of_ble_eq_true rfl⟩ ?_
  refine nn_aload_n dX2_init_4 rfl rfl ?_
  refine nn_iconst dX2_init_5 ?_
  refine nn_putI dX2_init_6 fl_X2_9 rfl rfl ?_
  refine nn_aload_n dX2_init_9 rfl rfl ?_
  refine nn_sipush dX2_init_10 (by decide +kernel) ?_
  refine nn_newaI (ll' := zs_33) (N := 151) (n := 17) dX2_init_13 wk_16 rfl (by decide) rfl (by decide) (by decide +kernel) rfl rfl (GC.ok (by decide)) ⟨Nat.le_of_ble_eq_true rfl, Nat.le_of_ble_eq_true rfl⟩ (by decide +kernel) ?_
  refine nn_putRF (ll' := zs_34) (b := 16) dX2_init_15 fl_X2_15 rfl (by decide) (fun _ => ⟨rfl, rfl⟩) rfl (fun _ _ _ _ _ _ _ q => q) (by decide +kernel) ?_
  refine nn_aload_n dX2_init_18 rfl rfl ?_
  refine nn_sipush dX2_init_19 (by decide +kernel) ?_
  refine nn_newaI (ll' := zs_35) (N := 151) (n := 18) dX2_init_22 wk_16 rfl (by decide) rfl (by decide) (by decide +kernel) rfl rfl (GC.ok (by decide)) ⟨Nat.le_of_ble_eq_true rfl, Nat.le_of_ble_eq_true rfl⟩ (by decide +kernel) ?_
  refine nn_putRF (ll' := zs_36) (b := 17) dX2_init_24 fl_X2_19 rfl (by decide) (fun _ => ⟨rfl, rfl⟩) rfl (fun _ _ _ _ _ _ _ q => q) (by decide +kernel) ?_
  refine nn_aload_n dX2_init_27 rfl rfl ?_
  refine nn_sipush dX2_init_28 (by decide +kernel) ?_
  refine nn_newaZ (ll' := zs_37) (N := 151) (n := 19) dX2_init_31 wk_27 rfl (by decide) rfl (by decide) (by decide +kernel) rfl rfl (GC.ok (by decide)) ⟨Nat.le_of_ble_eq_true rfl, Nat.le_of_ble_eq_true rfl⟩ (by decide +kernel) ?_
  refine nn_putRF (ll' := zs_38) (b := 18) dX2_init_33 fl_X2_22 rfl (by decide) (fun _ => ⟨rfl, rfl⟩) rfl (fun _ _ _ _ _ _ _ q => q) (by decide +kernel) ?_
  refine nn_aload_n dX2_init_36 rfl rfl ?_
  refine nn_sipush dX2_init_37 (by decide +kernel) ?_
  refine nn_newaI (ll' := zs_39) (N := 151) (n := 20) dX2_init_40 wk_16 rfl (by decide) rfl (by decide) (by decide +kernel) rfl rfl (GC.ok (by decide)) ⟨Nat.le_of_ble_eq_true rfl, Nat.le_of_ble_eq_true rfl⟩ (by decide +kernel) ?_
  refine nn_putRF (ll' := zs_40) (b := 19) dX2_init_42 fl_X2_26 rfl (by decide) (fun _ => ⟨rfl, rfl⟩) rfl (fun _ _ _ _ _ _ _ q => q) (by decide +kernel) ?_
  refine nn_aload_n dX2_init_45 rfl rfl ?_
  refine nn_sipush dX2_init_46 (by decide +kernel) ?_
  refine nn_newaI (ll' := zs_41) (N := 151) (n := 21) dX2_init_49 wk_16 rfl (by decide) rfl (by decide) (by decide +kernel) rfl rfl (GC.ok (by decide)) ⟨Nat.le_of_ble_eq_true rfl, Nat.le_of_ble_eq_true rfl⟩ (by decide +kernel) ?_
  refine nn_putRF (ll' := zs_42) (b := 20) dX2_init_51 fl_X2_29 rfl (by decide) (fun _ => ⟨rfl, rfl⟩) rfl (fun _ _ _ _ _ _ _ q => q) (by decide +kernel) ?_
  refine nn_aload_n dX2_init_54 rfl rfl ?_
  refine nn_sipush dX2_init_55 (by decide +kernel) ?_
  refine nn_newaI (ll' := zs_43) (N := 300) (n := 22) dX2_init_58 wk_16 rfl (by decide) rfl (by decide) (by decide +kernel) rfl rfl (GC.ok (by decide)) ⟨Nat.le_of_ble_eq_true rfl, Nat.le_of_ble_eq_true rfl⟩ (by decide +kernel) ?_
  refine nn_putRF (ll' := zs_44) (b := 21) dX2_init_60 fl_X2_32 rfl (by decide) (fun _ => ⟨rfl, rfl⟩) rfl (fun _ _ _ _ _ _ _ q => q) (by decide +kernel) ?_
  refine nn_aload_n dX2_init_63 rfl rfl ?_
  refine nn_aload_n dX2_init_64 rfl rfl ?_
  refine nn_putRF (ll' := zs_45) (b := 0) dX2_init_65 fl_X2_35 rfl (by decide) (fun _ => ⟨rfl, rfl⟩) rfl (fun _ _ _ _ _ _ _ q => q) (by decide +kernel) ?_
  exact nn_vret dX2_init_68 rfl ⟨Nat.le_of_ble_eq_true rfl, Nat.le_of_ble_eq_true rfl⟩ rfl
def zs_46 : List (Nat × List Nat) := [(11, [3, 4, 6, 16, 18, 2, 2, 2, 2, 2, 2, 2, 0]), (10, [0, 0, 0, 0, 0, 0, 1, 1, 0]), (8, [0, 0, 0, 0, 0, 0, 5]), (102, [500]), (7, [0, 0, 7, 8, 9, 10, 11, 12, 13, 14, 15]), (100, [60]), (100, [60]), (100, [60]), (100, [300]), (100, [8]), (100, [8]), (100, [8]), (100, [96]), (100, [96]), (3, [4, 6, 0, 0, 0, 17]), (100, [5]), (2, [0, 19, 20, 21, 22, 23, 24, 3]), (100, [151]), (100, [151]), (103, [151]), (100, [151]), (100, [151]), (100, [300])]
def zs_47 : List (Nat × List Nat) := [(11, [3, 4, 6, 16, 18, 2, 2, 2, 2, 2, 2, 2, 0]), (10, [0, 0, 0, 0, 0, 0, 1, 1, 0]), (8, [0, 0, 0, 0, 0, 0, 5]), (102, [500]), (7, [0, 0, 7, 8, 9, 10, 11, 12, 13, 14, 15]), (100, [60]), (100, [60]), (100, [60]), (100, [300]), (100, [8]), (100, [8]), (100, [8]), (100, [96]), (100, [96]), (3, [4, 6, 0, 0, 0, 17]), (100, [5]), (2, [0, 19, 20, 21, 22, 23, 24, 3]), (100, [151]), (100, [151]), (103, [151]), (100, [151]), (100, [151]), (100, [300]), (2, [0, 2, 2, 2, 2, 2, 2, 2])]
def zs_48 : List (Nat × List Nat) := [(11, [3, 4, 6, 16, 18, 2, 2, 2, 2, 2, 2, 2, 0]), (10, [0, 0, 0, 0, 0, 0, 1, 1, 0]), (8, [0, 0, 0, 0, 0, 0, 5]), (102, [500]), (7, [0, 0, 7, 8, 9, 10, 11, 12, 13, 14, 15]), (100, [60]), (100, [60]), (100, [60]), (100, [300]), (100, [8]), (100, [8]), (100, [8]), (100, [96]), (100, [96]), (3, [4, 6, 0, 0, 0, 17]), (100, [5]), (2, [0, 19, 20, 21, 22, 23, 24, 3]), (100, [151]), (100, [151]), (103, [151]), (100, [151]), (100, [151]), (100, [300]), (2, [0, 2, 2, 2, 2, 2, 2, 2]), (100, [151])]
def zs_49 : List (Nat × List Nat) := [(11, [3, 4, 6, 16, 18, 2, 2, 2, 2, 2, 2, 2, 0]), (10, [0, 0, 0, 0, 0, 0, 1, 1, 0]), (8, [0, 0, 0, 0, 0, 0, 5]), (102, [500]), (7, [0, 0, 7, 8, 9, 10, 11, 12, 13, 14, 15]), (100, [60]), (100, [60]), (100, [60]), (100, [300]), (100, [8]), (100, [8]), (100, [8]), (100, [96]), (100, [96]), (3, [4, 6, 0, 0, 0, 17]), (100, [5]), (2, [0, 19, 20, 21, 22, 23, 24, 3]), (100, [151]), (100, [151]), (103, [151]), (100, [151]), (100, [151]), (100, [300]), (2, [0, 26, 2, 2, 2, 2, 2, 2]), (100, [151])]
def zs_50 : List (Nat × List Nat) := [(11, [3, 4, 6, 16, 18, 2, 2, 2, 2, 2, 2, 2, 0]), (10, [0, 0, 0, 0, 0, 0, 1, 1, 0]), (8, [0, 0, 0, 0, 0, 0, 5]), (102, [500]), (7, [0, 0, 7, 8, 9, 10, 11, 12, 13, 14, 15]), (100, [60]), (100, [60]), (100, [60]), (100, [300]), (100, [8]), (100, [8]), (100, [8]), (100, [96]), (100, [96]), (3, [4, 6, 0, 0, 0, 17]), (100, [5]), (2, [0, 19, 20, 21, 22, 23, 24, 3]), (100, [151]), (100, [151]), (103, [151]), (100, [151]), (100, [151]), (100, [300]), (2, [0, 26, 2, 2, 2, 2, 2, 2]), (100, [151]), (100, [151])]
def zs_51 : List (Nat × List Nat) := [(11, [3, 4, 6, 16, 18, 2, 2, 2, 2, 2, 2, 2, 0]), (10, [0, 0, 0, 0, 0, 0, 1, 1, 0]), (8, [0, 0, 0, 0, 0, 0, 5]), (102, [500]), (7, [0, 0, 7, 8, 9, 10, 11, 12, 13, 14, 15]), (100, [60]), (100, [60]), (100, [60]), (100, [300]), (100, [8]), (100, [8]), (100, [8]), (100, [96]), (100, [96]), (3, [4, 6, 0, 0, 0, 17]), (100, [5]), (2, [0, 19, 20, 21, 22, 23, 24, 3]), (100, [151]), (100, [151]), (103, [151]), (100, [151]), (100, [151]), (100, [300]), (2, [0, 26, 27, 2, 2, 2, 2, 2]), (100, [151]), (100, [151])]
def zs_52 : List (Nat × List Nat) := [(11, [3, 4, 6, 16, 18, 2, 2, 2, 2, 2, 2, 2, 0]), (10, [0, 0, 0, 0, 0, 0, 1, 1, 0]), (8, [0, 0, 0, 0, 0, 0, 5]), (102, [500]), (7, [0, 0, 7, 8, 9, 10, 11, 12, 13, 14, 15]), (100, [60]), (100, [60]), (100, [60]), (100, [300]), (100, [8]), (100, [8]), (100, [8]), (100, [96]), (100, [96]), (3, [4, 6, 0, 0, 0, 17]), (100, [5]), (2, [0, 19, 20, 21, 22, 23, 24, 3]), (100, [151]), (100, [151]), (103, [151]), (100, [151]), (100, [151]), (100, [300]), (2, [0, 26, 27, 2, 2, 2, 2, 2]), (100, [151]), (100, [151]), (103, [151])]
def zs_53 : List (Nat × List Nat) := [(11, [3, 4, 6, 16, 18, 2, 2, 2, 2, 2, 2, 2, 0]), (10, [0, 0, 0, 0, 0, 0, 1, 1, 0]), (8, [0, 0, 0, 0, 0, 0, 5]), (102, [500]), (7, [0, 0, 7, 8, 9, 10, 11, 12, 13, 14, 15]), (100, [60]), (100, [60]), (100, [60]), (100, [300]), (100, [8]), (100, [8]), (100, [8]), (100, [96]), (100, [96]), (3, [4, 6, 0, 0, 0, 17]), (100, [5]), (2, [0, 19, 20, 21, 22, 23, 24, 3]), (100, [151]), (100, [151]), (103, [151]), (100, [151]), (100, [151]), (100, [300]), (2, [0, 26, 27, 28, 2, 2, 2, 2]), (100, [151]), (100, [151]), (103, [151])]
def zs_54 : List (Nat × List Nat) := [(11, [3, 4, 6, 16, 18, 2, 2, 2, 2, 2, 2, 2, 0]), (10, [0, 0, 0, 0, 0, 0, 1, 1, 0]), (8, [0, 0, 0, 0, 0, 0, 5]), (102, [500]), (7, [0, 0, 7, 8, 9, 10, 11, 12, 13, 14, 15]), (100, [60]), (100, [60]), (100, [60]), (100, [300]), (100, [8]), (100, [8]), (100, [8]), (100, [96]), (100, [96]), (3, [4, 6, 0, 0, 0, 17]), (100, [5]), (2, [0, 19, 20, 21, 22, 23, 24, 3]), (100, [151]), (100, [151]), (103, [151]), (100, [151]), (100, [151]), (100, [300]), (2, [0, 26, 27, 28, 2, 2, 2, 2]), (100, [151]), (100, [151]), (103, [151]), (100, [151])]
def zs_55 : List (Nat × List Nat) := [(11, [3, 4, 6, 16, 18, 2, 2, 2, 2, 2, 2, 2, 0]), (10, [0, 0, 0, 0, 0, 0, 1, 1, 0]), (8, [0, 0, 0, 0, 0, 0, 5]), (102, [500]), (7, [0, 0, 7, 8, 9, 10, 11, 12, 13, 14, 15]), (100, [60]), (100, [60]), (100, [60]), (100, [300]), (100, [8]), (100, [8]), (100, [8]), (100, [96]), (100, [96]), (3, [4, 6, 0, 0, 0, 17]), (100, [5]), (2, [0, 19, 20, 21, 22, 23, 24, 3]), (100, [151]), (100, [151]), (103, [151]), (100, [151]), (100, [151]), (100, [300]), (2, [0, 26, 27, 28, 29, 2, 2, 2]), (100, [151]), (100, [151]), (103, [151]), (100, [151])]
def zs_56 : List (Nat × List Nat) := [(11, [3, 4, 6, 16, 18, 2, 2, 2, 2, 2, 2, 2, 0]), (10, [0, 0, 0, 0, 0, 0, 1, 1, 0]), (8, [0, 0, 0, 0, 0, 0, 5]), (102, [500]), (7, [0, 0, 7, 8, 9, 10, 11, 12, 13, 14, 15]), (100, [60]), (100, [60]), (100, [60]), (100, [300]), (100, [8]), (100, [8]), (100, [8]), (100, [96]), (100, [96]), (3, [4, 6, 0, 0, 0, 17]), (100, [5]), (2, [0, 19, 20, 21, 22, 23, 24, 3]), (100, [151]), (100, [151]), (103, [151]), (100, [151]), (100, [151]), (100, [300]), (2, [0, 26, 27, 28, 29, 2, 2, 2]), (100, [151]), (100, [151]), (103, [151]), (100, [151]), (100, [151])]
def zs_57 : List (Nat × List Nat) := [(11, [3, 4, 6, 16, 18, 2, 2, 2, 2, 2, 2, 2, 0]), (10, [0, 0, 0, 0, 0, 0, 1, 1, 0]), (8, [0, 0, 0, 0, 0, 0, 5]), (102, [500]), (7, [0, 0, 7, 8, 9, 10, 11, 12, 13, 14, 15]), (100, [60]), (100, [60]), (100, [60]), (100, [300]), (100, [8]), (100, [8]), (100, [8]), (100, [96]), (100, [96]), (3, [4, 6, 0, 0, 0, 17]), (100, [5]), (2, [0, 19, 20, 21, 22, 23, 24, 3]), (100, [151]), (100, [151]), (103, [151]), (100, [151]), (100, [151]), (100, [300]), (2, [0, 26, 27, 28, 29, 30, 2, 2]), (100, [151]), (100, [151]), (103, [151]), (100, [151]), (100, [151])]
def zs_58 : List (Nat × List Nat) := [(11, [3, 4, 6, 16, 18, 2, 2, 2, 2, 2, 2, 2, 0]), (10, [0, 0, 0, 0, 0, 0, 1, 1, 0]), (8, [0, 0, 0, 0, 0, 0, 5]), (102, [500]), (7, [0, 0, 7, 8, 9, 10, 11, 12, 13, 14, 15]), (100, [60]), (100, [60]), (100, [60]), (100, [300]), (100, [8]), (100, [8]), (100, [8]), (100, [96]), (100, [96]), (3, [4, 6, 0, 0, 0, 17]), (100, [5]), (2, [0, 19, 20, 21, 22, 23, 24, 3]), (100, [151]), (100, [151]), (103, [151]), (100, [151]), (100, [151]), (100, [300]), (2, [0, 26, 27, 28, 29, 30, 2, 2]), (100, [151]), (100, [151]), (103, [151]), (100, [151]), (100, [151]), (100, [300])]
def zs_59 : List (Nat × List Nat) := [(11, [3, 4, 6, 16, 18, 2, 2, 2, 2, 2, 2, 2, 0]), (10, [0, 0, 0, 0, 0, 0, 1, 1, 0]), (8, [0, 0, 0, 0, 0, 0, 5]), (102, [500]), (7, [0, 0, 7, 8, 9, 10, 11, 12, 13, 14, 15]), (100, [60]), (100, [60]), (100, [60]), (100, [300]), (100, [8]), (100, [8]), (100, [8]), (100, [96]), (100, [96]), (3, [4, 6, 0, 0, 0, 17]), (100, [5]), (2, [0, 19, 20, 21, 22, 23, 24, 3]), (100, [151]), (100, [151]), (103, [151]), (100, [151]), (100, [151]), (100, [300]), (2, [0, 26, 27, 28, 29, 30, 31, 2]), (100, [151]), (100, [151]), (103, [151]), (100, [151]), (100, [151]), (100, [300])]
def zs_60 : List (Nat × List Nat) := [(11, [3, 4, 6, 16, 18, 2, 2, 2, 2, 2, 2, 2, 0]), (10, [0, 0, 0, 0, 0, 0, 1, 1, 0]), (8, [0, 0, 0, 0, 0, 0, 5]), (102, [500]), (7, [0, 0, 7, 8, 9, 10, 11, 12, 13, 14, 15]), (100, [60]), (100, [60]), (100, [60]), (100, [300]), (100, [8]), (100, [8]), (100, [8]), (100, [96]), (100, [96]), (3, [4, 6, 0, 0, 0, 17]), (100, [5]), (2, [0, 19, 20, 21, 22, 23, 24, 3]), (100, [151]), (100, [151]), (103, [151]), (100, [151]), (100, [151]), (100, [300]), (2, [0, 26, 27, 28, 29, 30, 31, 3]), (100, [151]), (100, [151]), (103, [151]), (100, [151]), (100, [151]), (100, [300])]
def fX2_23 (h : Hp) : Hp := upH h 23 0 (0)
set_option maxRecDepth 20000 in
set_option maxHeartbeats 1000000 in
theorem cn_X2_23 {h : Hp} : CNt 1 6 1055 mX2_init [.inr (.inr 23), .inr (.inr 1)] zs_47 h zs_60 (fun h' => h' = fX2_23 h) := by
  refine CNt.of (n0 := 24) (L := [some (.inr (.inr 23)), some (.inr (.inr 1))]) (by decide +kernel) rfl (Nat.le_of_ble_eq_true rfl) rfl rfl ?_
  refine nn_aload_n dX2_init_0 rfl rfl ?_
  refine nn_obj dX2_init_1 wk_26 wk_1 wk_2 ⟨Nat.le_of_ble_eq_true rfl, Nat.le_of_ble_eq_true rfl⟩ ?_
  refine nn_aload_n dX2_init_4 rfl rfl ?_
  refine nn_iconst dX2_init_5 ?_
  refine nn_putI dX2_init_6 fl_X2_9 rfl rfl ?_
  refine nn_aload_n dX2_init_9 rfl rfl ?_
  refine nn_sipush dX2_init_10 (by decide +kernel) ?_
  refine nn_newaI (ll' := zs_48) (N := 151) (n := 24) dX2_init_13 wk_16 rfl (by decide) rfl (by decide) (by decide +kernel) rfl rfl (GC.ok (by decide)) ⟨Nat.le_of_ble_eq_true rfl, Nat.le_of_ble_eq_true rfl⟩ (by decide +kernel) ?_
  refine nn_putRF (ll' := zs_49) (b := 23) dX2_init_15 fl_X2_15 rfl (by decide) (fun _ => ⟨rfl, rfl⟩) rfl (fun _ _ _ _ _ _ _ q => q) (by decide +kernel) ?_
  refine nn_aload_n dX2_init_18 rfl rfl ?_
  refine nn_sipush dX2_init_19 (by decide +kernel) ?_
  refine nn_newaI (ll' := zs_50) (N := 151) (n := 25) dX2_init_22 wk_16 rfl (by decide) rfl (by decide) (by decide +kernel) rfl rfl (GC.ok (by decide)) ⟨Nat.le_of_ble_eq_true rfl, Nat.le_of_ble_eq_true rfl⟩ (by decide +kernel) ?_
  refine nn_putRF (ll' := zs_51) (b := 24) dX2_init_24 fl_X2_19 rfl (by decide) (fun _ => ⟨rfl, rfl⟩) rfl (fun _ _ _ _ _ _ _ q => q) (by decide +kernel) ?_
  refine nn_aload_n dX2_init_27 rfl rfl ?_
  refine nn_sipush dX2_init_28 (by decide +kernel) ?_
  refine nn_newaZ (ll' := zs_52) (N := 151) (n := 26) dX2_init_31 wk_27 rfl (by decide) rfl (by decide) (by decide +kernel) rfl rfl (GC.ok (by decide)) ⟨Nat.le_of_ble_eq_true rfl, Nat.le_of_ble_eq_true rfl⟩ (by decide +kernel) ?_
  refine nn_putRF (ll' := zs_53) (b := 25) dX2_init_33 fl_X2_22 rfl (by decide) (fun _ => ⟨rfl, rfl⟩) rfl (fun _ _ _ _ _ _ _ q => q) (by decide +kernel) ?_
  refine nn_aload_n dX2_init_36 rfl rfl ?_
  refine nn_sipush dX2_init_37 (by decide +kernel) ?_
  refine nn_newaI (ll' := zs_54) (N := 151) (n := 27) dX2_init_40 wk_16 rfl (by decide) rfl (by decide) (by decide +kernel) rfl rfl (GC.ok (by decide)) ⟨Nat.le_of_ble_eq_true rfl, Nat.le_of_ble_eq_true rfl⟩ (by decide +kernel) ?_
  refine nn_putRF (ll' := zs_55) (b := 26) dX2_init_42 fl_X2_26 rfl (by decide) (fun _ => ⟨rfl, rfl⟩) rfl (fun _ _ _ _ _ _ _ q => q) (by decide +kernel) ?_
  refine nn_aload_n dX2_init_45 rfl rfl ?_
  refine nn_sipush dX2_init_46 (by decide +kernel) ?_
  refine nn_newaI (ll' := zs_56) (N := 151) (n := 28) dX2_init_49 wk_16 rfl (by decide) rfl (by decide) (by decide +kernel) rfl rfl (GC.ok (by decide)) ⟨Nat.le_of_ble_eq_true rfl, Nat.le_of_ble_eq_true rfl⟩ (by decide +kernel) ?_
  refine nn_putRF (ll' := zs_57) (b := 27) dX2_init_51 fl_X2_29 rfl (by decide) (fun _ => ⟨rfl, rfl⟩) rfl (fun _ _ _ _ _ _ _ q => q) (by decide +kernel) ?_
  refine nn_aload_n dX2_init_54 rfl rfl ?_
  refine nn_sipush dX2_init_55 (by decide +kernel) ?_
  refine nn_newaI (ll' := zs_58) (N := 300) (n := 29) dX2_init_58 wk_16 rfl (by decide) rfl (by decide) (by decide +kernel) rfl rfl (GC.ok (by decide)) ⟨Nat.le_of_ble_eq_true rfl, Nat.le_of_ble_eq_true rfl⟩ (by decide +kernel) ?_
  refine nn_putRF (ll' := zs_59) (b := 28) dX2_init_60 fl_X2_32 rfl (by decide) (fun _ => ⟨rfl, rfl⟩) rfl (fun _ _ _ _ _ _ _ q => q) (by decide +kernel) ?_
  refine nn_aload_n dX2_init_63 rfl rfl ?_
  refine nn_aload_n dX2_init_64 rfl rfl ?_
  refine nn_putRF (ll' := zs_60) (b := 0) dX2_init_65 fl_X2_35 rfl (by decide) (fun _ => ⟨rfl, rfl⟩) rfl (fun _ _ _ _ _ _ _ q => q) (by decide +kernel) ?_
  exact nn_vret dX2_init_68 rfl ⟨Nat.le_of_ble_eq_true rfl, Nat.le_of_ble_eq_true rfl⟩ rfl
def zs_61 : List (Nat × List Nat) := [(11, [3, 4, 6, 16, 18, 25, 2, 2, 2, 2, 2, 2, 0]), (10, [0, 0, 0, 0, 0, 0, 1, 1, 0]), (8, [0, 0, 0, 0, 0, 0, 5]), (102, [500]), (7, [0, 0, 7, 8, 9, 10, 11, 12, 13, 14, 15]), (100, [60]), (100, [60]), (100, [60]), (100, [300]), (100, [8]), (100, [8]), (100, [8]), (100, [96]), (100, [96]), (3, [4, 6, 0, 0, 0, 17]), (100, [5]), (2, [0, 19, 20, 21, 22, 23, 24, 3]), (100, [151]), (100, [151]), (103, [151]), (100, [151]), (100, [151]), (100, [300]), (2, [0, 26, 27, 28, 29, 30, 31, 3]), (100, [151]), (100, [151]), (103, [151]), (100, [151]), (100, [151]), (100, [300])]
theorem wk_28 : Cond.classLink RX11 51 RX5 ∈ lw_g := in_g (List.mem_of_getElem? (i := 356) (by decide +kernel)) (by decide +kernel)
theorem wk_29 : Cond.instantiable RX5 12 ∈ lw_g := in_g (List.mem_of_getElem? (i := 357) (by decide +kernel)) (by decide +kernel)
theorem wk_30 : Cond.initialized RX5 ∈ lw_g := in_g (List.mem_of_getElem? (i := 111) (by decide +kernel)) (by decide +kernel)
set_option maxRecDepth 20000 in
theorem df_X5 : ∀ j, j < 12 → defaultValue (tyX5 j) = vp_V (([2, 2, 2, 0, 0, 0, 0, 0, 0, 0, 0, 2] : List Nat).map dvN) j := by decide +kernel
def zs_62 : List (Nat × List Nat) := [(11, [3, 4, 6, 16, 18, 25, 2, 2, 2, 2, 2, 2, 0]), (10, [0, 0, 0, 0, 0, 0, 1, 1, 0]), (8, [0, 0, 0, 0, 0, 0, 5]), (102, [500]), (7, [0, 0, 7, 8, 9, 10, 11, 12, 13, 14, 15]), (100, [60]), (100, [60]), (100, [60]), (100, [300]), (100, [8]), (100, [8]), (100, [8]), (100, [96]), (100, [96]), (3, [4, 6, 0, 0, 0, 17]), (100, [5]), (2, [0, 19, 20, 21, 22, 23, 24, 3]), (100, [151]), (100, [151]), (103, [151]), (100, [151]), (100, [151]), (100, [300]), (2, [0, 26, 27, 28, 29, 30, 31, 3]), (100, [151]), (100, [151]), (103, [151]), (100, [151]), (100, [151]), (100, [300]), (5, [2, 2, 2, 0, 0, 0, 0, 0, 0, 0, 0, 2])]
theorem wk_31 : Cond.methodLink RX11 53 yX5_init ∈ lw_g := in_g (List.mem_of_getElem? (i := 358) (by decide +kernel)) (by decide +kernel)
def mX5_init : MI := (yX5_init, cX5_init, 4, none)
theorem mc_X5 : MCk mX5_init 3 := ⟨rfl, in_g (List.mem_of_getElem? (i := 359) (by decide +kernel)) (by decide +kernel), in_g (List.mem_of_getElem? (i := 111) (by decide +kernel)) (by decide +kernel), in_g (List.mem_of_getElem? (i := 360) (by decide +kernel)) (by decide +kernel), ⟨by decide, by decide, by decide +kernel⟩, by decide, rfl⟩
theorem wk_32 : Cond.methodLink RX5 1 Lib.objectInit ∈ lw_g := in_g (List.mem_of_getElem? (i := 361) (by decide +kernel)) (by decide +kernel)
def zs_63 : List (Nat × List Nat) := [(11, [3, 4, 6, 16, 18, 25, 2, 2, 2, 2, 2, 2, 0]), (10, [0, 0, 0, 0, 0, 0, 1, 1, 0]), (8, [0, 0, 0, 0, 0, 0, 5]), (102, [500]), (7, [0, 0, 7, 8, 9, 10, 11, 12, 13, 14, 15]), (100, [60]), (100, [60]), (100, [60]), (100, [300]), (100, [8]), (100, [8]), (100, [8]), (100, [96]), (100, [96]), (3, [4, 6, 0, 0, 0, 17]), (100, [5]), (2, [0, 19, 20, 21, 22, 23, 24, 3]), (100, [151]), (100, [151]), (103, [151]), (100, [151]), (100, [151]), (100, [300]), (2, [0, 26, 27, 28, 29, 30, 31, 3]), (100, [151]), (100, [151]), (103, [151]), (100, [151]), (100, [151]), (100, [300]), (5, [2, 2, 2, 0, 0, 0, 0, 0, 0, 0, 0, 2]), (100, [4])]
def zs_64 : List (Nat × List Nat) := [(11, [3, 4, 6, 16, 18, 25, 2, 2, 2, 2, 2, 2, 0]), (10, [0, 0, 0, 0, 0, 0, 1, 1, 0]), (8, [0, 0, 0, 0, 0, 0, 5]), (102, [500]), (7, [0, 0, 7, 8, 9, 10, 11, 12, 13, 14, 15]), (100, [60]), (100, [60]), (100, [60]), (100, [300]), (100, [8]), (100, [8]), (100, [8]), (100, [96]), (100, [96]), (3, [4, 6, 0, 0, 0, 17]), (100, [5]), (2, [0, 19, 20, 21, 22, 23, 24, 3]), (100, [151]), (100, [151]), (103, [151]), (100, [151]), (100, [151]), (100, [300]), (2, [0, 26, 27, 28, 29, 30, 31, 3]), (100, [151]), (100, [151]), (103, [151]), (100, [151]), (100, [151]), (100, [300]), (5, [2, 2, 2, 0, 0, 0, 0, 0, 0, 0, 0, 33]), (100, [4])]
def zs_65 : List (Nat × List Nat) := [(11, [3, 4, 6, 16, 18, 25, 2, 2, 2, 2, 2, 2, 0]), (10, [0, 0, 0, 0, 0, 0, 1, 1, 0]), (8, [0, 0, 0, 0, 0, 0, 5]), (102, [500]), (7, [0, 0, 7, 8, 9, 10, 11, 12, 13, 14, 15]), (100, [60]), (100, [60]), (100, [60]), (100, [300]), (100, [8]), (100, [8]), (100, [8]), (100, [96]), (100, [96]), (3, [4, 6, 0, 0, 0, 17]), (100, [5]), (2, [0, 19, 20, 21, 22, 23, 24, 3]), (100, [151]), (100, [151]), (103, [151]), (100, [151]), (100, [151]), (100, [300]), (2, [0, 26, 27, 28, 29, 30, 31, 3]), (100, [151]), (100, [151]), (103, [151]), (100, [151]), (100, [151]), (100, [300]), (5, [3, 2, 2, 0, 0, 0, 0, 0, 0, 0, 0, 33]), (100, [4])]
def zs_66 : List (Nat × List Nat) := [(11, [3, 4, 6, 16, 18, 25, 2, 2, 2, 2, 2, 2, 0]), (10, [0, 0, 0, 0, 0, 0, 1, 1, 0]), (8, [0, 0, 0, 0, 0, 0, 5]), (102, [500]), (7, [0, 0, 7, 8, 9, 10, 11, 12, 13, 14, 15]), (100, [60]), (100, [60]), (100, [60]), (100, [300]), (100, [8]), (100, [8]), (100, [8]), (100, [96]), (100, [96]), (3, [4, 6, 0, 0, 0, 17]), (100, [5]), (2, [0, 19, 20, 21, 22, 23, 24, 3]), (100, [151]), (100, [151]), (103, [151]), (100, [151]), (100, [151]), (100, [300]), (2, [0, 26, 27, 28, 29, 30, 31, 3]), (100, [151]), (100, [151]), (103, [151]), (100, [151]), (100, [151]), (100, [300]), (5, [3, 6, 2, 0, 0, 0, 0, 0, 0, 0, 0, 33]), (100, [4])]
def zs_67 : List (Nat × List Nat) := [(11, [3, 4, 6, 16, 18, 25, 2, 2, 2, 2, 2, 2, 0]), (10, [0, 0, 0, 0, 0, 0, 1, 1, 0]), (8, [0, 0, 0, 0, 0, 0, 5]), (102, [500]), (7, [0, 0, 7, 8, 9, 10, 11, 12, 13, 14, 15]), (100, [60]), (100, [60]), (100, [60]), (100, [300]), (100, [8]), (100, [8]), (100, [8]), (100, [96]), (100, [96]), (3, [4, 6, 0, 0, 0, 17]), (100, [5]), (2, [0, 19, 20, 21, 22, 23, 24, 3]), (100, [151]), (100, [151]), (103, [151]), (100, [151]), (100, [151]), (100, [300]), (2, [0, 26, 27, 28, 29, 30, 31, 3]), (100, [151]), (100, [151]), (103, [151]), (100, [151]), (100, [151]), (100, [300]), (5, [3, 6, 18, 0, 0, 0, 0, 0, 0, 0, 0, 33]), (100, [4])]
def fX5_30 (h : Hp) : Hp := upH (upH (upH (upH (upH (upH (upH (upH h 30 3 (0)) 30 4 (0)) 30 5 (0)) 30 6 (0)) 30 7 (0)) 30 8 (0)) 30 9 (0)) 30 10 (0)
set_option maxRecDepth 20000 in
set_option maxHeartbeats 1000000 in
theorem cn_X5_30 {h : Hp} : CNt 1 1 4 mX5_init [.inr (.inr 30), .inr (.inr 1), .inr (.inr 4), .inr (.inr 16)] zs_62 h zs_67 (fun h' => h' = fX5_30 h) := by
  refine CNt.of (n0 := 31) (L := [some (.inr (.inr 30)), some (.inr (.inr 1)), some (.inr (.inr 4)), some (.inr (.inr 16))]) (by decide +kernel) rfl (Nat.le_of_ble_eq_true rfl) rfl rfl ?_
  refine nn_aload_n dX5_init_0 rfl rfl ?_
  refine nn_obj dX5_init_1 wk_32 wk_1 wk_2 ⟨Nat.le_of_ble_eq_true rfl, Nat.le_of_ble_eq_true rfl⟩ ?_
  refine nn_aload_n dX5_init_4 rfl rfl ?_
  refine nn_iconst dX5_init_5 ?_
  refine nn_putI dX5_init_6 fl_X5_7 rfl rfl ?_
  refine nn_aload_n dX5_init_9 rfl rfl ?_
  refine nn_iconst dX5_init_10 ?_
  refine nn_putI dX5_init_11 fl_X5_13 rfl rfl ?_
  refine nn_aload_n dX5_init_14 rfl rfl ?_
  refine nn_iconst dX5_init_15 ?_
  refine nn_putI dX5_init_16 fl_X5_16 rfl rfl ?_
  refine nn_aload_n dX5_init_19 rfl rfl ?_
  refine nn_iconst dX5_init_20 ?_
  refine nn_putI dX5_init_21 fl_X5_19 rfl rfl ?_
  refine nn_aload_n dX5_init_24 rfl rfl ?_
  refine nn_iconst dX5_init_25 ?_
  refine nn_putI dX5_init_26 fl_X5_22 rfl rfl ?_
  refine nn_aload_n dX5_init_29 rfl rfl ?_
  refine nn_iconst dX5_init_30 ?_
  refine nn_putI dX5_init_31 fl_X5_25 rfl rfl ?_
  refine nn_aload_n dX5_init_34 rfl rfl ?_
  refine nn_iconst dX5_init_35 ?_
  refine nn_putI dX5_init_36 fl_X5_28 rfl rfl ?_
  refine nn_aload_n dX5_init_39 rfl rfl ?_
  refine nn_iconst dX5_init_40 ?_
  refine nn_putZ dX5_init_41 fl_X5_31 rfl rfl (by decide) ?_
  refine nn_aload_n dX5_init_44 rfl rfl ?_
  refine nn_iconst dX5_init_45 ?_
  refine nn_newaI (ll' := zs_63) (N := 4) (n := 31) dX5_init_46 wk_16 rfl (by decide) rfl (by decide) (by decide +kernel) rfl rfl (GC.ok (by decide)) ⟨Nat.le_of_ble_eq_true rfl, Nat.le_of_ble_eq_true rfl⟩ (by decide +kernel) ?_
  refine nn_putRF (ll' := zs_64) (b := 30) dX5_init_48 fl_X5_35 rfl (by decide) (fun _ => ⟨rfl, rfl⟩) rfl (fun _ _ _ _ _ _ _ q => q) (by decide +kernel) ?_
  refine nn_aload_n dX5_init_51 rfl rfl ?_
  refine nn_aload_n dX5_init_52 rfl rfl ?_
  refine nn_putRF (ll' := zs_65) (b := 0) dX5_init_53 fl_X5_39 rfl (by decide) (fun _ => ⟨rfl, rfl⟩) rfl (fun _ _ _ _ _ _ _ q => q) (by decide +kernel) ?_
  refine nn_aload_n dX5_init_56 rfl rfl ?_
  refine nn_aload_n dX5_init_57 rfl rfl ?_
  refine nn_putRF (ll' := zs_66) (b := 3) dX5_init_58 fl_X5_43 rfl (by decide) (fun _ => ⟨rfl, rfl⟩) rfl (fun _ _ _ _ _ _ _ q => q) (by decide +kernel) ?_
  refine nn_aload_n dX5_init_61 rfl rfl ?_
  refine nn_aload_n dX5_init_62 rfl rfl ?_
  refine nn_putRF (ll' := zs_67) (b := 15) dX5_init_63 fl_X5_47 rfl (by decide) (fun _ => ⟨rfl, rfl⟩) rfl (fun _ _ _ _ _ _ _ q => q) (by decide +kernel) ?_
  exact nn_vret dX5_init_66 rfl ⟨Nat.le_of_ble_eq_true rfl, Nat.le_of_ble_eq_true rfl⟩ rfl
def zs_68 : List (Nat × List Nat) := [(11, [3, 4, 6, 16, 18, 25, 32, 2, 2, 2, 2, 2, 0]), (10, [0, 0, 0, 0, 0, 0, 1, 1, 0]), (8, [0, 0, 0, 0, 0, 0, 5]), (102, [500]), (7, [0, 0, 7, 8, 9, 10, 11, 12, 13, 14, 15]), (100, [60]), (100, [60]), (100, [60]), (100, [300]), (100, [8]), (100, [8]), (100, [8]), (100, [96]), (100, [96]), (3, [4, 6, 0, 0, 0, 17]), (100, [5]), (2, [0, 19, 20, 21, 22, 23, 24, 3]), (100, [151]), (100, [151]), (103, [151]), (100, [151]), (100, [151]), (100, [300]), (2, [0, 26, 27, 28, 29, 30, 31, 3]), (100, [151]), (100, [151]), (103, [151]), (100, [151]), (100, [151]), (100, [300]), (5, [3, 6, 18, 0, 0, 0, 0, 0, 0, 0, 0, 33]), (100, [4])]
theorem wk_33 : Cond.classLink RX11 60 RX9 ∈ lw_g := in_g (List.mem_of_getElem? (i := 399) (by decide +kernel)) (by decide +kernel)
theorem wk_34 : Cond.instantiable RX9 7 ∈ lw_g := in_g (List.mem_of_getElem? (i := 400) (by decide +kernel)) (by decide +kernel)
theorem wk_35 : Cond.initialized RX9 ∈ lw_g := in_g (List.mem_of_getElem? (i := 112) (by decide +kernel)) (by decide +kernel)
set_option maxRecDepth 20000 in
theorem df_X9 : ∀ j, j < 7 → defaultValue (tyX9 j) = vp_V (([2, 2, 1, 1, 1, 1, 1] : List Nat).map dvN) j := by decide +kernel
def zs_69 : List (Nat × List Nat) := [(11, [3, 4, 6, 16, 18, 25, 32, 2, 2, 2, 2, 2, 0]), (10, [0, 0, 0, 0, 0, 0, 1, 1, 0]), (8, [0, 0, 0, 0, 0, 0, 5]), (102, [500]), (7, [0, 0, 7, 8, 9, 10, 11, 12, 13, 14, 15]), (100, [60]), (100, [60]), (100, [60]), (100, [300]), (100, [8]), (100, [8]), (100, [8]), (100, [96]), (100, [96]), (3, [4, 6, 0, 0, 0, 17]), (100, [5]), (2, [0, 19, 20, 21, 22, 23, 24, 3]), (100, [151]), (100, [151]), (103, [151]), (100, [151]), (100, [151]), (100, [300]), (2, [0, 26, 27, 28, 29, 30, 31, 3]), (100, [151]), (100, [151]), (103, [151]), (100, [151]), (100, [151]), (100, [300]), (5, [3, 6, 18, 0, 0, 0, 0, 0, 0, 0, 0, 33]), (100, [4]), (9, [2, 2, 1, 1, 1, 1, 1])]
theorem wk_36 : Cond.methodLink RX11 62 yX9_init ∈ lw_g := in_g (List.mem_of_getElem? (i := 401) (by decide +kernel)) (by decide +kernel)
def mX9_init : MI := (yX9_init, cX9_init, 3, none)
theorem mc_X9 : MCk mX9_init 2 := ⟨rfl, in_g (List.mem_of_getElem? (i := 402) (by decide +kernel)) (by decide +kernel), in_g (List.mem_of_getElem? (i := 112) (by decide +kernel)) (by decide +kernel), in_g (List.mem_of_getElem? (i := 403) (by decide +kernel)) (by decide +kernel), ⟨by decide, by decide, by decide +kernel⟩, by decide, rfl⟩
theorem wk_37 : Cond.methodLink RX9 3 Lib.objectInit ∈ lw_g := in_g (List.mem_of_getElem? (i := 404) (by decide +kernel)) (by decide +kernel)
def zs_70 : List (Nat × List Nat) := [(11, [3, 4, 6, 16, 18, 25, 32, 2, 2, 2, 2, 2, 0]), (10, [0, 0, 0, 0, 0, 0, 1, 1, 0]), (8, [0, 0, 0, 0, 0, 0, 5]), (102, [500]), (7, [0, 0, 7, 8, 9, 10, 11, 12, 13, 14, 15]), (100, [60]), (100, [60]), (100, [60]), (100, [300]), (100, [8]), (100, [8]), (100, [8]), (100, [96]), (100, [96]), (3, [4, 6, 0, 0, 0, 17]), (100, [5]), (2, [0, 19, 20, 21, 22, 23, 24, 3]), (100, [151]), (100, [151]), (103, [151]), (100, [151]), (100, [151]), (100, [300]), (2, [0, 26, 27, 28, 29, 30, 31, 3]), (100, [151]), (100, [151]), (103, [151]), (100, [151]), (100, [151]), (100, [300]), (5, [3, 6, 18, 0, 0, 0, 0, 0, 0, 0, 0, 33]), (100, [4]), (9, [3, 2, 1, 1, 1, 1, 1])]
def zs_71 : List (Nat × List Nat) := [(11, [3, 4, 6, 16, 18, 25, 32, 2, 2, 2, 2, 2, 0]), (10, [0, 0, 0, 0, 0, 0, 1, 1, 0]), (8, [0, 0, 0, 0, 0, 0, 5]), (102, [500]), (7, [0, 0, 7, 8, 9, 10, 11, 12, 13, 14, 15]), (100, [60]), (100, [60]), (100, [60]), (100, [300]), (100, [8]), (100, [8]), (100, [8]), (100, [96]), (100, [96]), (3, [4, 6, 0, 0, 0, 17]), (100, [5]), (2, [0, 19, 20, 21, 22, 23, 24, 3]), (100, [151]), (100, [151]), (103, [151]), (100, [151]), (100, [151]), (100, [300]), (2, [0, 26, 27, 28, 29, 30, 31, 3]), (100, [151]), (100, [151]), (103, [151]), (100, [151]), (100, [151]), (100, [300]), (5, [3, 6, 18, 0, 0, 0, 0, 0, 0, 0, 0, 33]), (100, [4]), (9, [3, 18, 1, 1, 1, 1, 1])]
def fX9_32 (h : Hp) : Hp := upH (upH (upH (upH (upH h 32 2 (0)) 32 3 (0)) 32 4 (0)) 32 5 (0)) 32 6 (1)
set_option maxRecDepth 20000 in
set_option maxHeartbeats 1000000 in
theorem cn_X9_32 {h : Hp} : CNt 1 0 0 mX9_init [.inr (.inr 32), .inr (.inr 1), .inr (.inr 16)] zs_69 h zs_71 (fun h' => h' = fX9_32 h) := by
  refine CNt.of (n0 := 33) (L := [some (.inr (.inr 32)), some (.inr (.inr 1)), some (.inr (.inr 16))]) (by decide +kernel) rfl (Nat.le_of_ble_eq_true rfl) rfl rfl ?_
  refine nn_aload_n dX9_init_0 rfl rfl ?_
  refine nn_obj dX9_init_1 wk_37 wk_1 wk_2 ⟨Nat.le_of_ble_eq_true rfl, Nat.le_of_ble_eq_true rfl⟩ ?_
  refine nn_aload_n dX9_init_4 rfl rfl ?_
  refine nn_lconst (z := 0) dX9_init_5 (by decide) ?_
  refine nn_putJ dX9_init_6 fl_X9_9 rfl rfl ?_
  refine nn_aload_n dX9_init_9 rfl rfl ?_
  refine nn_lconst (z := 0) dX9_init_10 (by decide) ?_
  refine nn_putJ dX9_init_11 fl_X9_15 rfl rfl ?_
  refine nn_aload_n dX9_init_14 rfl rfl ?_
  refine nn_lconst (z := 0) dX9_init_15 (by decide) ?_
  refine nn_putJ dX9_init_16 fl_X9_18 rfl rfl ?_
  refine nn_aload_n dX9_init_19 rfl rfl ?_
  refine nn_lconst (z := 0) dX9_init_20 (by decide) ?_
  refine nn_putJ dX9_init_21 fl_X9_21 rfl rfl ?_
  refine nn_aload_n dX9_init_24 rfl rfl ?_
  refine nn_lconst (z := 1) dX9_init_25 (by decide) ?_
  refine nn_putJ dX9_init_26 fl_X9_24 rfl rfl ?_
  refine nn_aload_n dX9_init_29 rfl rfl ?_
  refine nn_aload_n dX9_init_30 rfl rfl ?_
  refine nn_putRF (ll' := zs_70) (b := 0) dX9_init_31 fl_X9_27 rfl (by decide) (fun _ => ⟨rfl, rfl⟩) rfl (fun _ _ _ _ _ _ _ q => q) (by decide +kernel) ?_
  refine nn_aload_n dX9_init_34 rfl rfl ?_
  refine nn_aload_n dX9_init_35 rfl rfl ?_
  refine nn_putRF (ll' := zs_71) (b := 15) dX9_init_36 fl_X9_31 rfl (by decide) (fun _ => ⟨rfl, rfl⟩) rfl (fun _ _ _ _ _ _ _ q => q) (by decide +kernel) ?_
  exact nn_vret dX9_init_39 rfl ⟨Nat.le_of_ble_eq_true rfl, Nat.le_of_ble_eq_true rfl⟩ rfl
def zs_72 : List (Nat × List Nat) := [(11, [3, 4, 6, 16, 18, 25, 32, 34, 2, 2, 2, 2, 0]), (10, [0, 0, 0, 0, 0, 0, 1, 1, 0]), (8, [0, 0, 0, 0, 0, 0, 5]), (102, [500]), (7, [0, 0, 7, 8, 9, 10, 11, 12, 13, 14, 15]), (100, [60]), (100, [60]), (100, [60]), (100, [300]), (100, [8]), (100, [8]), (100, [8]), (100, [96]), (100, [96]), (3, [4, 6, 0, 0, 0, 17]), (100, [5]), (2, [0, 19, 20, 21, 22, 23, 24, 3]), (100, [151]), (100, [151]), (103, [151]), (100, [151]), (100, [151]), (100, [300]), (2, [0, 26, 27, 28, 29, 30, 31, 3]), (100, [151]), (100, [151]), (103, [151]), (100, [151]), (100, [151]), (100, [300]), (5, [3, 6, 18, 0, 0, 0, 0, 0, 0, 0, 0, 33]), (100, [4]), (9, [3, 18, 1, 1, 1, 1, 1])]
theorem wk_38 : Cond.classLink RX11 69 RX0 ∈ lw_g := in_g (List.mem_of_getElem? (i := 427) (by decide +kernel)) (by decide +kernel)
theorem wk_39 : Cond.instantiable RX0 11 ∈ lw_g := in_g (List.mem_of_getElem? (i := 428) (by decide +kernel)) (by decide +kernel)
theorem wk_40 : Cond.initialized RX0 ∈ lw_g := in_g (List.mem_of_getElem? (i := 113) (by decide +kernel)) (by decide +kernel)
set_option maxRecDepth 20000 in
theorem df_X0 : ∀ j, j < 11 → defaultValue (tyX0 j) = vp_V (([0, 0, 2, 2, 2, 2, 2, 2, 2, 2, 2] : List Nat).map dvN) j := by decide +kernel
def zs_73 : List (Nat × List Nat) := [(11, [3, 4, 6, 16, 18, 25, 32, 34, 2, 2, 2, 2, 0]), (10, [0, 0, 0, 0, 0, 0, 1, 1, 0]), (8, [0, 0, 0, 0, 0, 0, 5]), (102, [500]), (7, [0, 0, 7, 8, 9, 10, 11, 12, 13, 14, 15]), (100, [60]), (100, [60]), (100, [60]), (100, [300]), (100, [8]), (100, [8]), (100, [8]), (100, [96]), (100, [96]), (3, [4, 6, 0, 0, 0, 17]), (100, [5]), (2, [0, 19, 20, 21, 22, 23, 24, 3]), (100, [151]), (100, [151]), (103, [151]), (100, [151]), (100, [151]), (100, [300]), (2, [0, 26, 27, 28, 29, 30, 31, 3]), (100, [151]), (100, [151]), (103, [151]), (100, [151]), (100, [151]), (100, [300]), (5, [3, 6, 18, 0, 0, 0, 0, 0, 0, 0, 0, 33]), (100, [4]), (9, [3, 18, 1, 1, 1, 1, 1]), (0, [0, 0, 2, 2, 2, 2, 2, 2, 2, 2, 2])]
theorem wk_41 : Cond.methodLink RX11 71 yX0_init ∈ lw_g := in_g (List.mem_of_getElem? (i := 429) (by decide +kernel)) (by decide +kernel)
def mX0_init : MI := (yX0_init, cX0_init, 3, none)
theorem mc_X0 : MCk mX0_init 2 := ⟨rfl, in_g (List.mem_of_getElem? (i := 430) (by decide +kernel)) (by decide +kernel), in_g (List.mem_of_getElem? (i := 113) (by decide +kernel)) (by decide +kernel), in_g (List.mem_of_getElem? (i := 431) (by decide +kernel)) (by decide +kernel), ⟨by decide, by decide, by decide +kernel⟩, by decide, rfl⟩
theorem wk_42 : Cond.methodLink RX0 5 Lib.objectInit ∈ lw_g := in_g (List.mem_of_getElem? (i := 432) (by decide +kernel)) (by decide +kernel)
def zs_74 : List (Nat × List Nat) := [(11, [3, 4, 6, 16, 18, 25, 32, 34, 2, 2, 2, 2, 0]), (10, [0, 0, 0, 0, 0, 0, 1, 1, 0]), (8, [0, 0, 0, 0, 0, 0, 5]), (102, [500]), (7, [0, 0, 7, 8, 9, 10, 11, 12, 13, 14, 15]), (100, [60]), (100, [60]), (100, [60]), (100, [300]), (100, [8]), (100, [8]), (100, [8]), (100, [96]), (100, [96]), (3, [4, 6, 0, 0, 0, 17]), (100, [5]), (2, [0, 19, 20, 21, 22, 23, 24, 3]), (100, [151]), (100, [151]), (103, [151]), (100, [151]), (100, [151]), (100, [300]), (2, [0, 26, 27, 28, 29, 30, 31, 3]), (100, [151]), (100, [151]), (103, [151]), (100, [151]), (100, [151]), (100, [300]), (5, [3, 6, 18, 0, 0, 0, 0, 0, 0, 0, 0, 33]), (100, [4]), (9, [3, 18, 1, 1, 1, 1, 1]), (0, [0, 0, 2, 2, 2, 2, 2, 2, 2, 2, 2]), (100, [12])]
def zs_75 : List (Nat × List Nat) := [(11, [3, 4, 6, 16, 18, 25, 32, 34, 2, 2, 2, 2, 0]), (10, [0, 0, 0, 0, 0, 0, 1, 1, 0]), (8, [0, 0, 0, 0, 0, 0, 5]), (102, [500]), (7, [0, 0, 7, 8, 9, 10, 11, 12, 13, 14, 15]), (100, [60]), (100, [60]), (100, [60]), (100, [300]), (100, [8]), (100, [8]), (100, [8]), (100, [96]), (100, [96]), (3, [4, 6, 0, 0, 0, 17]), (100, [5]), (2, [0, 19, 20, 21, 22, 23, 24, 3]), (100, [151]), (100, [151]), (103, [151]), (100, [151]), (100, [151]), (100, [300]), (2, [0, 26, 27, 28, 29, 30, 31, 3]), (100, [151]), (100, [151]), (103, [151]), (100, [151]), (100, [151]), (100, [300]), (5, [3, 6, 18, 0, 0, 0, 0, 0, 0, 0, 0, 33]), (100, [4]), (9, [3, 18, 1, 1, 1, 1, 1]), (0, [0, 0, 36, 2, 2, 2, 2, 2, 2, 2, 2]), (100, [12])]
def zs_76 : List (Nat × List Nat) := [(11, [3, 4, 6, 16, 18, 25, 32, 34, 2, 2, 2, 2, 0]), (10, [0, 0, 0, 0, 0, 0, 1, 1, 0]), (8, [0, 0, 0, 0, 0, 0, 5]), (102, [500]), (7, [0, 0, 7, 8, 9, 10, 11, 12, 13, 14, 15]), (100, [60]), (100, [60]), (100, [60]), (100, [300]), (100, [8]), (100, [8]), (100, [8]), (100, [96]), (100, [96]), (3, [4, 6, 0, 0, 0, 17]), (100, [5]), (2, [0, 19, 20, 21, 22, 23, 24, 3]), (100, [151]), (100, [151]), (103, [151]), (100, [151]), (100, [151]), (100, [300]), (2, [0, 26, 27, 28, 29, 30, 31, 3]), (100, [151]), (100, [151]), (103, [151]), (100, [151]), (100, [151]), (100, [300]), (5, [3, 6, 18, 0, 0, 0, 0, 0, 0, 0, 0, 33]), (100, [4]), (9, [3, 18, 1, 1, 1, 1, 1]), (0, [0, 0, 36, 2, 2, 2, 2, 2, 2, 2, 2]), (100, [12]), (100, [12])]
def zs_77 : List (Nat × List Nat) := [(11, [3, 4, 6, 16, 18, 25, 32, 34, 2, 2, 2, 2, 0]), (10, [0, 0, 0, 0, 0, 0, 1, 1, 0]), (8, [0, 0, 0, 0, 0, 0, 5]), (102, [500]), (7, [0, 0, 7, 8, 9, 10, 11, 12, 13, 14, 15]), (100, [60]), (100, [60]), (100, [60]), (100, [300]), (100, [8]), (100, [8]), (100, [8]), (100, [96]), (100, [96]), (3, [4, 6, 0, 0, 0, 17]), (100, [5]), (2, [0, 19, 20, 21, 22, 23, 24, 3]), (100, [151]), (100, [151]), (103, [151]), (100, [151]), (100, [151]), (100, [300]), (2, [0, 26, 27, 28, 29, 30, 31, 3]), (100, [151]), (100, [151]), (103, [151]), (100, [151]), (100, [151]), (100, [300]), (5, [3, 6, 18, 0, 0, 0, 0, 0, 0, 0, 0, 33]), (100, [4]), (9, [3, 18, 1, 1, 1, 1, 1]), (0, [0, 0, 36, 37, 2, 2, 2, 2, 2, 2, 2]), (100, [12]), (100, [12])]
def zs_78 : List (Nat × List Nat) := [(11, [3, 4, 6, 16, 18, 25, 32, 34, 2, 2, 2, 2, 0]), (10, [0, 0, 0, 0, 0, 0, 1, 1, 0]), (8, [0, 0, 0, 0, 0, 0, 5]), (102, [500]), (7, [0, 0, 7, 8, 9, 10, 11, 12, 13, 14, 15]), (100, [60]), (100, [60]), (100, [60]), (100, [300]), (100, [8]), (100, [8]), (100, [8]), (100, [96]), (100, [96]), (3, [4, 6, 0, 0, 0, 17]), (100, [5]), (2, [0, 19, 20, 21, 22, 23, 24, 3]), (100, [151]), (100, [151]), (103, [151]), (100, [151]), (100, [151]), (100, [300]), (2, [0, 26, 27, 28, 29, 30, 31, 3]), (100, [151]), (100, [151]), (103, [151]), (100, [151]), (100, [151]), (100, [300]), (5, [3, 6, 18, 0, 0, 0, 0, 0, 0, 0, 0, 33]), (100, [4]), (9, [3, 18, 1, 1, 1, 1, 1]), (0, [0, 0, 36, 37, 2, 2, 2, 2, 2, 2, 2]), (100, [12]), (100, [12]), (100, [12])]
def zs_79 : List (Nat × List Nat) := [(11, [3, 4, 6, 16, 18, 25, 32, 34, 2, 2, 2, 2, 0]), (10, [0, 0, 0, 0, 0, 0, 1, 1, 0]), (8, [0, 0, 0, 0, 0, 0, 5]), (102, [500]), (7, [0, 0, 7, 8, 9, 10, 11, 12, 13, 14, 15]), (100, [60]), (100, [60]), (100, [60]), (100, [300]), (100, [8]), (100, [8]), (100, [8]), (100, [96]), (100, [96]), (3, [4, 6, 0, 0, 0, 17]), (100, [5]), (2, [0, 19, 20, 21, 22, 23, 24, 3]), (100, [151]), (100, [151]), (103, [151]), (100, [151]), (100, [151]), (100, [300]), (2, [0, 26, 27, 28, 29, 30, 31, 3]), (100, [151]), (100, [151]), (103, [151]), (100, [151]), (100, [151]), (100, [300]), (5, [3, 6, 18, 0, 0, 0, 0, 0, 0, 0, 0, 33]), (100, [4]), (9, [3, 18, 1, 1, 1, 1, 1]), (0, [0, 0, 36, 37, 38, 2, 2, 2, 2, 2, 2]), (100, [12]), (100, [12]), (100, [12])]
def zs_80 : List (Nat × List Nat) := [(11, [3, 4, 6, 16, 18, 25, 32, 34, 2, 2, 2, 2, 0]), (10, [0, 0, 0, 0, 0, 0, 1, 1, 0]), (8, [0, 0, 0, 0, 0, 0, 5]), (102, [500]), (7, [0, 0, 7, 8, 9, 10, 11, 12, 13, 14, 15]), (100, [60]), (100, [60]), (100, [60]), (100, [300]), (100, [8]), (100, [8]), (100, [8]), (100, [96]), (100, [96]), (3, [4, 6, 0, 0, 0, 17]), (100, [5]), (2, [0, 19, 20, 21, 22, 23, 24, 3]), (100, [151]), (100, [151]), (103, [151]), (100, [151]), (100, [151]), (100, [300]), (2, [0, 26, 27, 28, 29, 30, 31, 3]), (100, [151]), (100, [151]), (103, [151]), (100, [151]), (100, [151]), (100, [300]), (5, [3, 6, 18, 0, 0, 0, 0, 0, 0, 0, 0, 33]), (100, [4]), (9, [3, 18, 1, 1, 1, 1, 1]), (0, [0, 0, 36, 37, 38, 2, 2, 2, 2, 2, 2]), (100, [12]), (100, [12]), (100, [12]), (100, [12])]
def zs_81 : List (Nat × List Nat) := [(11, [3, 4, 6, 16, 18, 25, 32, 34, 2, 2, 2, 2, 0]), (10, [0, 0, 0, 0, 0, 0, 1, 1, 0]), (8, [0, 0, 0, 0, 0, 0, 5]), (102, [500]), (7, [0, 0, 7, 8, 9, 10, 11, 12, 13, 14, 15]), (100, [60]), (100, [60]), (100, [60]), (100, [300]), (100, [8]), (100, [8]), (100, [8]), (100, [96]), (100, [96]), (3, [4, 6, 0, 0, 0, 17]), (100, [5]), (2, [0, 19, 20, 21, 22, 23, 24, 3]), (100, [151]), (100, [151]), (103, [151]), (100, [151]), (100, [151]), (100, [300]), (2, [0, 26, 27, 28, 29, 30, 31, 3]), (100, [151]), (100, [151]), (103, [151]), (100, [151]), (100, [151]), (100, [300]), (5, [3, 6, 18, 0, 0, 0, 0, 0, 0, 0, 0, 33]), (100, [4]), (9, [3, 18, 1, 1, 1, 1, 1]), (0, [0, 0, 36, 37, 38, 39, 2, 2, 2, 2, 2]), (100, [12]), (100, [12]), (100, [12]), (100, [12])]
def zs_82 : List (Nat × List Nat) := [(11, [3, 4, 6, 16, 18, 25, 32, 34, 2, 2, 2, 2, 0]), (10, [0, 0, 0, 0, 0, 0, 1, 1, 0]), (8, [0, 0, 0, 0, 0, 0, 5]), (102, [500]), (7, [0, 0, 7, 8, 9, 10, 11, 12, 13, 14, 15]), (100, [60]), (100, [60]), (100, [60]), (100, [300]), (100, [8]), (100, [8]), (100, [8]), (100, [96]), (100, [96]), (3, [4, 6, 0, 0, 0, 17]), (100, [5]), (2, [0, 19, 20, 21, 22, 23, 24, 3]), (100, [151]), (100, [151]), (103, [151]), (100, [151]), (100, [151]), (100, [300]), (2, [0, 26, 27, 28, 29, 30, 31, 3]), (100, [151]), (100, [151]), (103, [151]), (100, [151]), (100, [151]), (100, [300]), (5, [3, 6, 18, 0, 0, 0, 0, 0, 0, 0, 0, 33]), (100, [4]), (9, [3, 18, 1, 1, 1, 1, 1]), (0, [0, 0, 36, 37, 38, 39, 2, 2, 2, 2, 2]), (100, [12]), (100, [12]), (100, [12]), (100, [12]), (100, [12])]
def zs_83 : List (Nat × List Nat) := [(11, [3, 4, 6, 16, 18, 25, 32, 34, 2, 2, 2, 2, 0]), (10, [0, 0, 0, 0, 0, 0, 1, 1, 0]), (8, [0, 0, 0, 0, 0, 0, 5]), (102, [500]), (7, [0, 0, 7, 8, 9, 10, 11, 12, 13, 14, 15]), (100, [60]), (100, [60]), (100, [60]), (100, [300]), (100, [8]), (100, [8]), (100, [8]), (100, [96]), (100, [96]), (3, [4, 6, 0, 0, 0, 17]), (100, [5]), (2, [0, 19, 20, 21, 22, 23, 24, 3]), (100, [151]), (100, [151]), (103, [151]), (100, [151]), (100, [151]), (100, [300]), (2, [0, 26, 27, 28, 29, 30, 31, 3]), (100, [151]), (100, [151]), (103, [151]), (100, [151]), (100, [151]), (100, [300]), (5, [3, 6, 18, 0, 0, 0, 0, 0, 0, 0, 0, 33]), (100, [4]), (9, [3, 18, 1, 1, 1, 1, 1]), (0, [0, 0, 36, 37, 38, 39, 40, 2, 2, 2, 2]), (100, [12]), (100, [12]), (100, [12]), (100, [12]), (100, [12])]
def zs_84 : List (Nat × List Nat) := [(11, [3, 4, 6, 16, 18, 25, 32, 34, 2, 2, 2, 2, 0]), (10, [0, 0, 0, 0, 0, 0, 1, 1, 0]), (8, [0, 0, 0, 0, 0, 0, 5]), (102, [500]), (7, [0, 0, 7, 8, 9, 10, 11, 12, 13, 14, 15]), (100, [60]), (100, [60]), (100, [60]), (100, [300]), (100, [8]), (100, [8]), (100, [8]), (100, [96]), (100, [96]), (3, [4, 6, 0, 0, 0, 17]), (100, [5]), (2, [0, 19, 20, 21, 22, 23, 24, 3]), (100, [151]), (100, [151]), (103, [151]), (100, [151]), (100, [151]), (100, [300]), (2, [0, 26, 27, 28, 29, 30, 31, 3]), (100, [151]), (100, [151]), (103, [151]), (100, [151]), (100, [151]), (100, [300]), (5, [3, 6, 18, 0, 0, 0, 0, 0, 0, 0, 0, 33]), (100, [4]), (9, [3, 18, 1, 1, 1, 1, 1]), (0, [0, 0, 36, 37, 38, 39, 40, 2, 2, 2, 2]), (100, [12]), (100, [12]), (100, [12]), (100, [12]), (100, [12]), (100, [2028])]
def zs_85 : List (Nat × List Nat) := [(11, [3, 4, 6, 16, 18, 25, 32, 34, 2, 2, 2, 2, 0]), (10, [0, 0, 0, 0, 0, 0, 1, 1, 0]), (8, [0, 0, 0, 0, 0, 0, 5]), (102, [500]), (7, [0, 0, 7, 8, 9, 10, 11, 12, 13, 14, 15]), (100, [60]), (100, [60]), (100, [60]), (100, [300]), (100, [8]), (100, [8]), (100, [8]), (100, [96]), (100, [96]), (3, [4, 6, 0, 0, 0, 17]), (100, [5]), (2, [0, 19, 20, 21, 22, 23, 24, 3]), (100, [151]), (100, [151]), (103, [151]), (100, [151]), (100, [151]), (100, [300]), (2, [0, 26, 27, 28, 29, 30, 31, 3]), (100, [151]), (100, [151]), (103, [151]), (100, [151]), (100, [151]), (100, [300]), (5, [3, 6, 18, 0, 0, 0, 0, 0, 0, 0, 0, 33]), (100, [4]), (9, [3, 18, 1, 1, 1, 1, 1]), (0, [0, 0, 36, 37, 38, 39, 40, 41, 2, 2, 2]), (100, [12]), (100, [12]), (100, [12]), (100, [12]), (100, [12]), (100, [2028])]
def zs_86 : List (Nat × List Nat) := [(11, [3, 4, 6, 16, 18, 25, 32, 34, 2, 2, 2, 2, 0]), (10, [0, 0, 0, 0, 0, 0, 1, 1, 0]), (8, [0, 0, 0, 0, 0, 0, 5]), (102, [500]), (7, [0, 0, 7, 8, 9, 10, 11, 12, 13, 14, 15]), (100, [60]), (100, [60]), (100, [60]), (100, [300]), (100, [8]), (100, [8]), (100, [8]), (100, [96]), (100, [96]), (3, [4, 6, 0, 0, 0, 17]), (100, [5]), (2, [0, 19, 20, 21, 22, 23, 24, 3]), (100, [151]), (100, [151]), (103, [151]), (100, [151]), (100, [151]), (100, [300]), (2, [0, 26, 27, 28, 29, 30, 31, 3]), (100, [151]), (100, [151]), (103, [151]), (100, [151]), (100, [151]), (100, [300]), (5, [3, 6, 18, 0, 0, 0, 0, 0, 0, 0, 0, 33]), (100, [4]), (9, [3, 18, 1, 1, 1, 1, 1]), (0, [0, 0, 36, 37, 38, 39, 40, 41, 2, 2, 2]), (100, [12]), (100, [12]), (100, [12]), (100, [12]), (100, [12]), (100, [2028]), (100, [169])]
def zs_87 : List (Nat × List Nat) := [(11, [3, 4, 6, 16, 18, 25, 32, 34, 2, 2, 2, 2, 0]), (10, [0, 0, 0, 0, 0, 0, 1, 1, 0]), (8, [0, 0, 0, 0, 0, 0, 5]), (102, [500]), (7, [0, 0, 7, 8, 9, 10, 11, 12, 13, 14, 15]), (100, [60]), (100, [60]), (100, [60]), (100, [300]), (100, [8]), (100, [8]), (100, [8]), (100, [96]), (100, [96]), (3, [4, 6, 0, 0, 0, 17]), (100, [5]), (2, [0, 19, 20, 21, 22, 23, 24, 3]), (100, [151]), (100, [151]), (103, [151]), (100, [151]), (100, [151]), (100, [300]), (2, [0, 26, 27, 28, 29, 30, 31, 3]), (100, [151]), (100, [151]), (103, [151]), (100, [151]), (100, [151]), (100, [300]), (5, [3, 6, 18, 0, 0, 0, 0, 0, 0, 0, 0, 33]), (100, [4]), (9, [3, 18, 1, 1, 1, 1, 1]), (0, [0, 0, 36, 37, 38, 39, 40, 41, 42, 2, 2]), (100, [12]), (100, [12]), (100, [12]), (100, [12]), (100, [12]), (100, [2028]), (100, [169])]
def zs_88 : List (Nat × List Nat) := [(11, [3, 4, 6, 16, 18, 25, 32, 34, 2, 2, 2, 2, 0]), (10, [0, 0, 0, 0, 0, 0, 1, 1, 0]), (8, [0, 0, 0, 0, 0, 0, 5]), (102, [500]), (7, [0, 0, 7, 8, 9, 10, 11, 12, 13, 14, 15]), (100, [60]), (100, [60]), (100, [60]), (100, [300]), (100, [8]), (100, [8]), (100, [8]), (100, [96]), (100, [96]), (3, [4, 6, 0, 0, 0, 17]), (100, [5]), (2, [0, 19, 20, 21, 22, 23, 24, 3]), (100, [151]), (100, [151]), (103, [151]), (100, [151]), (100, [151]), (100, [300]), (2, [0, 26, 27, 28, 29, 30, 31, 3]), (100, [151]), (100, [151]), (103, [151]), (100, [151]), (100, [151]), (100, [300]), (5, [3, 6, 18, 0, 0, 0, 0, 0, 0, 0, 0, 33]), (100, [4]), (9, [3, 18, 1, 1, 1, 1, 1]), (0, [0, 0, 36, 37, 38, 39, 40, 41, 42, 3, 2]), (100, [12]), (100, [12]), (100, [12]), (100, [12]), (100, [12]), (100, [2028]), (100, [169])]
def zs_89 : List (Nat × List Nat) := [(11, [3, 4, 6, 16, 18, 25, 32, 34, 2, 2, 2, 2, 0]), (10, [0, 0, 0, 0, 0, 0, 1, 1, 0]), (8, [0, 0, 0, 0, 0, 0, 5]), (102, [500]), (7, [0, 0, 7, 8, 9, 10, 11, 12, 13, 14, 15]), (100, [60]), (100, [60]), (100, [60]), (100, [300]), (100, [8]), (100, [8]), (100, [8]), (100, [96]), (100, [96]), (3, [4, 6, 0, 0, 0, 17]), (100, [5]), (2, [0, 19, 20, 21, 22, 23, 24, 3]), (100, [151]), (100, [151]), (103, [151]), (100, [151]), (100, [151]), (100, [300]), (2, [0, 26, 27, 28, 29, 30, 31, 3]), (100, [151]), (100, [151]), (103, [151]), (100, [151]), (100, [151]), (100, [300]), (5, [3, 6, 18, 0, 0, 0, 0, 0, 0, 0, 0, 33]), (100, [4]), (9, [3, 18, 1, 1, 1, 1, 1]), (0, [0, 0, 36, 37, 38, 39, 40, 41, 42, 3, 18]), (100, [12]), (100, [12]), (100, [12]), (100, [12]), (100, [12]), (100, [2028]), (100, [169])]
def fX0_33 (h : Hp) : Hp := upH (upH h 33 0 (0)) 33 1 (0)
set_option maxRecDepth 20000 in
set_option maxHeartbeats 1000000 in
theorem cn_X0_33 {h : Hp} : CNt 1 7 2257 mX0_init [.inr (.inr 33), .inr (.inr 1), .inr (.inr 16)] zs_73 h zs_89 (fun h' => h' = fX0_33 h) := by
  refine CNt.of (n0 := 34) (L := [some (.inr (.inr 33)), some (.inr (.inr 1)), some (.inr (.inr 16))]) (by decide +kernel) rfl (Nat.le_of_ble_eq_true rfl) rfl rfl ?_
  refine nn_aload_n dX0_init_0 rfl rfl ?_
  refine nn_obj dX0_init_1 wk_42 wk_1 wk_2 ⟨Nat.le_of_ble_eq_true rfl, Nat.le_of_ble_eq_true rfl⟩ ?_
  refine nn_aload_n dX0_init_4 rfl rfl ?_
  refine nn_iconst dX0_init_5 ?_
  refine nn_putI dX0_init_6 fl_X0_11 rfl rfl ?_
  refine nn_aload_n dX0_init_9 rfl rfl ?_
  refine nn_iconst dX0_init_10 ?_
  refine nn_putI dX0_init_11 fl_X0_15 rfl rfl ?_
  refine nn_aload_n dX0_init_14 rfl rfl ?_
  refine nn_bipush dX0_init_15 (by decide +kernel) ?_
  refine nn_newaI (ll' := zs_74) (N := 12) (n := 34) dX0_init_17 wk_16 rfl (by decide) rfl (by decide) (by decide +kernel) rfl rfl (GC.ok (by decide)) ⟨Nat.le_of_ble_eq_true rfl, Nat.le_of_ble_eq_true rfl⟩ (by decide +kernel) ?_
  refine nn_putRF (ll' := zs_75) (b := 33) dX0_init_19 fl_X0_18 rfl (by decide) (fun _ => ⟨rfl, rfl⟩) rfl (fun _ _ _ _ _ _ _ q => q) (by decide +kernel) ?_
  refine nn_aload_n dX0_init_22 rfl rfl ?_
  refine nn_bipush dX0_init_23 (by decide +kernel) ?_
  refine nn_newaI (ll' := zs_76) (N := 12) (n := 35) dX0_init_25 wk_16 rfl (by decide) rfl (by decide) (by decide +kernel) rfl rfl (GC.ok (by decide)) ⟨Nat.le_of_ble_eq_true rfl, Nat.le_of_ble_eq_true rfl⟩ (by decide +kernel) ?_
  refine nn_putRF (ll' := zs_77) (b := 34) dX0_init_27 fl_X0_22 rfl (by decide) (fun _ => ⟨rfl, rfl⟩) rfl (fun _ _ _ _ _ _ _ q => q) (by decide +kernel) ?_
  refine nn_aload_n dX0_init_30 rfl rfl ?_
  refine nn_bipush dX0_init_31 (by decide +kernel) ?_
  refine nn_newaI (ll' := zs_78) (N := 12) (n := 36) dX0_init_33 wk_16 rfl (by decide) rfl (by decide) (by decide +kernel) rfl rfl (GC.ok (by decide)) ⟨Nat.le_of_ble_eq_true rfl, Nat.le_of_ble_eq_true rfl⟩ (by decide +kernel) ?_
  refine nn_putRF (ll' := zs_79) (b := 35) dX0_init_35 fl_X0_25 rfl (by decide) (fun _ => ⟨rfl, rfl⟩) rfl (fun _ _ _ _ _ _ _ q => q) (by decide +kernel) ?_
  refine nn_aload_n dX0_init_38 rfl rfl ?_
  refine nn_bipush dX0_init_39 (by decide +kernel) ?_
  refine nn_newaI (ll' := zs_80) (N := 12) (n := 37) dX0_init_41 wk_16 rfl (by decide) rfl (by decide) (by decide +kernel) rfl rfl (GC.ok (by decide)) ⟨Nat.le_of_ble_eq_true rfl, Nat.le_of_ble_eq_true rfl⟩ (by decide +kernel) ?_
  refine nn_putRF (ll' := zs_81) (b := 36) dX0_init_43 fl_X0_28 rfl (by decide) (fun _ => ⟨rfl, rfl⟩) rfl (fun _ _ _ _ _ _ _ q => q) (by decide +kernel) ?_
  refine nn_aload_n dX0_init_46 rfl rfl ?_
  refine nn_bipush dX0_init_47 (by decide +kernel) ?_
  refine nn_newaI (ll' := zs_82) (N := 12) (n := 38) dX0_init_49 wk_16 rfl (by decide) rfl (by decide) (by decide +kernel) rfl rfl (GC.ok (by decide)) ⟨Nat.le_of_ble_eq_true rfl, Nat.le_of_ble_eq_true rfl⟩ (by decide +kernel) ?_
  refine nn_putRF (ll' := zs_83) (b := 37) dX0_init_51 fl_X0_31 rfl (by decide) (fun _ => ⟨rfl, rfl⟩) rfl (fun _ _ _ _ _ _ _ q => q) (by decide +kernel) ?_
  refine nn_aload_n dX0_init_54 rfl rfl ?_
  refine nn_sipush dX0_init_55 (by decide +kernel) ?_
  refine nn_newaI (ll' := zs_84) (N := 2028) (n := 39) dX0_init_58 wk_16 rfl (by decide) rfl (by decide) (by decide +kernel) rfl rfl (GC.ok (by decide)) ⟨Nat.le_of_ble_eq_true rfl, Nat.le_of_ble_eq_true rfl⟩ (by decide +kernel) ?_
  refine nn_putRF (ll' := zs_85) (b := 38) dX0_init_60 fl_X0_34 rfl (by decide) (fun _ => ⟨rfl, rfl⟩) rfl (fun _ _ _ _ _ _ _ q => q) (by decide +kernel) ?_
  refine nn_aload_n dX0_init_63 rfl rfl ?_
  refine nn_sipush dX0_init_64 (by decide +kernel) ?_
  refine nn_newaI (ll' := zs_86) (N := 169) (n := 40) dX0_init_67 wk_16 rfl (by decide) rfl (by decide) (by decide +kernel) rfl rfl (GC.ok (by decide)) ⟨Nat.le_of_ble_eq_true rfl, Nat.le_of_ble_eq_true rfl⟩ (by decide +kernel) ?_
  refine nn_putRF (ll' := zs_87) (b := 39) dX0_init_69 fl_X0_37 rfl (by decide) (fun _ => ⟨rfl, rfl⟩) rfl (fun _ _ _ _ _ _ _ q => q) (by decide +kernel) ?_
  refine nn_aload_n dX0_init_72 rfl rfl ?_
  refine nn_aload_n dX0_init_73 rfl rfl ?_
  refine nn_putRF (ll' := zs_88) (b := 0) dX0_init_74 fl_X0_40 rfl (by decide) (fun _ => ⟨rfl, rfl⟩) rfl (fun _ _ _ _ _ _ _ q => q) (by decide +kernel) ?_
  refine nn_aload_n dX0_init_77 rfl rfl ?_
  refine nn_aload_n dX0_init_78 rfl rfl ?_
  refine nn_putRF (ll' := zs_89) (b := 15) dX0_init_79 fl_X0_44 rfl (by decide) (fun _ => ⟨rfl, rfl⟩) rfl (fun _ _ _ _ _ _ _ q => q) (by decide +kernel) ?_
  exact nn_vret dX0_init_82 rfl ⟨Nat.le_of_ble_eq_true rfl, Nat.le_of_ble_eq_true rfl⟩ rfl
def zs_90 : List (Nat × List Nat) := [(11, [3, 4, 6, 16, 18, 25, 32, 34, 35, 2, 2, 2, 0]), (10, [0, 0, 0, 0, 0, 0, 1, 1, 0]), (8, [0, 0, 0, 0, 0, 0, 5]), (102, [500]), (7, [0, 0, 7, 8, 9, 10, 11, 12, 13, 14, 15]), (100, [60]), (100, [60]), (100, [60]), (100, [300]), (100, [8]), (100, [8]), (100, [8]), (100, [96]), (100, [96]), (3, [4, 6, 0, 0, 0, 17]), (100, [5]), (2, [0, 19, 20, 21, 22, 23, 24, 3]), (100, [151]), (100, [151]), (103, [151]), (100, [151]), (100, [151]), (100, [300]), (2, [0, 26, 27, 28, 29, 30, 31, 3]), (100, [151]), (100, [151]), (103, [151]), (100, [151]), (100, [151]), (100, [300]), (5, [3, 6, 18, 0, 0, 0, 0, 0, 0, 0, 0, 33]), (100, [4]), (9, [3, 18, 1, 1, 1, 1, 1]), (0, [0, 0, 36, 37, 38, 39, 40, 41, 42, 3, 18]), (100, [12]), (100, [12]), (100, [12]), (100, [12]), (100, [12]), (100, [2028]), (100, [169])]
theorem wk_43 : Cond.classLink RX11 76 RX1 ∈ lw_g := in_g (List.mem_of_getElem? (i := 471) (by decide +kernel)) (by decide +kernel)
theorem wk_44 : Cond.instantiable RX1 10 ∈ lw_g := in_g (List.mem_of_getElem? (i := 472) (by decide +kernel)) (by decide +kernel)
theorem wk_45 : Cond.initialized RX1 ∈ lw_g := in_g (List.mem_of_getElem? (i := 114) (by decide +kernel)) (by decide +kernel)
set_option maxRecDepth 20000 in
theorem df_X1 : ∀ j, j < 10 → defaultValue (tyX1 j) = vp_V (([0, 0, 0, 0, 2, 2, 2, 2, 2, 2] : List Nat).map dvN) j := by decide +kernel
def zs_91 : List (Nat × List Nat) := [(11, [3, 4, 6, 16, 18, 25, 32, 34, 35, 2, 2, 2, 0]), (10, [0, 0, 0, 0, 0, 0, 1, 1, 0]), (8, [0, 0, 0, 0, 0, 0, 5]), (102, [500]), (7, [0, 0, 7, 8, 9, 10, 11, 12, 13, 14, 15]), (100, [60]), (100, [60]), (100, [60]), (100, [300]), (100, [8]), (100, [8]), (100, [8]), (100, [96]), (100, [96]), (3, [4, 6, 0, 0, 0, 17]), (100, [5]), (2, [0, 19, 20, 21, 22, 23, 24, 3]), (100, [151]), (100, [151]), (103, [151]), (100, [151]), (100, [151]), (100, [300]), (2, [0, 26, 27, 28, 29, 30, 31, 3]), (100, [151]), (100, [151]), (103, [151]), (100, [151]), (100, [151]), (100, [300]), (5, [3, 6, 18, 0, 0, 0, 0, 0, 0, 0, 0, 33]), (100, [4]), (9, [3, 18, 1, 1, 1, 1, 1]), (0, [0, 0, 36, 37, 38, 39, 40, 41, 42, 3, 18]), (100, [12]), (100, [12]), (100, [12]), (100, [12]), (100, [12]), (100, [2028]), (100, [169]), (1, [0, 0, 0, 0, 2, 2, 2, 2, 2, 2])]
theorem wk_46 : Cond.methodLink RX11 78 yX1_init ∈ lw_g := in_g (List.mem_of_getElem? (i := 473) (by decide +kernel)) (by decide +kernel)
def mX1_init : MI := (yX1_init, cX1_init, 4, none)
theorem mc_X1 : MCk mX1_init 3 := ⟨rfl, in_g (List.mem_of_getElem? (i := 474) (by decide +kernel)) (by decide +kernel), in_g (List.mem_of_getElem? (i := 114) (by decide +kernel)) (by decide +kernel), in_g (List.mem_of_getElem? (i := 475) (by decide +kernel)) (by decide +kernel), ⟨by decide, by decide, by decide +kernel⟩, by decide, rfl⟩
theorem wk_47 : Cond.methodLink RX1 3 Lib.objectInit ∈ lw_g := in_g (List.mem_of_getElem? (i := 476) (by decide +kernel)) (by decide +kernel)
def zs_92 : List (Nat × List Nat) := [(11, [3, 4, 6, 16, 18, 25, 32, 34, 35, 2, 2, 2, 0]), (10, [0, 0, 0, 0, 0, 0, 1, 1, 0]), (8, [0, 0, 0, 0, 0, 0, 5]), (102, [500]), (7, [0, 0, 7, 8, 9, 10, 11, 12, 13, 14, 15]), (100, [60]), (100, [60]), (100, [60]), (100, [300]), (100, [8]), (100, [8]), (100, [8]), (100, [96]), (100, [96]), (3, [4, 6, 0, 0, 0, 17]), (100, [5]), (2, [0, 19, 20, 21, 22, 23, 24, 3]), (100, [151]), (100, [151]), (103, [151]), (100, [151]), (100, [151]), (100, [300]), (2, [0, 26, 27, 28, 29, 30, 31, 3]), (100, [151]), (100, [151]), (103, [151]), (100, [151]), (100, [151]), (100, [300]), (5, [3, 6, 18, 0, 0, 0, 0, 0, 0, 0, 0, 33]), (100, [4]), (9, [3, 18, 1, 1, 1, 1, 1]), (0, [0, 0, 36, 37, 38, 39, 40, 41, 42, 3, 18]), (100, [12]), (100, [12]), (100, [12]), (100, [12]), (100, [12]), (100, [2028]), (100, [169]), (1, [0, 0, 0, 0, 2, 2, 2, 2, 2, 2]), (100, [151])]
def zs_93 : List (Nat × List Nat) := [(11, [3, 4, 6, 16, 18, 25, 32, 34, 35, 2, 2, 2, 0]), (10, [0, 0, 0, 0, 0, 0, 1, 1, 0]), (8, [0, 0, 0, 0, 0, 0, 5]), (102, [500]), (7, [0, 0, 7, 8, 9, 10, 11, 12, 13, 14, 15]), (100, [60]), (100, [60]), (100, [60]), (100, [300]), (100, [8]), (100, [8]), (100, [8]), (100, [96]), (100, [96]), (3, [4, 6, 0, 0, 0, 17]), (100, [5]), (2, [0, 19, 20, 21, 22, 23, 24, 3]), (100, [151]), (100, [151]), (103, [151]), (100, [151]), (100, [151]), (100, [300]), (2, [0, 26, 27, 28, 29, 30, 31, 3]), (100, [151]), (100, [151]), (103, [151]), (100, [151]), (100, [151]), (100, [300]), (5, [3, 6, 18, 0, 0, 0, 0, 0, 0, 0, 0, 33]), (100, [4]), (9, [3, 18, 1, 1, 1, 1, 1]), (0, [0, 0, 36, 37, 38, 39, 40, 41, 42, 3, 18]), (100, [12]), (100, [12]), (100, [12]), (100, [12]), (100, [12]), (100, [2028]), (100, [169]), (1, [0, 0, 0, 0, 2, 2, 2, 44, 2, 2]), (100, [151])]
def zs_94 : List (Nat × List Nat) := [(11, [3, 4, 6, 16, 18, 25, 32, 34, 35, 2, 2, 2, 0]), (10, [0, 0, 0, 0, 0, 0, 1, 1, 0]), (8, [0, 0, 0, 0, 0, 0, 5]), (102, [500]), (7, [0, 0, 7, 8, 9, 10, 11, 12, 13, 14, 15]), (100, [60]), (100, [60]), (100, [60]), (100, [300]), (100, [8]), (100, [8]), (100, [8]), (100, [96]), (100, [96]), (3, [4, 6, 0, 0, 0, 17]), (100, [5]), (2, [0, 19, 20, 21, 22, 23, 24, 3]), (100, [151]), (100, [151]), (103, [151]), (100, [151]), (100, [151]), (100, [300]), (2, [0, 26, 27, 28, 29, 30, 31, 3]), (100, [151]), (100, [151]), (103, [151]), (100, [151]), (100, [151]), (100, [300]), (5, [3, 6, 18, 0, 0, 0, 0, 0, 0, 0, 0, 33]), (100, [4]), (9, [3, 18, 1, 1, 1, 1, 1]), (0, [0, 0, 36, 37, 38, 39, 40, 41, 42, 3, 18]), (100, [12]), (100, [12]), (100, [12]), (100, [12]), (100, [12]), (100, [2028]), (100, [169]), (1, [0, 0, 0, 0, 2, 2, 2, 44, 2, 2]), (100, [151]), (100, [300])]
def zs_95 : List (Nat × List Nat) := [(11, [3, 4, 6, 16, 18, 25, 32, 34, 35, 2, 2, 2, 0]), (10, [0, 0, 0, 0, 0, 0, 1, 1, 0]), (8, [0, 0, 0, 0, 0, 0, 5]), (102, [500]), (7, [0, 0, 7, 8, 9, 10, 11, 12, 13, 14, 15]), (100, [60]), (100, [60]), (100, [60]), (100, [300]), (100, [8]), (100, [8]), (100, [8]), (100, [96]), (100, [96]), (3, [4, 6, 0, 0, 0, 17]), (100, [5]), (2, [0, 19, 20, 21, 22, 23, 24, 3]), (100, [151]), (100, [151]), (103, [151]), (100, [151]), (100, [151]), (100, [300]), (2, [0, 26, 27, 28, 29, 30, 31, 3]), (100, [151]), (100, [151]), (103, [151]), (100, [151]), (100, [151]), (100, [300]), (5, [3, 6, 18, 0, 0, 0, 0, 0, 0, 0, 0, 33]), (100, [4]), (9, [3, 18, 1, 1, 1, 1, 1]), (0, [0, 0, 36, 37, 38, 39, 40, 41, 42, 3, 18]), (100, [12]), (100, [12]), (100, [12]), (100, [12]), (100, [12]), (100, [2028]), (100, [169]), (1, [0, 0, 0, 0, 2, 2, 2, 44, 45, 2]), (100, [151]), (100, [300])]
def zs_96 : List (Nat × List Nat) := [(11, [3, 4, 6, 16, 18, 25, 32, 34, 35, 2, 2, 2, 0]), (10, [0, 0, 0, 0, 0, 0, 1, 1, 0]), (8, [0, 0, 0, 0, 0, 0, 5]), (102, [500]), (7, [0, 0, 7, 8, 9, 10, 11, 12, 13, 14, 15]), (100, [60]), (100, [60]), (100, [60]), (100, [300]), (100, [8]), (100, [8]), (100, [8]), (100, [96]), (100, [96]), (3, [4, 6, 0, 0, 0, 17]), (100, [5]), (2, [0, 19, 20, 21, 22, 23, 24, 3]), (100, [151]), (100, [151]), (103, [151]), (100, [151]), (100, [151]), (100, [300]), (2, [0, 26, 27, 28, 29, 30, 31, 3]), (100, [151]), (100, [151]), (103, [151]), (100, [151]), (100, [151]), (100, [300]), (5, [3, 6, 18, 0, 0, 0, 0, 0, 0, 0, 0, 33]), (100, [4]), (9, [3, 18, 1, 1, 1, 1, 1]), (0, [0, 0, 36, 37, 38, 39, 40, 41, 42, 3, 18]), (100, [12]), (100, [12]), (100, [12]), (100, [12]), (100, [12]), (100, [2028]), (100, [169]), (1, [0, 0, 0, 0, 2, 2, 2, 44, 45, 2]), (100, [151]), (100, [300]), (100, [300])]
def zs_97 : List (Nat × List Nat) := [(11, [3, 4, 6, 16, 18, 25, 32, 34, 35, 2, 2, 2, 0]), (10, [0, 0, 0, 0, 0, 0, 1, 1, 0]), (8, [0, 0, 0, 0, 0, 0, 5]), (102, [500]), (7, [0, 0, 7, 8, 9, 10, 11, 12, 13, 14, 15]), (100, [60]), (100, [60]), (100, [60]), (100, [300]), (100, [8]), (100, [8]), (100, [8]), (100, [96]), (100, [96]), (3, [4, 6, 0, 0, 0, 17]), (100, [5]), (2, [0, 19, 20, 21, 22, 23, 24, 3]), (100, [151]), (100, [151]), (103, [151]), (100, [151]), (100, [151]), (100, [300]), (2, [0, 26, 27, 28, 29, 30, 31, 3]), (100, [151]), (100, [151]), (103, [151]), (100, [151]), (100, [151]), (100, [300]), (5, [3, 6, 18, 0, 0, 0, 0, 0, 0, 0, 0, 33]), (100, [4]), (9, [3, 18, 1, 1, 1, 1, 1]), (0, [0, 0, 36, 37, 38, 39, 40, 41, 42, 3, 18]), (100, [12]), (100, [12]), (100, [12]), (100, [12]), (100, [12]), (100, [2028]), (100, [169]), (1, [0, 0, 0, 0, 2, 2, 2, 44, 45, 46]), (100, [151]), (100, [300]), (100, [300])]
def zs_98 : List (Nat × List Nat) := [(11, [3, 4, 6, 16, 18, 25, 32, 34, 35, 2, 2, 2, 0]), (10, [0, 0, 0, 0, 0, 0, 1, 1, 0]), (8, [0, 0, 0, 0, 0, 0, 5]), (102, [500]), (7, [0, 0, 7, 8, 9, 10, 11, 12, 13, 14, 15]), (100, [60]), (100, [60]), (100, [60]), (100, [300]), (100, [8]), (100, [8]), (100, [8]), (100, [96]), (100, [96]), (3, [4, 6, 0, 0, 0, 17]), (100, [5]), (2, [0, 19, 20, 21, 22, 23, 24, 3]), (100, [151]), (100, [151]), (103, [151]), (100, [151]), (100, [151]), (100, [300]), (2, [0, 26, 27, 28, 29, 30, 31, 3]), (100, [151]), (100, [151]), (103, [151]), (100, [151]), (100, [151]), (100, [300]), (5, [3, 6, 18, 0, 0, 0, 0, 0, 0, 0, 0, 33]), (100, [4]), (9, [3, 18, 1, 1, 1, 1, 1]), (0, [0, 0, 36, 37, 38, 39, 40, 41, 42, 3, 18]), (100, [12]), (100, [12]), (100, [12]), (100, [12]), (100, [12]), (100, [2028]), (100, [169]), (1, [0, 0, 0, 0, 3, 2, 2, 44, 45, 46]), (100, [151]), (100, [300]), (100, [300])]
def zs_99 : List (Nat × List Nat) := [(11, [3, 4, 6, 16, 18, 25, 32, 34, 35, 2, 2, 2, 0]), (10, [0, 0, 0, 0, 0, 0, 1, 1, 0]), (8, [0, 0, 0, 0, 0, 0, 5]), (102, [500]), (7, [0, 0, 7, 8, 9, 10, 11, 12, 13, 14, 15]), (100, [60]), (100, [60]), (100, [60]), (100, [300]), (100, [8]), (100, [8]), (100, [8]), (100, [96]), (100, [96]), (3, [4, 6, 0, 0, 0, 17]), (100, [5]), (2, [0, 19, 20, 21, 22, 23, 24, 3]), (100, [151]), (100, [151]), (103, [151]), (100, [151]), (100, [151]), (100, [300]), (2, [0, 26, 27, 28, 29, 30, 31, 3]), (100, [151]), (100, [151]), (103, [151]), (100, [151]), (100, [151]), (100, [300]), (5, [3, 6, 18, 0, 0, 0, 0, 0, 0, 0, 0, 33]), (100, [4]), (9, [3, 18, 1, 1, 1, 1, 1]), (0, [0, 0, 36, 37, 38, 39, 40, 41, 42, 3, 18]), (100, [12]), (100, [12]), (100, [12]), (100, [12]), (100, [12]), (100, [2028]), (100, [169]), (1, [0, 0, 0, 0, 3, 18, 2, 44, 45, 46]), (100, [151]), (100, [300]), (100, [300])]
def zs_100 : List (Nat × List Nat) := [(11, [3, 4, 6, 16, 18, 25, 32, 34, 35, 2, 2, 2, 0]), (10, [0, 0, 0, 0, 0, 0, 1, 1, 0]), (8, [0, 0, 0, 0, 0, 0, 5]), (102, [500]), (7, [0, 0, 7, 8, 9, 10, 11, 12, 13, 14, 15]), (100, [60]), (100, [60]), (100, [60]), (100, [300]), (100, [8]), (100, [8]), (100, [8]), (100, [96]), (100, [96]), (3, [4, 6, 0, 0, 0, 17]), (100, [5]), (2, [0, 19, 20, 21, 22, 23, 24, 3]), (100, [151]), (100, [151]), (103, [151]), (100, [151]), (100, [151]), (100, [300]), (2, [0, 26, 27, 28, 29, 30, 31, 3]), (100, [151]), (100, [151]), (103, [151]), (100, [151]), (100, [151]), (100, [300]), (5, [3, 6, 18, 0, 0, 0, 0, 0, 0, 0, 0, 33]), (100, [4]), (9, [3, 18, 1, 1, 1, 1, 1]), (0, [0, 0, 36, 37, 38, 39, 40, 41, 42, 3, 18]), (100, [12]), (100, [12]), (100, [12]), (100, [12]), (100, [12]), (100, [2028]), (100, [169]), (1, [0, 0, 0, 0, 3, 18, 25, 44, 45, 46]), (100, [151]), (100, [300]), (100, [300])]
def fX1_41 (h : Hp) : Hp := upH (upH (upH (upH h 41 0 (0)) 41 1 (0)) 41 2 (0)) 41 3 (0)
set_option maxRecDepth 20000 in
set_option maxHeartbeats 1000000 in
theorem cn_X1_41 {h : Hp} : CNt 1 3 751 mX1_init [.inr (.inr 41), .inr (.inr 1), .inr (.inr 16), .inr (.inr 23)] zs_91 h zs_100 (fun h' => h' = fX1_41 h) := by
  refine CNt.of (n0 := 42) (L := [some (.inr (.inr 41)), some (.inr (.inr 1)), some (.inr (.inr 16)), some (.inr (.inr 23))]) (by decide +kernel) rfl (Nat.le_of_ble_eq_true rfl) rfl rfl ?_
  refine nn_aload_n dX1_init_0 rfl rfl ?_
  refine nn_obj dX1_init_1 wk_47 wk_1 wk_2 ⟨Nat.le_of_ble_eq_true rfl, Nat.le_of_ble_eq_true rfl⟩ ?_
  refine nn_aload_n dX1_init_4 rfl rfl ?_
  refine nn_iconst dX1_init_5 ?_
  refine nn_putI dX1_init_6 fl_X1_9 rfl rfl ?_
  refine nn_aload_n dX1_init_9 rfl rfl ?_
  refine nn_iconst dX1_init_10 ?_
  refine nn_putI dX1_init_11 fl_X1_15 rfl rfl ?_
  refine nn_aload_n dX1_init_14 rfl rfl ?_
  refine nn_iconst dX1_init_15 ?_
  refine nn_putI dX1_init_16 fl_X1_18 rfl rfl ?_
  refine nn_aload_n dX1_init_19 rfl rfl ?_
  refine nn_iconst dX1_init_20 ?_
  refine nn_putI dX1_init_21 fl_X1_21 rfl rfl ?_
  refine nn_aload_n dX1_init_24 rfl rfl ?_
  refine nn_sipush dX1_init_25 (by decide +kernel) ?_
  refine nn_newaI (ll' := zs_92) (N := 151) (n := 42) dX1_init_28 wk_16 rfl (by decide) rfl (by decide) (by decide +kernel) rfl rfl (GC.ok (by decide)) ⟨Nat.le_of_ble_eq_true rfl, Nat.le_of_ble_eq_true rfl⟩ (by decide +kernel) ?_
  refine nn_putRF (ll' := zs_93) (b := 41) dX1_init_30 fl_X1_24 rfl (by decide) (fun _ => ⟨rfl, rfl⟩) rfl (fun _ _ _ _ _ _ _ q => q) (by decide +kernel) ?_
  refine nn_aload_n dX1_init_33 rfl rfl ?_
  refine nn_sipush dX1_init_34 (by decide +kernel) ?_
  refine nn_newaI (ll' := zs_94) (N := 300) (n := 43) dX1_init_37 wk_16 rfl (by decide) rfl (by decide) (by decide +kernel) rfl rfl (GC.ok (by decide)) ⟨Nat.le_of_ble_eq_true rfl, Nat.le_of_ble_eq_true rfl⟩ (by decide +kernel) ?_
  refine nn_putRF (ll' := zs_95) (b := 42) dX1_init_39 fl_X1_28 rfl (by decide) (fun _ => ⟨rfl, rfl⟩) rfl (fun _ _ _ _ _ _ _ q => q) (by decide +kernel) ?_
  refine nn_aload_n dX1_init_42 rfl rfl ?_
  refine nn_sipush dX1_init_43 (by decide +kernel) ?_
  refine nn_newaI (ll' := zs_96) (N := 300) (n := 44) dX1_init_46 wk_16 rfl (by decide) rfl (by decide) (by decide +kernel) rfl rfl (GC.ok (by decide)) ⟨Nat.le_of_ble_eq_true rfl, Nat.le_of_ble_eq_true rfl⟩ (by decide +kernel) ?_
  refine nn_putRF (ll' := zs_97) (b := 43) dX1_init_48 fl_X1_31 rfl (by decide) (fun _ => ⟨rfl, rfl⟩) rfl (fun _ _ _ _ _ _ _ q => q) (by decide +kernel) ?_
  refine nn_aload_n dX1_init_51 rfl rfl ?_
  refine nn_aload_n dX1_init_52 rfl rfl ?_
  refine nn_putRF (ll' := zs_98) (b := 0) dX1_init_53 fl_X1_34 rfl (by decide) (fun _ => ⟨rfl, rfl⟩) rfl (fun _ _ _ _ _ _ _ q => q) (by decide +kernel) ?_
  refine nn_aload_n dX1_init_56 rfl rfl ?_
  refine nn_aload_n dX1_init_57 rfl rfl ?_
  refine nn_putRF (ll' := zs_99) (b := 15) dX1_init_58 fl_X1_38 rfl (by decide) (fun _ => ⟨rfl, rfl⟩) rfl (fun _ _ _ _ _ _ _ q => q) (by decide +kernel) ?_
  refine nn_aload_n dX1_init_61 rfl rfl ?_
  refine nn_aload_n dX1_init_62 rfl rfl ?_
  refine nn_putRF (ll' := zs_100) (b := 22) dX1_init_63 fl_X1_42 rfl (by decide) (fun _ => ⟨rfl, rfl⟩) rfl (fun _ _ _ _ _ _ _ q => q) (by decide +kernel) ?_
  exact nn_vret dX1_init_66 rfl ⟨Nat.le_of_ble_eq_true rfl, Nat.le_of_ble_eq_true rfl⟩ rfl
def zs_101 : List (Nat × List Nat) := [(11, [3, 4, 6, 16, 18, 25, 32, 34, 35, 43, 2, 2, 0]), (10, [0, 0, 0, 0, 0, 0, 1, 1, 0]), (8, [0, 0, 0, 0, 0, 0, 5]), (102, [500]), (7, [0, 0, 7, 8, 9, 10, 11, 12, 13, 14, 15]), (100, [60]), (100, [60]), (100, [60]), (100, [300]), (100, [8]), (100, [8]), (100, [8]), (100, [96]), (100, [96]), (3, [4, 6, 0, 0, 0, 17]), (100, [5]), (2, [0, 19, 20, 21, 22, 23, 24, 3]), (100, [151]), (100, [151]), (103, [151]), (100, [151]), (100, [151]), (100, [300]), (2, [0, 26, 27, 28, 29, 30, 31, 3]), (100, [151]), (100, [151]), (103, [151]), (100, [151]), (100, [151]), (100, [300]), (5, [3, 6, 18, 0, 0, 0, 0, 0, 0, 0, 0, 33]), (100, [4]), (9, [3, 18, 1, 1, 1, 1, 1]), (0, [0, 0, 36, 37, 38, 39, 40, 41, 42, 3, 18]), (100, [12]), (100, [12]), (100, [12]), (100, [12]), (100, [12]), (100, [2028]), (100, [169]), (1, [0, 0, 0, 0, 3, 18, 25, 44, 45, 46]), (100, [151]), (100, [300]), (100, [300])]
theorem wk_48 : Cond.classLink RX11 85 RX4 ∈ lw_g := in_g (List.mem_of_getElem? (i := 512) (by decide +kernel)) (by decide +kernel)
theorem wk_49 : Cond.instantiable RX4 6 ∈ lw_g := in_g (List.mem_of_getElem? (i := 513) (by decide +kernel)) (by decide +kernel)
theorem wk_50 : Cond.initialized RX4 ∈ lw_g := in_g (List.mem_of_getElem? (i := 115) (by decide +kernel)) (by decide +kernel)
set_option maxRecDepth 20000 in
theorem df_X4 : ∀ j, j < 6 → defaultValue (tyX4 j) = vp_V (([0, 0, 0, 0, 2, 2] : List Nat).map dvN) j := by decide +kernel
def zs_102 : List (Nat × List Nat) := [(11, [3, 4, 6, 16, 18, 25, 32, 34, 35, 43, 2, 2, 0]), (10, [0, 0, 0, 0, 0, 0, 1, 1, 0]), (8, [0, 0, 0, 0, 0, 0, 5]), (102, [500]), (7, [0, 0, 7, 8, 9, 10, 11, 12, 13, 14, 15]), (100, [60]), (100, [60]), (100, [60]), (100, [300]), (100, [8]), (100, [8]), (100, [8]), (100, [96]), (100, [96]), (3, [4, 6, 0, 0, 0, 17]), (100, [5]), (2, [0, 19, 20, 21, 22, 23, 24, 3]), (100, [151]), (100, [151]), (103, [151]), (100, [151]), (100, [151]), (100, [300]), (2, [0, 26, 27, 28, 29, 30, 31, 3]), (100, [151]), (100, [151]), (103, [151]), (100, [151]), (100, [151]), (100, [300]), (5, [3, 6, 18, 0, 0, 0, 0, 0, 0, 0, 0, 33]), (100, [4]), (9, [3, 18, 1, 1, 1, 1, 1]), (0, [0, 0, 36, 37, 38, 39, 40, 41, 42, 3, 18]), (100, [12]), (100, [12]), (100, [12]), (100, [12]), (100, [12]), (100, [2028]), (100, [169]), (1, [0, 0, 0, 0, 3, 18, 25, 44, 45, 46]), (100, [151]), (100, [300]), (100, [300]), (4, [0, 0, 0, 0, 2, 2])]
def mX4_init : MI := (yX4_init, cX4_init, 1, none)
theorem mc_X4 : MCk mX4_init 0 := ⟨rfl, in_g (List.mem_of_getElem? (i := 515) (by decide +kernel)) (by decide +kernel), in_g (List.mem_of_getElem? (i := 115) (by decide +kernel)) (by decide +kernel), in_g (List.mem_of_getElem? (i := 516) (by decide +kernel)) (by decide +kernel), ⟨by decide, by decide, by decide +kernel⟩, by decide, rfl⟩
theorem wk_51 : Cond.methodLink RX4 3 Lib.objectInit ∈ lw_g := in_g (List.mem_of_getElem? (i := 517) (by decide +kernel)) (by decide +kernel)
def zs_103 : List (Nat × List Nat) := [(11, [3, 4, 6, 16, 18, 25, 32, 34, 35, 43, 2, 2, 0]), (10, [0, 0, 0, 0, 0, 0, 1, 1, 0]), (8, [0, 0, 0, 0, 0, 0, 5]), (102, [500]), (7, [0, 0, 7, 8, 9, 10, 11, 12, 13, 14, 15]), (100, [60]), (100, [60]), (100, [60]), (100, [300]), (100, [8]), (100, [8]), (100, [8]), (100, [96]), (100, [96]), (3, [4, 6, 0, 0, 0, 17]), (100, [5]), (2, [0, 19, 20, 21, 22, 23, 24, 3]), (100, [151]), (100, [151]), (103, [151]), (100, [151]), (100, [151]), (100, [300]), (2, [0, 26, 27, 28, 29, 30, 31, 3]), (100, [151]), (100, [151]), (103, [151]), (100, [151]), (100, [151]), (100, [300]), (5, [3, 6, 18, 0, 0, 0, 0, 0, 0, 0, 0, 33]), (100, [4]), (9, [3, 18, 1, 1, 1, 1, 1]), (0, [0, 0, 36, 37, 38, 39, 40, 41, 42, 3, 18]), (100, [12]), (100, [12]), (100, [12]), (100, [12]), (100, [12]), (100, [2028]), (100, [169]), (1, [0, 0, 0, 0, 3, 18, 25, 44, 45, 46]), (100, [151]), (100, [300]), (100, [300]), (4, [0, 0, 0, 0, 2, 2]), (101, [20])]
theorem wk_52 : Cond.arrayClass (newarray.typeOf .long) ∈ lw_g := in_g (List.mem_of_getElem? (i := 541) (by decide +kernel)) (by decide +kernel)
def zs_104 : List (Nat × List Nat) := [(11, [3, 4, 6, 16, 18, 25, 32, 34, 35, 43, 2, 2, 0]), (10, [0, 0, 0, 0, 0, 0, 1, 1, 0]), (8, [0, 0, 0, 0, 0, 0, 5]), (102, [500]), (7, [0, 0, 7, 8, 9, 10, 11, 12, 13, 14, 15]), (100, [60]), (100, [60]), (100, [60]), (100, [300]), (100, [8]), (100, [8]), (100, [8]), (100, [96]), (100, [96]), (3, [4, 6, 0, 0, 0, 17]), (100, [5]), (2, [0, 19, 20, 21, 22, 23, 24, 3]), (100, [151]), (100, [151]), (103, [151]), (100, [151]), (100, [151]), (100, [300]), (2, [0, 26, 27, 28, 29, 30, 31, 3]), (100, [151]), (100, [151]), (103, [151]), (100, [151]), (100, [151]), (100, [300]), (5, [3, 6, 18, 0, 0, 0, 0, 0, 0, 0, 0, 33]), (100, [4]), (9, [3, 18, 1, 1, 1, 1, 1]), (0, [0, 0, 36, 37, 38, 39, 40, 41, 42, 3, 18]), (100, [12]), (100, [12]), (100, [12]), (100, [12]), (100, [12]), (100, [2028]), (100, [169]), (1, [0, 0, 0, 0, 3, 18, 25, 44, 45, 46]), (100, [151]), (100, [300]), (100, [300]), (4, [0, 0, 0, 0, 48, 2]), (101, [20])]
def zs_105 : List (Nat × List Nat) := [(11, [3, 4, 6, 16, 18, 25, 32, 34, 35, 43, 2, 2, 0]), (10, [0, 0, 0, 0, 0, 0, 1, 1, 0]), (8, [0, 0, 0, 0, 0, 0, 5]), (102, [500]), (7, [0, 0, 7, 8, 9, 10, 11, 12, 13, 14, 15]), (100, [60]), (100, [60]), (100, [60]), (100, [300]), (100, [8]), (100, [8]), (100, [8]), (100, [96]), (100, [96]), (3, [4, 6, 0, 0, 0, 17]), (100, [5]), (2, [0, 19, 20, 21, 22, 23, 24, 3]), (100, [151]), (100, [151]), (103, [151]), (100, [151]), (100, [151]), (100, [300]), (2, [0, 26, 27, 28, 29, 30, 31, 3]), (100, [151]), (100, [151]), (103, [151]), (100, [151]), (100, [151]), (100, [300]), (5, [3, 6, 18, 0, 0, 0, 0, 0, 0, 0, 0, 33]), (100, [4]), (9, [3, 18, 1, 1, 1, 1, 1]), (0, [0, 0, 36, 37, 38, 39, 40, 41, 42, 3, 18]), (100, [12]), (100, [12]), (100, [12]), (100, [12]), (100, [12]), (100, [2028]), (100, [169]), (1, [0, 0, 0, 0, 3, 18, 25, 44, 45, 46]), (100, [151]), (100, [300]), (100, [300]), (4, [0, 0, 0, 0, 48, 2]), (101, [20]), (101, [20])]
def zs_106 : List (Nat × List Nat) := [(11, [3, 4, 6, 16, 18, 25, 32, 34, 35, 43, 2, 2, 0]), (10, [0, 0, 0, 0, 0, 0, 1, 1, 0]), (8, [0, 0, 0, 0, 0, 0, 5]), (102, [500]), (7, [0, 0, 7, 8, 9, 10, 11, 12, 13, 14, 15]), (100, [60]), (100, [60]), (100, [60]), (100, [300]), (100, [8]), (100, [8]), (100, [8]), (100, [96]), (100, [96]), (3, [4, 6, 0, 0, 0, 17]), (100, [5]), (2, [0, 19, 20, 21, 22, 23, 24, 3]), (100, [151]), (100, [151]), (103, [151]), (100, [151]), (100, [151]), (100, [300]), (2, [0, 26, 27, 28, 29, 30, 31, 3]), (100, [151]), (100, [151]), (103, [151]), (100, [151]), (100, [151]), (100, [300]), (5, [3, 6, 18, 0, 0, 0, 0, 0, 0, 0, 0, 33]), (100, [4]), (9, [3, 18, 1, 1, 1, 1, 1]), (0, [0, 0, 36, 37, 38, 39, 40, 41, 42, 3, 18]), (100, [12]), (100, [12]), (100, [12]), (100, [12]), (100, [12]), (100, [2028]), (100, [169]), (1, [0, 0, 0, 0, 3, 18, 25, 44, 45, 46]), (100, [151]), (100, [300]), (100, [300]), (4, [0, 0, 0, 0, 48, 49]), (101, [20]), (101, [20])]
def fX4_45 (h : Hp) : Hp := upH (upH (upH (upH h 45 0 (0)) 45 1 (0)) 45 2 (0)) 45 3 (0)
set_option maxRecDepth 20000 in
set_option maxHeartbeats 1000000 in
theorem cn_X4_45 {h : Hp} : CNt 1 2 40 mX4_init [.inr (.inr 45)] zs_102 h zs_106 (fun h' => h' = fX4_45 h) := by
  refine CNt.of (n0 := 46) (L := [some (.inr (.inr 45))]) (by decide +kernel) rfl (Nat.le_of_ble_eq_true rfl) rfl rfl ?_
  refine nn_aload_n dX4_init_0 rfl rfl ?_
  refine nn_obj dX4_init_1 wk_51 wk_1 wk_2 ⟨Nat.le_of_ble_eq_true rfl, Nat.le_of_ble_eq_true rfl⟩ ?_
  refine nn_aload_n dX4_init_4 rfl rfl ?_
  refine nn_iconst dX4_init_5 ?_
  refine nn_putI dX4_init_6 fl_X4_9 rfl rfl ?_
  refine nn_aload_n dX4_init_9 rfl rfl ?_
  refine nn_iconst dX4_init_10 ?_
  refine nn_putI dX4_init_11 fl_X4_15 rfl rfl ?_
  refine nn_aload_n dX4_init_14 rfl rfl ?_
  refine nn_iconst dX4_init_15 ?_
  refine nn_putI dX4_init_16 fl_X4_18 rfl rfl ?_
  refine nn_aload_n dX4_init_19 rfl rfl ?_
  refine nn_iconst dX4_init_20 ?_
  refine nn_putI dX4_init_21 fl_X4_21 rfl rfl ?_
  refine nn_aload_n dX4_init_24 rfl rfl ?_
  refine nn_bipush dX4_init_25 (by decide +kernel) ?_
  refine nn_newaJ (ll' := zs_103) (N := 20) (n := 46) dX4_init_27 wk_52 rfl (by decide) rfl (by decide) (by decide +kernel) rfl rfl (GC.ok (by decide)) ⟨Nat.le_of_ble_eq_true rfl, Nat.le_of_ble_eq_true rfl⟩ (by decide +kernel) ?_
  refine nn_putRF (ll' := zs_104) (b := 45) dX4_init_29 fl_X4_24 rfl (by decide) (fun _ => ⟨rfl, rfl⟩) rfl (fun _ _ _ _ _ _ _ q => q) (by decide +kernel) ?_
  refine nn_aload_n dX4_init_32 rfl rfl ?_
  refine nn_bipush dX4_init_33 (by decide +kernel) ?_
  refine nn_newaJ (ll' := zs_105) (N := 20) (n := 47) dX4_init_35 wk_52 rfl (by decide) rfl (by decide) (by decide +kernel) rfl rfl (GC.ok (by decide)) ⟨Nat.le_of_ble_eq_true rfl, Nat.le_of_ble_eq_true rfl⟩ (by decide +kernel) ?_
  refine nn_putRF (ll' := zs_106) (b := 46) dX4_init_37 fl_X4_28 rfl (by decide) (fun _ => ⟨rfl, rfl⟩) rfl (fun _ _ _ _ _ _ _ q => q) (by decide +kernel) ?_
  exact nn_vret dX4_init_40 rfl ⟨Nat.le_of_ble_eq_true rfl, Nat.le_of_ble_eq_true rfl⟩ rfl
def zs_107 : List (Nat × List Nat) := [(11, [3, 4, 6, 16, 18, 25, 32, 34, 35, 43, 47, 2, 0]), (10, [0, 0, 0, 0, 0, 0, 1, 1, 0]), (8, [0, 0, 0, 0, 0, 0, 5]), (102, [500]), (7, [0, 0, 7, 8, 9, 10, 11, 12, 13, 14, 15]), (100, [60]), (100, [60]), (100, [60]), (100, [300]), (100, [8]), (100, [8]), (100, [8]), (100, [96]), (100, [96]), (3, [4, 6, 0, 0, 0, 17]), (100, [5]), (2, [0, 19, 20, 21, 22, 23, 24, 3]), (100, [151]), (100, [151]), (103, [151]), (100, [151]), (100, [151]), (100, [300]), (2, [0, 26, 27, 28, 29, 30, 31, 3]), (100, [151]), (100, [151]), (103, [151]), (100, [151]), (100, [151]), (100, [300]), (5, [3, 6, 18, 0, 0, 0, 0, 0, 0, 0, 0, 33]), (100, [4]), (9, [3, 18, 1, 1, 1, 1, 1]), (0, [0, 0, 36, 37, 38, 39, 40, 41, 42, 3, 18]), (100, [12]), (100, [12]), (100, [12]), (100, [12]), (100, [12]), (100, [2028]), (100, [169]), (1, [0, 0, 0, 0, 3, 18, 25, 44, 45, 46]), (100, [151]), (100, [300]), (100, [300]), (4, [0, 0, 0, 0, 48, 49]), (101, [20]), (101, [20])]
theorem wk_53 : Cond.classLink RX11 92 RX6 ∈ lw_g := in_g (List.mem_of_getElem? (i := 542) (by decide +kernel)) (by decide +kernel)
theorem wk_54 : Cond.instantiable RX6 5 ∈ lw_g := in_g (List.mem_of_getElem? (i := 543) (by decide +kernel)) (by decide +kernel)
theorem wk_55 : Cond.initialized RX6 ∈ lw_g := in_g (List.mem_of_getElem? (i := 116) (by decide +kernel)) (by decide +kernel)
set_option maxRecDepth 20000 in
theorem df_X6 : ∀ j, j < 5 → defaultValue (tyX6 j) = vp_V (([0, 0, 0, 0, 2] : List Nat).map dvN) j := by decide +kernel
def zs_108 : List (Nat × List Nat) := [(11, [3, 4, 6, 16, 18, 25, 32, 34, 35, 43, 47, 2, 0]), (10, [0, 0, 0, 0, 0, 0, 1, 1, 0]), (8, [0, 0, 0, 0, 0, 0, 5]), (102, [500]), (7, [0, 0, 7, 8, 9, 10, 11, 12, 13, 14, 15]), (100, [60]), (100, [60]), (100, [60]), (100, [300]), (100, [8]), (100, [8]), (100, [8]), (100, [96]), (100, [96]), (3, [4, 6, 0, 0, 0, 17]), (100, [5]), (2, [0, 19, 20, 21, 22, 23, 24, 3]), (100, [151]), (100, [151]), (103, [151]), (100, [151]), (100, [151]), (100, [300]), (2, [0, 26, 27, 28, 29, 30, 31, 3]), (100, [151]), (100, [151]), (103, [151]), (100, [151]), (100, [151]), (100, [300]), (5, [3, 6, 18, 0, 0, 0, 0, 0, 0, 0, 0, 33]), (100, [4]), (9, [3, 18, 1, 1, 1, 1, 1]), (0, [0, 0, 36, 37, 38, 39, 40, 41, 42, 3, 18]), (100, [12]), (100, [12]), (100, [12]), (100, [12]), (100, [12]), (100, [2028]), (100, [169]), (1, [0, 0, 0, 0, 3, 18, 25, 44, 45, 46]), (100, [151]), (100, [300]), (100, [300]), (4, [0, 0, 0, 0, 48, 49]), (101, [20]), (101, [20]), (6, [0, 0, 0, 0, 2])]
theorem wk_56 : Cond.methodLink RX11 94 yX6_init ∈ lw_g := in_g (List.mem_of_getElem? (i := 544) (by decide +kernel)) (by decide +kernel)
def mX6_init : MI := (yX6_init, cX6_init, 2, none)
theorem mc_X6 : MCk mX6_init 1 := ⟨rfl, in_g (List.mem_of_getElem? (i := 545) (by decide +kernel)) (by decide +kernel), in_g (List.mem_of_getElem? (i := 116) (by decide +kernel)) (by decide +kernel), in_g (List.mem_of_getElem? (i := 546) (by decide +kernel)) (by decide +kernel), ⟨by decide, by decide, by decide +kernel⟩, by decide, rfl⟩
theorem wk_57 : Cond.methodLink RX6 3 Lib.objectInit ∈ lw_g := in_g (List.mem_of_getElem? (i := 547) (by decide +kernel)) (by decide +kernel)
def zs_109 : List (Nat × List Nat) := [(11, [3, 4, 6, 16, 18, 25, 32, 34, 35, 43, 47, 2, 0]), (10, [0, 0, 0, 0, 0, 0, 1, 1, 0]), (8, [0, 0, 0, 0, 0, 0, 5]), (102, [500]), (7, [0, 0, 7, 8, 9, 10, 11, 12, 13, 14, 15]), (100, [60]), (100, [60]), (100, [60]), (100, [300]), (100, [8]), (100, [8]), (100, [8]), (100, [96]), (100, [96]), (3, [4, 6, 0, 0, 0, 17]), (100, [5]), (2, [0, 19, 20, 21, 22, 23, 24, 3]), (100, [151]), (100, [151]), (103, [151]), (100, [151]), (100, [151]), (100, [300]), (2, [0, 26, 27, 28, 29, 30, 31, 3]), (100, [151]), (100, [151]), (103, [151]), (100, [151]), (100, [151]), (100, [300]), (5, [3, 6, 18, 0, 0, 0, 0, 0, 0, 0, 0, 33]), (100, [4]), (9, [3, 18, 1, 1, 1, 1, 1]), (0, [0, 0, 36, 37, 38, 39, 40, 41, 42, 3, 18]), (100, [12]), (100, [12]), (100, [12]), (100, [12]), (100, [12]), (100, [2028]), (100, [169]), (1, [0, 0, 0, 0, 3, 18, 25, 44, 45, 46]), (100, [151]), (100, [300]), (100, [300]), (4, [0, 0, 0, 0, 48, 49]), (101, [20]), (101, [20]), (6, [0, 0, 0, 0, 18])]
def fX6_48 (h : Hp) : Hp := upH (upH (upH (upH h 48 0 (0)) 48 1 (0)) 48 2 (0)) 48 3 (0)
set_option maxRecDepth 20000 in
set_option maxHeartbeats 1000000 in
theorem cn_X6_48 {h : Hp} : CNt 1 0 0 mX6_init [.inr (.inr 48), .inr (.inr 16)] zs_108 h zs_109 (fun h' => h' = fX6_48 h) := by
  refine CNt.of (n0 := 49) (L := [some (.inr (.inr 48)), some (.inr (.inr 16))]) (by decide +kernel) rfl (Nat.le_of_ble_eq_true rfl) rfl rfl ?_
  refine nn_aload_n dX6_init_0 rfl rfl ?_
  refine nn_obj dX6_init_1 wk_57 wk_1 wk_2 ⟨Nat.le_of_ble_eq_true rfl, Nat.le_of_ble_eq_true rfl⟩ ?_
  refine nn_aload_n dX6_init_4 rfl rfl ?_
  refine nn_iconst dX6_init_5 ?_
  refine nn_putZ dX6_init_6 fl_X6_9 rfl rfl (by decide) ?_
  refine nn_aload_n dX6_init_9 rfl rfl ?_
  refine nn_iconst dX6_init_10 ?_
  refine nn_putI dX6_init_11 fl_X6_15 rfl rfl ?_
  refine nn_aload_n dX6_init_14 rfl rfl ?_
  refine nn_iconst dX6_init_15 ?_
  refine nn_putI dX6_init_16 fl_X6_19 rfl rfl ?_
  refine nn_aload_n dX6_init_19 rfl rfl ?_
  refine nn_iconst dX6_init_20 ?_
  refine nn_putI dX6_init_21 fl_X6_22 rfl rfl ?_
  refine nn_aload_n dX6_init_24 rfl rfl ?_
  refine nn_aload_n dX6_init_25 rfl rfl ?_
  refine nn_putRF (ll' := zs_109) (b := 15) dX6_init_26 fl_X6_25 rfl (by decide) (fun _ => ⟨rfl, rfl⟩) rfl (fun _ _ _ _ _ _ _ q => q) (by decide +kernel) ?_
  exact nn_vret dX6_init_29 rfl ⟨Nat.le_of_ble_eq_true rfl, Nat.le_of_ble_eq_true rfl⟩ rfl
def zs_110 : List (Nat × List Nat) := [(11, [3, 4, 6, 16, 18, 25, 32, 34, 35, 43, 47, 50, 0]), (10, [0, 0, 0, 0, 0, 0, 1, 1, 0]), (8, [0, 0, 0, 0, 0, 0, 5]), (102, [500]), (7, [0, 0, 7, 8, 9, 10, 11, 12, 13, 14, 15]), (100, [60]), (100, [60]), (100, [60]), (100, [300]), (100, [8]), (100, [8]), (100, [8]), (100, [96]), (100, [96]), (3, [4, 6, 0, 0, 0, 17]), (100, [5]), (2, [0, 19, 20, 21, 22, 23, 24, 3]), (100, [151]), (100, [151]), (103, [151]), (100, [151]), (100, [151]), (100, [300]), (2, [0, 26, 27, 28, 29, 30, 31, 3]), (100, [151]), (100, [151]), (103, [151]), (100, [151]), (100, [151]), (100, [300]), (5, [3, 6, 18, 0, 0, 0, 0, 0, 0, 0, 0, 33]), (100, [4]), (9, [3, 18, 1, 1, 1, 1, 1]), (0, [0, 0, 36, 37, 38, 39, 40, 41, 42, 3, 18]), (100, [12]), (100, [12]), (100, [12]), (100, [12]), (100, [12]), (100, [2028]), (100, [169]), (1, [0, 0, 0, 0, 3, 18, 25, 44, 45, 46]), (100, [151]), (100, [300]), (100, [300]), (4, [0, 0, 0, 0, 48, 49]), (101, [20]), (101, [20]), (6, [0, 0, 0, 0, 18])]
def fX11_0 (h : Hp) : Hp := upH (fX6_48 (fX4_45 (fX1_41 (fX0_33 (fX9_32 (fX5_30 (fX2_23 (fX2_16 (fX3_14 (fX7_4 (fX8_2 (fX10_1 h)))))))))))) 0 12 (0)
def zs_111 : List (Nat × List Nat) := [(11, [2, 2, 2, 2, 2, 2, 2, 2, 2, 2, 2, 2, 0])]
set_option maxRecDepth 20000 in
theorem wok_C : WOK (fX11_0 hZ0) := by
  have e : ∀ k, (fX11_0 hZ0) 1 k = (fX10_1 hZ0) 1 k := fun k => rfl
  refine ⟨?_, ?_, ?_, ?_, ?_, ?_, ?_, ?_, ?_, ?_, ?_, ?_, ?_, ?_⟩ <;> decide +kernel
theorem wok_16 {h : Hp} (w : WOK h) : WOK (gh16 h) := by
  unfold WOK gh16
  simp only [up_nc (show (1 : Nat) ≠ 16 by decide), up_nc (show (1 : Nat) ≠ 17 by decide), up_nc (show (1 : Nat) ≠ 18 by decide), up_nc (show (1 : Nat) ≠ 19 by decide), up_nc (show (1 : Nat) ≠ 20 by decide), up_nc (show (1 : Nat) ≠ 21 by decide)]
  exact w
theorem zr_16 {h : Hp} (z : Zr 49 h) : Zr 49 (gh16 h) := (((((z.up (by decide)).up (by decide)).up (by decide)).up (by decide)).up (by decide)).up (by decide)
theorem zr_23 {h : Hp} (z : Zr 49 h) : Zr 49 (gh23 h) := (((((z.up (by decide)).up (by decide)).up (by decide)).up (by decide)).up (by decide)).up (by decide)
set_option maxRecDepth 20000 in
set_option maxHeartbeats 1000000 in
theorem cn_X11_0  : CNt 6 48 6463 mX11_init [.inr (.inr 0)] zs_111 hZ0 (SH.take 49) (fun h' => h' = gh23 (gh16 (fX11_0 hZ0)) ∧ Zr 49 h') := by
  refine CNt.of (n0 := 1) (L := [some (.inr (.inr 0))]) (by decide +kernel) rfl (Nat.le_of_ble_eq_true rfl) rfl rfl ?_
  refine nn_aload_n dX11_init_0 rfl rfl ?_
  refine nn_obj dX11_init_1 wk_0 wk_1 wk_2 ⟨Nat.le_of_ble_eq_true rfl, Nat.le_of_ble_eq_true rfl⟩ ?_
  refine nn_aload_n dX11_init_4 rfl rfl ?_
  refine nn_new (ll' := zs_0) (ci := 10) (N := 9) (n := 1) (ts := [0, 0, 0, 0, 0, 0, 1, 1, 0]) dX11_init_5 wk_3 wk_4 wk_5 lay_X10 tyX10_ok rfl (by decide) df_X10 (by decide) rfl (by decide) (by decide +kernel) rfl rfl (GC.ok (by decide)) ⟨Nat.le_of_ble_eq_true rfl, Nat.le_of_ble_eq_true rfl⟩ (by decide +kernel) ?_
  refine nn_dup dX11_init_8 (fun z q => by cases q) ?_
  refine nn_callIN (d := 1) (mc := 0) (ms := 0) (n0 := 2) (av := []) (M' := mX10_init) ⟨Nat.le_of_ble_eq_true rfl, Nat.le_of_ble_eq_true rfl⟩ ⟨Nat.le_of_ble_eq_true rfl, Nat.le_of_ble_eq_true rfl⟩ dX11_init_9 mc_X10 mn_X11_9 rfl rfl (by decide) rfl rfl rfl (GC.ok (by decide)) cn_X10_1 ?_
  rintro _ rfl
  refine nn_putRF (ll' := zs_1) (b := 0) dX11_init_12 fl_X11_10 rfl (by decide) (fun _ => ⟨rfl, rfl⟩) rfl (fun _ _ _ _ _ _ _ q => q) (by decide +kernel) ?_
  refine nn_aload_n dX11_init_15 rfl rfl ?_
  refine nn_new (ll' := zs_2) (ci := 8) (N := 7) (n := 2) (ts := [0, 0, 0, 0, 0, 0, 2]) dX11_init_16 wk_7 wk_8 wk_9 lay_X8 tyX8_ok rfl (by decide) df_X8 (by decide) rfl (by decide) (by decide +kernel) rfl rfl (GC.ok (by decide)) ⟨Nat.le_of_ble_eq_true rfl, Nat.le_of_ble_eq_true rfl⟩ (by decide +kernel) ?_
  refine nn_dup dX11_init_19 (fun z q => by cases q) ?_
  refine nn_callIN (d := 1) (mc := 1) (ms := 500) (n0 := 3) (av := []) (M' := mX8_init) ⟨Nat.le_of_ble_eq_true rfl, Nat.le_of_ble_eq_true rfl⟩ ⟨Nat.le_of_ble_eq_true rfl, Nat.le_of_ble_eq_true rfl⟩ dX11_init_20 mc_X8 mn_X11_18 rfl rfl (by decide) rfl rfl rfl (GC.ok (by decide)) cn_X8_2 ?_
  rintro _ rfl
  refine nn_putRF (ll' := zs_5) (b := 1) dX11_init_23 fl_X11_19 rfl (by decide) (fun _ => ⟨rfl, rfl⟩) rfl (fun _ _ _ _ _ _ _ q => q) (by decide +kernel) ?_
  refine nn_aload_n dX11_init_26 rfl rfl ?_
  refine nn_new (ll' := zs_6) (ci := 7) (N := 11) (n := 4) (ts := [0, 0, 2, 2, 2, 2, 2, 2, 2, 2, 2]) dX11_init_27 wk_12 wk_13 wk_14 lay_X7 tyX7_ok rfl (by decide) df_X7 (by decide) rfl (by decide) (by decide +kernel) rfl rfl (GC.ok (by decide)) ⟨Nat.le_of_ble_eq_true rfl, Nat.le_of_ble_eq_true rfl⟩ (by decide +kernel) ?_
  refine nn_dup dX11_init_30 (fun z q => by cases q) ?_
  refine nn_callIN (d := 1) (mc := 9) (ms := 696) (n0 := 5) (av := []) (M' := mX7_init) ⟨Nat.le_of_ble_eq_true rfl, Nat.le_of_ble_eq_true rfl⟩ ⟨Nat.le_of_ble_eq_true rfl, Nat.le_of_ble_eq_true rfl⟩ dX11_init_31 mc_X7 mn_X11_25 rfl rfl (by decide) rfl rfl rfl (GC.ok (by decide)) cn_X7_4 ?_
  rintro _ rfl
  refine nn_putRF (ll' := zs_25) (b := 3) dX11_init_34 fl_X11_26 rfl (by decide) (fun _ => ⟨rfl, rfl⟩) rfl (fun _ _ _ _ _ _ _ q => q) (by decide +kernel) ?_
  refine nn_aload_n dX11_init_37 rfl rfl ?_
  refine nn_new (ll' := zs_26) (ci := 3) (N := 6) (n := 14) (ts := [2, 2, 0, 0, 0, 2]) dX11_init_38 wk_17 wk_18 wk_19 lay_X3 tyX3_ok rfl (by decide) df_X3 (by decide) rfl (by decide) (by decide +kernel) rfl rfl (GC.ok (by decide)) ⟨Nat.le_of_ble_eq_true rfl, Nat.le_of_ble_eq_true rfl⟩ (by decide +kernel) ?_
  refine nn_dup dX11_init_41 (fun z q => by cases q) ?_
  refine nn_aload_n dX11_init_42 rfl rfl ?_
  refine nn_getR (b := 1) dX11_init_43 fl_X11_19 rfl rfl ?_
  refine nn_aload_n dX11_init_46 rfl rfl ?_
  refine nn_getR (b := 3) dX11_init_47 fl_X11_26 rfl rfl ?_
  refine nn_callI (d := 1) (mc := 1) (ms := 5) (n0 := 15) (av := [.inr (.inr 2), .inr (.inr 4)]) (M' := mX3_init) ⟨Nat.le_of_ble_eq_true rfl, Nat.le_of_ble_eq_true rfl⟩ ⟨Nat.le_of_ble_eq_true rfl, Nat.le_of_ble_eq_true rfl⟩ dX11_init_50 mc_X3 wk_20 rfl rfl (by decide) rfl rfl rfl (GC.ok (by decide)) cn_X3_14 ?_
  rintro _ rfl
  refine nn_putRF (ll' := zs_31) (b := 13) dX11_init_53 fl_X11_35 rfl (by decide) (fun _ => ⟨rfl, rfl⟩) rfl (fun _ _ _ _ _ _ _ q => q) (by decide +kernel) ?_
  refine nn_aload_n dX11_init_56 rfl rfl ?_
  refine nn_new (ll' := zs_32) (ci := 2) (N := 8) (n := 16) (ts := [0, 2, 2, 2, 2, 2, 2, 2]) dX11_init_57 wk_22 wk_23 wk_24 lay_X2 tyX2_ok rfl (by decide) df_X2 (by decide) rfl (by decide) (by decide +kernel) rfl rfl (GC.ok (by decide)) ⟨Nat.le_of_ble_eq_true rfl, Nat.le_of_ble_eq_true rfl⟩ (by decide +kernel) ?_
  refine nn_dup dX11_init_60 (fun z q => by cases q) ?_
  refine nn_aload_n dX11_init_61 rfl rfl ?_
  refine nn_getR (b := 0) dX11_init_62 fl_X11_10 rfl rfl ?_
  refine nn_callI (d := 1) (mc := 6) (ms := 1055) (n0 := 17) (av := [.inr (.inr 1)]) (M' := mX2_init) ⟨Nat.le_of_ble_eq_true rfl, Nat.le_of_ble_eq_true rfl⟩ ⟨Nat.le_of_ble_eq_true rfl, Nat.le_of_ble_eq_true rfl⟩ dX11_init_65 mc_X2 wk_25 rfl rfl (by decide) rfl rfl rfl (GC.ok (by decide)) cn_X2_16 ?_
  rintro _ rfl
  refine nn_putRF (ll' := zs_46) (b := 15) dX11_init_68 fl_X11_44 rfl (by decide) (fun _ => ⟨rfl, rfl⟩) rfl (fun _ _ _ _ _ _ _ q => q) (by decide +kernel) ?_
  refine nn_aload_n dX11_init_71 rfl rfl ?_
  refine nn_new (ll' := zs_47) (ci := 2) (N := 8) (n := 23) (ts := [0, 2, 2, 2, 2, 2, 2, 2]) dX11_init_72 wk_22 wk_23 wk_24 lay_X2 tyX2_ok rfl (by decide) df_X2 (by decide) rfl (by decide) (by decide +kernel) rfl rfl (GC.ok (by decide)) ⟨Nat.le_of_ble_eq_true rfl, Nat.le_of_ble_eq_true rfl⟩ (by decide +kernel) ?_
  refine nn_dup dX11_init_75 (fun z q => by cases q) ?_
  refine nn_aload_n dX11_init_76 rfl rfl ?_
  refine nn_getR (b := 0) dX11_init_77 fl_X11_10 rfl rfl ?_
  refine nn_callI (d := 1) (mc := 6) (ms := 1055) (n0 := 24) (av := [.inr (.inr 1)]) (M' := mX2_init) ⟨Nat.le_of_ble_eq_true rfl, Nat.le_of_ble_eq_true rfl⟩ ⟨Nat.le_of_ble_eq_true rfl, Nat.le_of_ble_eq_true rfl⟩ dX11_init_80 mc_X2 wk_25 rfl rfl (by decide) rfl rfl rfl (GC.ok (by decide)) cn_X2_23 ?_
  rintro _ rfl
  refine nn_putRF (ll' := zs_61) (b := 22) dX11_init_83 fl_X11_48 rfl (by decide) (fun _ => ⟨rfl, rfl⟩) rfl (fun _ _ _ _ _ _ _ q => q) (by decide +kernel) ?_
  refine nn_aload_n dX11_init_86 rfl rfl ?_
  refine nn_new (ll' := zs_62) (ci := 5) (N := 12) (n := 30) (ts := [2, 2, 2, 0, 0, 0, 0, 0, 0, 0, 0, 2]) dX11_init_87 wk_28 wk_29 wk_30 lay_X5 tyX5_ok rfl (by decide) df_X5 (by decide) rfl (by decide) (by decide +kernel) rfl rfl (GC.ok (by decide)) ⟨Nat.le_of_ble_eq_true rfl, Nat.le_of_ble_eq_true rfl⟩ (by decide +kernel) ?_
  refine nn_dup dX11_init_90 (fun z q => by cases q) ?_
  refine nn_aload_n dX11_init_91 rfl rfl ?_
  refine nn_getR (b := 0) dX11_init_92 fl_X11_10 rfl rfl ?_
  refine nn_aload_n dX11_init_95 rfl rfl ?_
  refine nn_getR (b := 3) dX11_init_96 fl_X11_26 rfl rfl ?_
  refine nn_aload_n dX11_init_99 rfl rfl ?_
  refine nn_getR (b := 15) dX11_init_100 fl_X11_44 rfl rfl ?_
  refine nn_callI (d := 1) (mc := 1) (ms := 4) (n0 := 31) (av := [.inr (.inr 1), .inr (.inr 4), .inr (.inr 16)]) (M' := mX5_init) ⟨Nat.le_of_ble_eq_true rfl, Nat.le_of_ble_eq_true rfl⟩ ⟨Nat.le_of_ble_eq_true rfl, Nat.le_of_ble_eq_true rfl⟩ dX11_init_103 mc_X5 wk_31 rfl rfl (by decide) rfl rfl rfl (GC.ok (by decide)) cn_X5_30 ?_
  rintro _ rfl
  refine nn_putRF (ll' := zs_68) (b := 29) dX11_init_106 fl_X11_56 rfl (by decide) (fun _ => ⟨rfl, rfl⟩) rfl (fun _ _ _ _ _ _ _ q => q) (by decide +kernel) ?_
  refine nn_aload_n dX11_init_109 rfl rfl ?_
  refine nn_new (ll' := zs_69) (ci := 9) (N := 7) (n := 32) (ts := [2, 2, 1, 1, 1, 1, 1]) dX11_init_110 wk_33 wk_34 wk_35 lay_X9 tyX9_ok rfl (by decide) df_X9 (by decide) rfl (by decide) (by decide +kernel) rfl rfl (GC.ok (by decide)) ⟨Nat.le_of_ble_eq_true rfl, Nat.le_of_ble_eq_true rfl⟩ (by decide +kernel) ?_
  refine nn_dup dX11_init_113 (fun z q => by cases q) ?_
  refine nn_aload_n dX11_init_114 rfl rfl ?_
  refine nn_getR (b := 0) dX11_init_115 fl_X11_10 rfl rfl ?_
  refine nn_aload_n dX11_init_118 rfl rfl ?_
  refine nn_getR (b := 15) dX11_init_119 fl_X11_44 rfl rfl ?_
  refine nn_callI (d := 1) (mc := 0) (ms := 0) (n0 := 33) (av := [.inr (.inr 1), .inr (.inr 16)]) (M' := mX9_init) ⟨Nat.le_of_ble_eq_true rfl, Nat.le_of_ble_eq_true rfl⟩ ⟨Nat.le_of_ble_eq_true rfl, Nat.le_of_ble_eq_true rfl⟩ dX11_init_122 mc_X9 wk_36 rfl rfl (by decide) rfl rfl rfl (GC.ok (by decide)) cn_X9_32 ?_
  rintro _ rfl
  refine nn_putRF (ll' := zs_72) (b := 31) dX11_init_125 fl_X11_65 rfl (by decide) (fun _ => ⟨rfl, rfl⟩) rfl (fun _ _ _ _ _ _ _ q => q) (by decide +kernel) ?_
  refine nn_aload_n dX11_init_128 rfl rfl ?_
  refine nn_new (ll' := zs_73) (ci := 0) (N := 11) (n := 33) (ts := [0, 0, 2, 2, 2, 2, 2, 2, 2, 2, 2]) dX11_init_129 wk_38 wk_39 wk_40 lay_X0 tyX0_ok rfl (by decide) df_X0 (by decide) rfl (by decide) (by decide +kernel) rfl rfl (GC.ok (by decide)) ⟨Nat.le_of_ble_eq_true rfl, Nat.le_of_ble_eq_true rfl⟩ (by decide +kernel) ?_
  refine nn_dup dX11_init_132 (fun z q => by cases q) ?_
  refine nn_aload_n dX11_init_133 rfl rfl ?_
  refine nn_getR (b := 0) dX11_init_134 fl_X11_10 rfl rfl ?_
  refine nn_aload_n dX11_init_137 rfl rfl ?_
  refine nn_getR (b := 15) dX11_init_138 fl_X11_44 rfl rfl ?_
  refine nn_callI (d := 1) (mc := 7) (ms := 2257) (n0 := 34) (av := [.inr (.inr 1), .inr (.inr 16)]) (M' := mX0_init) ⟨Nat.le_of_ble_eq_true rfl, Nat.le_of_ble_eq_true rfl⟩ ⟨Nat.le_of_ble_eq_true rfl, Nat.le_of_ble_eq_true rfl⟩ dX11_init_141 mc_X0 wk_41 rfl rfl (by decide) rfl rfl rfl (GC.ok (by decide)) cn_X0_33 ?_
  rintro _ rfl
  refine nn_putRF (ll' := zs_90) (b := 32) dX11_init_144 fl_X11_72 rfl (by decide) (fun _ => ⟨rfl, rfl⟩) rfl (fun _ _ _ _ _ _ _ q => q) (by decide +kernel) ?_
  refine nn_aload_n dX11_init_147 rfl rfl ?_
  refine nn_new (ll' := zs_91) (ci := 1) (N := 10) (n := 41) (ts := [0, 0, 0, 0, 2, 2, 2, 2, 2, 2]) dX11_init_148 wk_43 wk_44 wk_45 lay_X1 tyX1_ok rfl (by decide) df_X1 (by decide) rfl (by decide) (by decide +kernel) rfl rfl (GC.ok (by decide)) ⟨Nat.le_of_ble_eq_true rfl, Nat.le_of_ble_eq_true rfl⟩ (by decide +kernel) ?_
  refine nn_dup dX11_init_151 (fun z q => by cases q) ?_
  refine nn_aload_n dX11_init_152 rfl rfl ?_
  refine nn_getR (b := 0) dX11_init_153 fl_X11_10 rfl rfl ?_
  refine nn_aload_n dX11_init_156 rfl rfl ?_
  refine nn_getR (b := 15) dX11_init_157 fl_X11_44 rfl rfl ?_
  refine nn_aload_n dX11_init_160 rfl rfl ?_
  refine nn_getR (b := 22) dX11_init_161 fl_X11_48 rfl rfl ?_
  refine nn_callI (d := 1) (mc := 3) (ms := 751) (n0 := 42) (av := [.inr (.inr 1), .inr (.inr 16), .inr (.inr 23)]) (M' := mX1_init) ⟨Nat.le_of_ble_eq_true rfl, Nat.le_of_ble_eq_true rfl⟩ ⟨Nat.le_of_ble_eq_true rfl, Nat.le_of_ble_eq_true rfl⟩ dX11_init_164 mc_X1 wk_46 rfl rfl (by decide) rfl rfl rfl (GC.ok (by decide)) cn_X1_41 ?_
  rintro _ rfl
  refine nn_putRF (ll' := zs_101) (b := 40) dX11_init_167 fl_X11_81 rfl (by decide) (fun _ => ⟨rfl, rfl⟩) rfl (fun _ _ _ _ _ _ _ q => q) (by decide +kernel) ?_
  refine nn_aload_n dX11_init_170 rfl rfl ?_
  refine nn_new (ll' := zs_102) (ci := 4) (N := 6) (n := 45) (ts := [0, 0, 0, 0, 2, 2]) dX11_init_171 wk_48 wk_49 wk_50 lay_X4 tyX4_ok rfl (by decide) df_X4 (by decide) rfl (by decide) (by decide +kernel) rfl rfl (GC.ok (by decide)) ⟨Nat.le_of_ble_eq_true rfl, Nat.le_of_ble_eq_true rfl⟩ (by decide +kernel) ?_
  refine nn_dup dX11_init_174 (fun z q => by cases q) ?_
  refine nn_callIN (d := 1) (mc := 2) (ms := 40) (n0 := 46) (av := []) (M' := mX4_init) ⟨Nat.le_of_ble_eq_true rfl, Nat.le_of_ble_eq_true rfl⟩ ⟨Nat.le_of_ble_eq_true rfl, Nat.le_of_ble_eq_true rfl⟩ dX11_init_175 mc_X4 mn_X11_87 rfl rfl (by decide) rfl rfl rfl (GC.ok (by decide)) cn_X4_45 ?_
  rintro _ rfl
  refine nn_putRF (ll' := zs_107) (b := 44) dX11_init_178 fl_X11_88 rfl (by decide) (fun _ => ⟨rfl, rfl⟩) rfl (fun _ _ _ _ _ _ _ q => q) (by decide +kernel) ?_
  refine nn_aload_n dX11_init_181 rfl rfl ?_
  refine nn_new (ll' := zs_108) (ci := 6) (N := 5) (n := 48) (ts := [0, 0, 0, 0, 2]) dX11_init_182 wk_53 wk_54 wk_55 lay_X6 tyX6_ok rfl (by decide) df_X6 (by decide) rfl (by decide) (by decide +kernel) rfl rfl (GC.ok (by decide)) ⟨Nat.le_of_ble_eq_true rfl, Nat.le_of_ble_eq_true rfl⟩ (by decide +kernel) ?_
  refine nn_dup dX11_init_185 (fun z q => by cases q) ?_
  refine nn_aload_n dX11_init_186 rfl rfl ?_
  refine nn_getR (b := 15) dX11_init_187 fl_X11_44 rfl rfl ?_
  refine nn_callI (d := 1) (mc := 0) (ms := 0) (n0 := 49) (av := [.inr (.inr 16)]) (M' := mX6_init) ⟨Nat.le_of_ble_eq_true rfl, Nat.le_of_ble_eq_true rfl⟩ ⟨Nat.le_of_ble_eq_true rfl, Nat.le_of_ble_eq_true rfl⟩ dX11_init_190 mc_X6 wk_56 rfl rfl (by decide) rfl rfl rfl (GC.ok (by decide)) cn_X6_48 ?_
  rintro _ rfl
  refine nn_putRF (ll' := zs_110) (b := 47) dX11_init_193 fl_X11_97 rfl (by decide) (fun _ => ⟨rfl, rfl⟩) rfl (fun _ _ _ _ _ _ _ q => q) (by decide +kernel) ?_
  refine nn_aload_n dX11_init_196 rfl rfl ?_
  refine nn_iconst dX11_init_197 ?_
  refine nn_putZ dX11_init_198 fl_X11_101 rfl rfl (by decide) ?_
  refine WNc.toG (n := 49) (Pm := fun _ _ _ _ _ _ => True) (by decide +kernel) (by decide +kernel) (fun _ _ _ _ _ _ _ _ => trivial) (fun hz => ?_)
  have hz1 : Zr 49 (fX11_0 hZ0) := hz
  refine gg_aload_n dX11_init_201 rfl rfl ?_
  refine gg_getR dX11_init_202 fl_X11_44 (shq (Nat.le_of_ble_eq_true rfl) sh_0) rfl ?_
  refine gg_callVU (d := 5) ⟨Nat.le_of_ble_eq_true rfl, Nat.le_of_ble_eq_true rfl⟩ ⟨Nat.le_of_ble_eq_true rfl, Nat.le_of_ble_eq_true rfl⟩ (av := []) (M' := mX2_goHome) dX11_init_205 vX2_goHome ml_X11_105 (shq (Nat.le_of_ble_eq_true rfl) sh_16) (by decide) rfl rfl rfl rfl (by simp [wtA]) (sp_X2_goHome_16_q (by decide) (by decide) wok_C ?_)
  refine gg_aload_n dX11_init_208 rfl rfl ?_
  refine gg_getR dX11_init_209 fl_X11_48 (shq (Nat.le_of_ble_eq_true rfl) sh_0) rfl ?_
  refine gg_callVU (d := 5) ⟨Nat.le_of_ble_eq_true rfl, Nat.le_of_ble_eq_true rfl⟩ ⟨Nat.le_of_ble_eq_true rfl, Nat.le_of_ble_eq_true rfl⟩ (av := []) (M' := mX2_goHome) dX11_init_212 vX2_goHome ml_X11_105 (shq (Nat.le_of_ble_eq_true rfl) sh_23) (by decide) rfl rfl rfl rfl (by simp [wtA]) (sp_X2_goHome_23_q (by decide) (by decide) (wok_16 wok_C) ?_)
  exact gw_vret (by decide +kernel) dX11_init_215 rfl ⟨Nat.le_of_ble_eq_true rfl, Nat.le_of_ble_eq_true rfl⟩ (zr_23 (zr_16 hz1)) ⟨rfl, zr_23 (zr_16 hz1)⟩
