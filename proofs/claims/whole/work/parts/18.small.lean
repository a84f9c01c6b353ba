/-! CALLS THAT CHANGE A LITTLE: fault, miss, seen, forget, mark -/
def fnFault (a b c v : Int) : Int := if v = 0 then a else if v = 1 then b else if v = 2 then (if c = 0 then 0 else 1) else -1
theorem FrM.cg {h g : Hp} {a k : Nat} {z : Int} (f : FrM h g) : FrM (upH h a k z) (upH g a k z) := by
  intro p q hq
  unfold upH
  split
  · rfl
  · exact f p q hq
set_option maxRecDepth 20000 in
set_option maxHeartbeats 400000 in
theorem sp_X11_fault {d : Nat} (hd : 1 ≤ d) {v : Int} {h : Hp}  (hw : WOK h) (hv : R32 v) (h2 : R32 (h 14 2) ∧ R32 (h 14 3) ∧ R32 (h 0 12)) {P : Int → Hp → Prop} (k : ∀ h' : Hp, (FrC h h') → P (fnFault (h 14 2) (h 14 3) (h 0 12) v) h') : Cl d mX11_fault [.inr (.inr 0), .inl v] h (pI P) := by
  refine Cl.of (L := [some (.inr (.inr 0)), some (.inl v)]) (by decide +kernel) (Nat.le_of_ble_eq_true rfl) rfl ?_
  refine r_iload_n dX11_fault_0 rfl rfl ?_
  by_cases c_1_0 : v = 0
  · refine r_tsIn (off := 27) (tgt := 28) dX11_fault_1 c_1_0 ⟨by decide, by decide⟩ (by decide) (by decide) (by decide +kernel) rfl ?_
    refine r_aload_n dX11_fault_28 rfl rfl ?_
    refine r_getR dX11_fault_29 fl_X11_35 sh_0 rfl ?_
    refine r_getI dX11_fault_32 fl_X11_158 sh_14 rfl ?_
    refine r_iret dX11_fault_35 rfl ?_
    refine ⟨_, rfl, eqP (k h (FrC.rf hw)) ?_⟩
    unfold fnFault
    (repeat' split) <;> first | rfl | omega
  by_cases c_1_1 : v = 1
  · refine r_tsIn (off := 35) (tgt := 36) dX11_fault_1 c_1_1 ⟨by decide, by decide⟩ (by decide) (by decide) (by decide +kernel) rfl ?_
    refine r_aload_n dX11_fault_36 rfl rfl ?_
    refine r_getR dX11_fault_37 fl_X11_35 sh_0 rfl ?_
    refine r_getI dX11_fault_40 fl_X11_161 sh_14 rfl ?_
    refine r_iret dX11_fault_43 rfl ?_
    refine ⟨_, rfl, eqP (k h (FrC.rf hw)) ?_⟩
    unfold fnFault
    (repeat' split) <;> first | rfl | omega
  by_cases c_1_2 : v = 2
  · refine r_tsIn (off := 43) (tgt := 44) dX11_fault_1 c_1_2 ⟨by decide, by decide⟩ (by decide) (by decide) (by decide +kernel) rfl ?_
    refine r_aload_n dX11_fault_44 rfl rfl ?_
    refine r_getI dX11_fault_45 fl_X11_101 sh_0 rfl ?_
    refine r_if_eq (tgt := 55) dX11_fault_48 rfl (by omega) (fun c_48 => ?_) (fun c_48 => ?_)
    · refine r_iconst dX11_fault_55 ?_
      refine r_iret dX11_fault_56 rfl ?_
      refine ⟨_, rfl, eqP (k h (FrC.rf hw)) ?_⟩
      unfold fnFault
      (repeat' split) <;> first | rfl | omega
    · refine r_iconst dX11_fault_51 ?_
      refine r_goto (tgt := 56) dX11_fault_52 rfl ?_
      refine r_iret dX11_fault_56 rfl ?_
      refine ⟨_, rfl, eqP (k h (FrC.rf hw)) ?_⟩
      unfold fnFault
      (repeat' split) <;> first | rfl | omega
  refine r_tsOut (tgt := 57) dX11_fault_1 (by omega) (by omega) rfl ?_
  refine r_iconst dX11_fault_57 ?_
  refine r_iret dX11_fault_58 rfl ?_
  refine ⟨_, rfl, eqP (k h (FrC.rf hw)) ?_⟩
  unfold fnFault
  (repeat' split) <;> first | rfl | omega
set_option maxRecDepth 20000 in
set_option maxHeartbeats 400000 in
theorem sp_X12_fault {d : Nat} (hd : 1 ≤ d) {v : Int} {h : Hp}  (hw : MOK h) (hv : R32 v) (h2 : R32 (h 49 10) ∧ R32 (h 49 11) ∧ R32 (h 49 12)) {P : Int → Hp → Prop} (k : ∀ h' : Hp, (FrM h h') → P (fnFault (h 49 10) (h 49 11) (h 49 12) v) h') : Cl d mX12_fault [.inr (.inr 49), .inl v] h (pI P) := by
  refine Cl.of (L := [some (.inr (.inr 49)), some (.inl v)]) (by decide +kernel) (Nat.le_of_ble_eq_true rfl) rfl ?_
  refine r_aload_n dX12_fault_0 rfl rfl ?_
  refine r_iconst dX12_fault_1 ?_
  refine r_putI dX12_fault_2 fl_X12_127 sh_49 rfl ?_
  refine r_gh (fun g eg => ?_)
  have f : FrM h g := by rw [eg]; exact FrM.rf.up rfl
  have e3 : g 49 3 = h 49 3 := f 49 3 rfl
  have e4 : g 49 4 = h 49 4 := f 49 4 rfl
  have e5 : g 49 5 = h 49 5 := f 49 5 rfl
  have e6 : g 49 6 = h 49 6 := f 49 6 rfl
  have e7 : g 49 7 = h 49 7 := f 49 7 rfl
  have e8 : g 49 8 = h 49 8 := f 49 8 rfl
  have e10 : g 49 10 = h 49 10 := f 49 10 rfl
  have e11 : g 49 11 = h 49 11 := f 49 11 rfl
  have e12 : g 49 12 = h 49 12 := f 49 12 rfl
  have k := k g f
  try simp only [← e3, ← e4, ← e5, ← e6, ← e7, ← e8, ← e10, ← e11, ← e12] at k
  have w : MOK g := by omega
  refine r_iload_n dX12_fault_5 rfl rfl ?_
  refine r_if_ne (tgt := 16) dX12_fault_6 rfl (by omega) (fun c_6 => ?_) (fun c_6 => ?_)
  · refine r_iload_n dX12_fault_16 rfl rfl ?_
    refine r_iconst dX12_fault_17 ?_
    refine r_icmp_ne (tgt := 28) dX12_fault_18 rfl (by omega) ⟨by decide, by decide⟩ (fun c_18 => ?_) (fun c_18 => ?_)
    · refine r_iload_n dX12_fault_28 rfl rfl ?_
      refine r_iconst dX12_fault_29 ?_
      refine r_icmp_ne (tgt := 48) dX12_fault_30 rfl (by omega) ⟨by decide, by decide⟩ (fun c_30 => ?_) (fun c_30 => ?_)
      · refine r_iconst dX12_fault_48 ?_
        refine r_iret dX12_fault_49 rfl ?_
        refine ⟨_, rfl, eqP (k) ?_⟩
        unfold fnFault
        (repeat' split) <;> first | rfl | omega
      · refine r_aload_n dX12_fault_33 rfl rfl ?_
        refine r_getI dX12_fault_34 fl_X12_291 sh_49 rfl ?_
        refine r_if_eq (tgt := 44) dX12_fault_37 rfl (by omega) (fun c_37 => ?_) (fun c_37 => ?_)
        · refine r_iconst dX12_fault_44 ?_
          refine r_goto (tgt := 49) dX12_fault_45 rfl ?_
          refine r_iret dX12_fault_49 rfl ?_
          refine ⟨_, rfl, eqP (k) ?_⟩
          unfold fnFault
          (repeat' split) <;> first | rfl | omega
        · refine r_iconst dX12_fault_40 ?_
          refine r_goto (tgt := 49) dX12_fault_41 rfl ?_
          refine r_iret dX12_fault_49 rfl ?_
          refine ⟨_, rfl, eqP (k) ?_⟩
          unfold fnFault
          (repeat' split) <;> first | rfl | omega
    · refine r_aload_n dX12_fault_21 rfl rfl ?_
      refine r_getI dX12_fault_22 fl_X12_32 sh_49 rfl ?_
      refine r_goto (tgt := 49) dX12_fault_25 rfl ?_
      refine r_iret dX12_fault_49 rfl ?_
      refine ⟨_, rfl, eqP (k) ?_⟩
      unfold fnFault
      (repeat' split) <;> first | rfl | omega
  · refine r_aload_n dX12_fault_9 rfl rfl ?_
    refine r_getI dX12_fault_10 fl_X12_213 sh_49 rfl ?_
    refine r_goto (tgt := 49) dX12_fault_13 rfl ?_
    refine r_iret dX12_fault_49 rfl ?_
    refine ⟨_, rfl, eqP (k) ?_⟩
    unfold fnFault
    (repeat' split) <;> first | rfl | omega
theorem pr_fault {d : Nat} (hd : 20 ≤ d) {v : Int} (hv : R32 v) : PR d mX11_fault mX12_fault [.inl v] := by
  intro h r
  have r3 := r.2.2.1
  refine sp_X11_fault (by omega) r.1.1 hv ⟨r3.2.2.2.1, r3.2.2.2.2.1, by omega⟩ (fun h1 f => ?_)
  have r1 := f.rel r
  have q3 := r1.2.2.1
  refine sp_X12_fault (by omega) r1.1.2.1 hv (by rw [q3.1, q3.2.1, q3.2.2.1]; exact ⟨q3.2.2.2.1, q3.2.2.2.2.1, by omega⟩) (fun h2 f2 => ⟨?_, f2.rel r1⟩)
  rw [q3.1, q3.2.1, q3.2.2.1, f.1 14 2 rfl, f.1 14 3 rfl, f.1 0 12 rfl]
set_option maxRecDepth 20000 in
set_option maxHeartbeats 400000 in
theorem sp_X12_isMove {d : Nat} (hd : 1 ≤ d) {m : Int} {h : Hp}  (hm : R32 m) (hn : 0 ≤ (h 49 29) ∧ (h 49 29) ≤ 150) {P : Int → Hp → Prop} (kt : (0 ≤ m ∧ m < (h 49 29)) → P 1 h) (kf : ¬ (0 ≤ m ∧ m < (h 49 29)) → P 0 h) : Cl d mX12_isMove [.inr (.inr 49), .inl m] h (pI P) := by
  refine Cl.of (L := [some (.inr (.inr 49)), some (.inl m)]) (by decide +kernel) (Nat.le_of_ble_eq_true rfl) rfl ?_
  refine r_iload_n dX12_isMove_0 rfl rfl ?_
  refine r_if_lt (tgt := 16) dX12_isMove_1 rfl (by omega) (fun c_1 => ?_) (fun c_1 => ?_)
  · refine r_iconst dX12_isMove_16 ?_
    refine r_zret dX12_isMove_17 rfl (.inl rfl) ?_
    exact ⟨_, rfl, kf (by omega)⟩
  · refine r_iload_n dX12_isMove_4 rfl rfl ?_
    refine r_aload_n dX12_isMove_5 rfl rfl ?_
    refine r_getI dX12_isMove_6 fl_X12_164 sh_49 rfl ?_
    refine r_icmp_ge (tgt := 16) dX12_isMove_9 rfl (by omega) (by omega) (fun c_9 => ?_) (fun c_9 => ?_)
    · refine r_iconst dX12_isMove_16 ?_
      refine r_zret dX12_isMove_17 rfl (.inl rfl) ?_
      exact ⟨_, rfl, kf (by omega)⟩
    · refine r_iconst dX12_isMove_12 ?_
      refine r_goto (tgt := 17) dX12_isMove_13 rfl ?_
      refine r_zret dX12_isMove_17 rfl (.inr rfl) ?_
      exact ⟨_, rfl, kt (by omega)⟩
set_option maxRecDepth 20000 in
set_option maxHeartbeats 400000 in
theorem sp_X11_miss {d : Nat} (hd : 2 ≤ d) {m c n : Int} {h : Hp}  (hm : R32 m) (hc : R32 c) (hn : R32 n) (h2 : 0 ≤ (h 16 0) ∧ (h 16 0) ≤ 150) {P : Int → Hp → Prop} (kt : (0 ≤ m ∧ m < (h 16 0)) ∧ (c = 0 ∨ c = 1) ∧ (-9 ≤ n ∧ n ≤ 9) → P 1 (upH h 22 (2 * m + c).toNat n)) (kf : ¬ ((0 ≤ m ∧ m < (h 16 0)) ∧ (c = 0 ∨ c = 1) ∧ (-9 ≤ n ∧ n ≤ 9)) → P 0 h) : Cl d mX11_miss [.inr (.inr 0), .inl m, .inl c, .inl n] h (pI P) := by
  refine Cl.of (L := [some (.inr (.inr 0)), some (.inl m), some (.inl c), some (.inl n)]) (by decide +kernel) (Nat.le_of_ble_eq_true rfl) rfl ?_
  obtain ⟨d, rfl⟩ : ∃ q, d = q + 1 := ⟨d - 1, by omega⟩
  refine r_aload_n dX11_miss_0 rfl rfl ?_
  refine r_getR dX11_miss_1 fl_X11_44 sh_0 rfl ?_
  refine r_iload_n dX11_miss_4 rfl rfl ?_
  refine r_callVI (av := [_]) (M' := mX2_has) dX11_miss_5 vX2_has ml_X11_164 sh_16 (by decide) rfl rfl rfl rfl (by simp [wtA]) (sp_X2_has_16 (by omega) (by omega) h2 (fun b_5 => ?_) (fun b_5 => ?_))
  · refine r_if_eq (tgt := 29) dX11_miss_8 rfl ⟨by decide, by decide⟩ (fun c_8 => absurd c_8 (by decide)) (fun c_8 => ?_)
    refine r_iload_n dX11_miss_11 rfl rfl ?_
    refine r_callSI (av := [_]) (M' := mX11_isCord) dX11_miss_12 sX11_isCord ml_X11_204 rfl rfl (by simp [wtA]) (sp_X11_isCord (by omega) (by omega) (fun b_12 => ?_) (fun b_12 => ?_))
    · refine r_if_eq (tgt := 29) dX11_miss_15 rfl ⟨by decide, by decide⟩ (fun c_15 => absurd c_15 (by decide)) (fun c_15 => ?_)
      refine r_iload_n dX11_miss_18 rfl rfl ?_
      refine r_bipush dX11_miss_19 (by decide +kernel) ?_
      refine r_bipush dX11_miss_21 (by decide +kernel) ?_
      refine r_callSI (av := [_, _, _]) (M' := mX11_isWithin) dX11_miss_23 sX11_isWithin ml_X11_116 rfl rfl (by simp [wtA]) (sp_X11_isWithin (by omega) (by omega) (by omega) (by omega) (fun b_23 => ?_) (fun b_23 => ?_))
      · refine r_if_ne (tgt := 31) dX11_miss_26 rfl ⟨by decide, by decide⟩ (fun c_26 => ?_) (fun c_26 => absurd c_26 (by decide))
        refine r_aload_n dX11_miss_31 rfl rfl ?_
        refine r_getR dX11_miss_32 fl_X11_44 sh_0 rfl ?_
        refine r_getR dX11_miss_35 fl_X11_248 sh_16 rfl ?_
        refine r_iconst dX11_miss_38 ?_
        refine r_iload_n dX11_miss_39 rfl rfl ?_
        refine r_imul dX11_miss_40 ?_
        refine r_iload_n dX11_miss_41 rfl rfl ?_
        refine r_iadd dX11_miss_42 ?_
        refine r_iload_n dX11_miss_43 rfl rfl ?_
        refine r_iast dX11_miss_44 sh_22 (by decide) (by omega) ?_
        refine r_iconst dX11_miss_45 ?_
        refine r_zret dX11_miss_46 rfl (.inr rfl) ?_
        exact ⟨_, rfl, kt (by omega)⟩
      · refine r_if_ne (tgt := 31) dX11_miss_26 rfl ⟨by decide, by decide⟩ (fun c_26 => absurd c_26 (by decide)) (fun c_26 => ?_)
        refine r_iconst dX11_miss_29 ?_
        refine r_zret dX11_miss_30 rfl (.inl rfl) ?_
        exact ⟨_, rfl, kf (by omega)⟩
    · refine r_if_eq (tgt := 29) dX11_miss_15 rfl ⟨by decide, by decide⟩ (fun c_15 => ?_) (fun c_15 => absurd c_15 (by decide))
      refine r_iconst dX11_miss_29 ?_
      refine r_zret dX11_miss_30 rfl (.inl rfl) ?_
      exact ⟨_, rfl, kf (by omega)⟩
  · refine r_if_eq (tgt := 29) dX11_miss_8 rfl ⟨by decide, by decide⟩ (fun c_8 => ?_) (fun c_8 => absurd c_8 (by decide))
    refine r_iconst dX11_miss_29 ?_
    refine r_zret dX11_miss_30 rfl (.inl rfl) ?_
    exact ⟨_, rfl, kf (by omega)⟩
set_option maxRecDepth 20000 in
set_option maxHeartbeats 400000 in
theorem sp_X12_miss {d : Nat} (hd : 2 ≤ d) {m c n : Int} {h : Hp}  (hw : MOK h) (hm : R32 m) (hc : R32 c) (hn : R32 n) (h2 : 0 ≤ (h 49 29) ∧ (h 49 29) ≤ 150) {P : Int → Hp → Prop} (kt : (0 ≤ m ∧ m < (h 49 29)) ∧ (c = 0 ∨ c = 1) ∧ (-9 ≤ n ∧ n ≤ 9) → ∀ g : Hp, FrM (upH h 69 (2 * m + c).toNat n) g → P 1 g) (kf : ¬ ((0 ≤ m ∧ m < (h 49 29)) ∧ (c = 0 ∨ c = 1) ∧ (-9 ≤ n ∧ n ≤ 9)) → ∀ g : Hp, FrM h g → P 0 g) : Cl d mX12_miss [.inr (.inr 49), .inl m, .inl c, .inl n] h (pI P) := by
  refine Cl.of (L := [some (.inr (.inr 49)), some (.inl m), some (.inl c), some (.inl n)]) (by decide +kernel) (Nat.le_of_ble_eq_true rfl) rfl ?_
  obtain ⟨d, rfl⟩ : ∃ q, d = q + 1 := ⟨d - 1, by omega⟩
  refine r_aload_n dX12_miss_0 rfl rfl ?_
  refine r_iconst dX12_miss_1 ?_
  refine r_putI dX12_miss_2 fl_X12_127 sh_49 rfl ?_
  refine r_gh (fun g eg => ?_)
  have f : FrM h g := by rw [eg]; exact FrM.rf.up rfl
  have e3 : g 49 3 = h 49 3 := f 49 3 rfl
  have e4 : g 49 4 = h 49 4 := f 49 4 rfl
  have e5 : g 49 5 = h 49 5 := f 49 5 rfl
  have e6 : g 49 6 = h 49 6 := f 49 6 rfl
  have e7 : g 49 7 = h 49 7 := f 49 7 rfl
  have e8 : g 49 8 = h 49 8 := f 49 8 rfl
  have e29 : g 49 29 = h 49 29 := f 49 29 rfl
  have w : MOK g := by omega
  refine r_aload_n dX12_miss_5 rfl rfl ?_
  refine r_iload_n dX12_miss_6 rfl rfl ?_
  refine r_callVI (av := [_]) (M' := mX12_isMove) dX12_miss_7 vX12_isMove ml_X12_350 sh_49 (by decide) rfl rfl rfl rfl (by simp [wtA]) (sp_X12_isMove (by omega) (by omega) (by omega) (fun b_7 => ?_) (fun b_7 => ?_))
  · refine r_if_eq (tgt := 33) dX12_miss_10 rfl ⟨by decide, by decide⟩ (fun c_10 => absurd c_10 (by decide)) (fun c_10 => ?_)
    refine r_iload_n dX12_miss_13 rfl rfl ?_
    refine r_iconst dX12_miss_14 ?_
    refine r_iconst dX12_miss_15 ?_
    refine r_callSI (av := [_, _, _]) (M' := mX12_isIn) dX12_miss_16 sX12_isIn ml_X12_160 rfl rfl (by simp [wtA]) (sp_X12_isIn (by omega) (by omega) (by omega) (by omega) (fun b_16 => ?_) (fun b_16 => ?_))
    · refine r_if_eq (tgt := 33) dX12_miss_19 rfl ⟨by decide, by decide⟩ (fun c_19 => absurd c_19 (by decide)) (fun c_19 => ?_)
      refine r_iload_n dX12_miss_22 rfl rfl ?_
      refine r_bipush dX12_miss_23 (by decide +kernel) ?_
      refine r_bipush dX12_miss_25 (by decide +kernel) ?_
      refine r_callSI (av := [_, _, _]) (M' := mX12_isIn) dX12_miss_27 sX12_isIn ml_X12_160 rfl rfl (by simp [wtA]) (sp_X12_isIn (by omega) (by omega) (by omega) (by omega) (fun b_27 => ?_) (fun b_27 => ?_))
      · refine r_if_ne (tgt := 35) dX12_miss_30 rfl ⟨by decide, by decide⟩ (fun c_30 => ?_) (fun c_30 => absurd c_30 (by decide))
        refine r_aload_n dX12_miss_35 rfl rfl ?_
        refine r_getR dX12_miss_36 fl_X12_88 sh_49 rfl ?_
        refine r_iconst dX12_miss_39 ?_
        refine r_iload_n dX12_miss_40 rfl rfl ?_
        refine r_imul dX12_miss_41 ?_
        refine r_iload_n dX12_miss_42 rfl rfl ?_
        refine r_iadd dX12_miss_43 ?_
        refine r_iload_n dX12_miss_44 rfl rfl ?_
        refine r_iast dX12_miss_45 sh_69 (by decide) (by omega) ?_
        refine r_iconst dX12_miss_46 ?_
        refine r_zret dX12_miss_47 rfl (.inr rfl) ?_
        exact ⟨_, rfl, kt (by omega) _ f.cg⟩
      · refine r_if_ne (tgt := 35) dX12_miss_30 rfl ⟨by decide, by decide⟩ (fun c_30 => absurd c_30 (by decide)) (fun c_30 => ?_)
        refine r_iconst dX12_miss_33 ?_
        refine r_zret dX12_miss_34 rfl (.inl rfl) ?_
        exact ⟨_, rfl, kf (by omega) _ f⟩
    · refine r_if_eq (tgt := 33) dX12_miss_19 rfl ⟨by decide, by decide⟩ (fun c_19 => ?_) (fun c_19 => absurd c_19 (by decide))
      refine r_iconst dX12_miss_33 ?_
      refine r_zret dX12_miss_34 rfl (.inl rfl) ?_
      exact ⟨_, rfl, kf (by omega) _ f⟩
  · refine r_if_eq (tgt := 33) dX12_miss_10 rfl ⟨by decide, by decide⟩ (fun c_10 => ?_) (fun c_10 => absurd c_10 (by decide))
    refine r_iconst dX12_miss_33 ?_
    refine r_zret dX12_miss_34 rfl (.inl rfl) ?_
    exact ⟨_, rfl, kf (by omega) _ f⟩
theorem REL.miss {h : Hp} (r : REL h) {j : Nat} {n : Int} (hn : -9 ≤ n ∧ n ≤ 9) : REL (upH (upH h 22 j n) 69 j n) := by
  obtain ⟨r1, r2, r3, r4, r5, r6, r7, r8, r9, r10⟩ := r
  refine ⟨r1, r2, r3, r4, r5, ?_, r7, r8, r9, r10⟩
  intro i hi
  have := r6 i hi
  by_cases q : i = j
  · subst q
    rw [up_s, up_nc (by decide), up_s]
    exact ⟨rfl, hn⟩
  · rw [up_nk q, up_nk q, up_nc (by decide), up_nk q]
    exact this
theorem pr_miss {d : Nat} (hd : 20 ≤ d) {m c n : Int} (hm : R32 m) (hc : R32 c) (hn : R32 n) : PR d mX11_miss mX12_miss [.inl m, .inl c, .inl n] := by
  intro h r
  have r4 := r.2.2.2.1
  have b := r4.2.1
  have b2 := r4.2.2.1
  refine sp_X11_miss (by omega) hm hc hn (by omega) (fun C => ?_) (fun C => ?_)
  · refine sp_X12_miss (h := upH h 22 (2 * m + c).toNat n) (by omega) r.1.2.1 hm hc hn (show 0 ≤ h 49 29 ∧ h 49 29 ≤ 150 by omega) (fun _ g f => ⟨rfl, f.rel (r.miss C.2.2)⟩) (fun D => absurd (show (0 ≤ m ∧ m < h 49 29) ∧ (c = 0 ∨ c = 1) ∧ (-9 ≤ n ∧ n ≤ 9) by omega) D)
  · refine sp_X12_miss (by omega) r.1.2.1 hm hc hn (by omega) (fun D => absurd (show (0 ≤ m ∧ m < h 16 0) ∧ (c = 0 ∨ c = 1) ∧ (-9 ≤ n ∧ n ≤ 9) by omega) C) (fun _ g f => ⟨rfl, f.rel r⟩)
set_option maxRecDepth 20000 in
set_option maxHeartbeats 400000 in
theorem sp_X0_removeAll {d : Nat} (hd : 1 ≤ d) {h : Hp}   {P : Int → Hp → Prop} (k : P ((h 33 0)) (upH h 33 0 0)) : Cl d mX0_removeAll [.inr (.inr 33)] h (pI P) := by
  refine Cl.of (L := [some (.inr (.inr 33)), none]) (by decide +kernel) (Nat.le_of_ble_eq_true rfl) rfl ?_
  refine r_aload_n dX0_removeAll_0 rfl rfl ?_
  refine r_getI dX0_removeAll_1 fl_X0_11 sh_33 rfl ?_
  refine r_istore_n (L' := [_, _]) dX0_removeAll_4 rfl rfl (by decide) rfl ?_
  refine r_aload_n dX0_removeAll_5 rfl rfl ?_
  refine r_iconst dX0_removeAll_6 ?_
  refine r_putI dX0_removeAll_7 fl_X0_11 sh_33 rfl ?_
  refine r_iload_n dX0_removeAll_10 rfl rfl ?_
  refine r_iret dX0_removeAll_11 rfl ?_
  exact ⟨_, rfl, k⟩
set_option maxRecDepth 20000 in
set_option maxHeartbeats 400000 in
theorem sp_X11_forget {d : Nat} (hd : 2 ≤ d) {h : Hp}   {P : Int → Hp → Prop} (k : P ((h 33 0)) (upH h 33 0 0)) : Cl d mX11_forget [.inr (.inr 0)] h (pI P) := by
  refine Cl.of (L := [some (.inr (.inr 0))]) (by decide +kernel) (Nat.le_of_ble_eq_true rfl) rfl ?_
  obtain ⟨d, rfl⟩ : ∃ q, d = q + 1 := ⟨d - 1, by omega⟩
  refine r_aload_n dX11_forget_0 rfl rfl ?_
  refine r_getR dX11_forget_1 fl_X11_72 sh_0 rfl ?_
  refine r_callVI (av := []) (M' := mX0_removeAll) dX11_forget_4 vX0_removeAll ml_X11_257 sh_33 (by decide) rfl rfl rfl rfl (by simp [wtA]) (sp_X0_removeAll (by omega) ?_)
  refine r_iret dX11_forget_7 rfl ?_
  exact ⟨_, rfl, k⟩
set_option maxRecDepth 20000 in
set_option maxHeartbeats 400000 in
theorem sp_X12_forget {d : Nat} (hd : 1 ≤ d) {h : Hp}   {P : Int → Hp → Prop} (k : ∀ g : Hp, FrM (upH h 49 48 0) g → P (h 49 48) g) : Cl d mX12_forget [.inr (.inr 49)] h (pI P) := by
  refine Cl.of (L := [some (.inr (.inr 49)), none]) (by decide +kernel) (Nat.le_of_ble_eq_true rfl) rfl ?_
  refine r_aload_n dX12_forget_0 rfl rfl ?_
  refine r_iconst dX12_forget_1 ?_
  refine r_putI dX12_forget_2 fl_X12_127 sh_49 rfl ?_
  refine r_aload_n dX12_forget_5 rfl rfl ?_
  refine r_getI dX12_forget_6 fl_X12_177 sh_49 rfl ?_
  refine r_eqI (up_nk (by decide)) ?_
  refine r_istore_n (L' := [_, _]) dX12_forget_9 rfl rfl (by decide) rfl ?_
  refine r_aload_n dX12_forget_10 rfl rfl ?_
  refine r_iconst dX12_forget_11 ?_
  refine r_putI dX12_forget_12 fl_X12_177 sh_49 rfl ?_
  refine r_iload_n dX12_forget_15 rfl rfl ?_
  refine r_iret dX12_forget_16 rfl ?_
  refine ⟨_, rfl, k _ ?_⟩
  intro a j q
  unfold upH
  by_cases h1 : a = 49 ∧ j = 48
  · simp [h1]
  · by_cases h2 : a = 49 ∧ j = 2
    · rw [h2.1, h2.2] at q
      cases q
    · simp [h1, h2]
theorem REL.forget {h : Hp} (r : REL h) : REL (upH (upH h 33 0 0) 49 48 0) := by
  obtain ⟨r1, r2, r3, r4, r5, r6, r7, r8, r9, r10⟩ := r
  refine ⟨r1, r2, r3, r4, r5, r6, ⟨rfl, show (0 : Int) ≤ 0 by decide, show (0 : Int) ≤ 12 by decide, ?_, ?_⟩, r8, r9, r10⟩
  · intro k hk
    exact absurd (show (k : Int) < 0 from hk) (by omega)
  · intro k hk
    exact absurd (show ((k + 1 : Nat) : Int) < 0 from hk) (by omega)
theorem pr_forget {d : Nat} (hd : 20 ≤ d) : PR d mX11_forget mX12_forget [] := by
  intro h r
  refine sp_X11_forget (by omega) ?_
  exact sp_X12_forget (by omega) (fun g f => ⟨r.2.2.2.2.2.2.1.1.symm, f.rel r.forget⟩)
set_option maxRecDepth 20000 in
set_option maxHeartbeats 400000 in
theorem sp_X0_append {d : Nat} (hd : 1 ≤ d) {m x y : Int} {h : Hp}  (hn : 0 ≤ (h 33 0) ∧ (h 33 0) ≤ 12) (hm : R32 m) (hr : ∀ k : Nat, (k : Int) < (h 33 0) → R32 (h 36 k)) {P : Int → Hp → Prop} (kt : ((h 33 0) < 12 ∧ ((h 33 0) ≤ 0 ∨ h 36 ((h 33 0) - 1).toNat < m)) → P ((h 33 0) + 1) (upH (upH (upH (upH h 36 (h 33 0).toNat m) 37 (h 33 0).toNat x) 38 (h 33 0).toNat y) 33 0 ((h 33 0) + 1))) (kf : ¬ ((h 33 0) < 12 ∧ ((h 33 0) ≤ 0 ∨ h 36 ((h 33 0) - 1).toNat < m)) → P (-1) h) : Cl d mX0_append [.inr (.inr 33), .inl m, .inl x, .inl y] h (pI P) := by
  refine Cl.of (L := [some (.inr (.inr 33)), some (.inl m), some (.inl x), some (.inl y)]) (by decide +kernel) (Nat.le_of_ble_eq_true rfl) rfl ?_
  refine r_aload_n dX0_append_0 rfl rfl ?_
  refine r_getI dX0_append_1 fl_X0_11 sh_33 rfl ?_
  refine r_bipush dX0_append_4 (by decide +kernel) ?_
  refine r_icmp_ge (tgt := 31) dX0_append_6 rfl (by omega) ⟨by decide, by decide⟩ (fun c_6 => ?_) (fun c_6 => ?_)
  · refine r_iconst dX0_append_31 ?_
    refine r_iret dX0_append_32 rfl ?_
    exact ⟨_, rfl, kf (by omega)⟩
  · refine r_aload_n dX0_append_9 rfl rfl ?_
    refine r_getI dX0_append_10 fl_X0_11 sh_33 rfl ?_
    refine r_if_le (tgt := 33) dX0_append_13 rfl (by omega) (fun c_13 => ?_) (fun c_13 => ?_)
    · refine r_aload_n dX0_append_33 rfl rfl ?_
      refine r_getR dX0_append_34 fl_X0_25 sh_33 rfl ?_
      refine r_aload_n dX0_append_37 rfl rfl ?_
      refine r_getI dX0_append_38 fl_X0_11 sh_33 rfl ?_
      refine r_iload_n dX0_append_41 rfl rfl ?_
      refine r_iast dX0_append_42 sh_36 (by decide) (by omega) ?_
      refine r_aload_n dX0_append_43 rfl rfl ?_
      refine r_getR dX0_append_44 fl_X0_28 sh_33 rfl ?_
      refine r_aload_n dX0_append_47 rfl rfl ?_
      refine r_getI dX0_append_48 fl_X0_11 sh_33 rfl ?_
      refine r_eqI (up_nc (by decide)) ?_
      refine r_iload_n dX0_append_51 rfl rfl ?_
      refine r_iast dX0_append_52 sh_37 (by decide) (by omega) ?_
      refine r_aload_n dX0_append_53 rfl rfl ?_
      refine r_getR dX0_append_54 fl_X0_31 sh_33 rfl ?_
      refine r_aload_n dX0_append_57 rfl rfl ?_
      refine r_getI dX0_append_58 fl_X0_11 sh_33 rfl ?_
      refine r_eqI (((up_nc (by decide)).trans (up_nc (by decide)))) ?_
      refine r_iload_n dX0_append_61 rfl rfl ?_
      refine r_iast dX0_append_62 sh_38 (by decide) (by omega) ?_
      refine r_aload_n dX0_append_63 rfl rfl ?_
      refine r_dup dX0_append_64 (fun _ h => by cases h) ?_
      refine r_getI dX0_append_65 fl_X0_11 sh_33 rfl ?_
      refine r_eqI (((up_nc (by decide)).trans (((up_nc (by decide)).trans (up_nc (by decide)))))) ?_
      refine r_iconst dX0_append_68 ?_
      refine r_iadd dX0_append_69 ?_
      refine r_putI dX0_append_70 fl_X0_11 sh_33 rfl ?_
      refine r_aload_n dX0_append_73 rfl rfl ?_
      refine r_getI dX0_append_74 fl_X0_11 sh_33 rfl ?_
      refine r_eqI (up_s _ _ _ _) ?_
      refine r_iret dX0_append_77 rfl ?_
      exact ⟨_, rfl, kt (by omega)⟩
    · refine r_aload_n dX0_append_16 rfl rfl ?_
      refine r_getR dX0_append_17 fl_X0_25 sh_33 rfl ?_
      refine r_aload_n dX0_append_20 rfl rfl ?_
      refine r_getI dX0_append_21 fl_X0_11 sh_33 rfl ?_
      refine r_iconst dX0_append_24 ?_
      refine r_isub dX0_append_25 ?_
      refine r_iald dX0_append_26 sh_36 (by decide) (by omega) ?_
      refine r_iload_n dX0_append_27 rfl rfl ?_
      refine r_icmp_lt (tgt := 33) dX0_append_28 rfl (hr _ (by omega)) (by omega) (fun c_28 => ?_) (fun c_28 => ?_)
      · refine r_aload_n dX0_append_33 rfl rfl ?_
        refine r_getR dX0_append_34 fl_X0_25 sh_33 rfl ?_
        refine r_aload_n dX0_append_37 rfl rfl ?_
        refine r_getI dX0_append_38 fl_X0_11 sh_33 rfl ?_
        refine r_iload_n dX0_append_41 rfl rfl ?_
        refine r_iast dX0_append_42 sh_36 (by decide) (by omega) ?_
        refine r_aload_n dX0_append_43 rfl rfl ?_
        refine r_getR dX0_append_44 fl_X0_28 sh_33 rfl ?_
        refine r_aload_n dX0_append_47 rfl rfl ?_
        refine r_getI dX0_append_48 fl_X0_11 sh_33 rfl ?_
        refine r_eqI (up_nc (by decide)) ?_
        refine r_iload_n dX0_append_51 rfl rfl ?_
        refine r_iast dX0_append_52 sh_37 (by decide) (by omega) ?_
        refine r_aload_n dX0_append_53 rfl rfl ?_
        refine r_getR dX0_append_54 fl_X0_31 sh_33 rfl ?_
        refine r_aload_n dX0_append_57 rfl rfl ?_
        refine r_getI dX0_append_58 fl_X0_11 sh_33 rfl ?_
        refine r_eqI (((up_nc (by decide)).trans (up_nc (by decide)))) ?_
        refine r_iload_n dX0_append_61 rfl rfl ?_
        refine r_iast dX0_append_62 sh_38 (by decide) (by omega) ?_
        refine r_aload_n dX0_append_63 rfl rfl ?_
        refine r_dup dX0_append_64 (fun _ h => by cases h) ?_
        refine r_getI dX0_append_65 fl_X0_11 sh_33 rfl ?_
        refine r_eqI (((up_nc (by decide)).trans (((up_nc (by decide)).trans (up_nc (by decide)))))) ?_
        refine r_iconst dX0_append_68 ?_
        refine r_iadd dX0_append_69 ?_
        refine r_putI dX0_append_70 fl_X0_11 sh_33 rfl ?_
        refine r_aload_n dX0_append_73 rfl rfl ?_
        refine r_getI dX0_append_74 fl_X0_11 sh_33 rfl ?_
        refine r_eqI (up_s _ _ _ _) ?_
        refine r_iret dX0_append_77 rfl ?_
        exact ⟨_, rfl, kt (by omega)⟩
      · refine r_iconst dX0_append_31 ?_
        refine r_iret dX0_append_32 rfl ?_
        exact ⟨_, rfl, kf (by omega)⟩
set_option maxRecDepth 20000 in
set_option maxHeartbeats 400000 in
theorem sp_X11_seen {d : Nat} (hd : 2 ≤ d) {m x y : Int} {h : Hp}  (hn : 0 ≤ (h 33 0) ∧ (h 33 0) ≤ 12) (hm : R32 m) (hr : ∀ k : Nat, (k : Int) < (h 33 0) → R32 (h 36 k)) (h2 : 0 ≤ (h 16 0) ∧ (h 16 0) ≤ 150) {P : Int → Hp → Prop} (kt : ((0 ≤ m ∧ m < (h 16 0)) ∧ (h 33 0) < 12 ∧ ((h 33 0) ≤ 0 ∨ h 36 ((h 33 0) - 1).toNat < m)) → P ((h 33 0) + 1) (upH (upH (upH (upH h 36 (h 33 0).toNat m) 37 (h 33 0).toNat x) 38 (h 33 0).toNat y) 33 0 ((h 33 0) + 1))) (kf : ¬ ((0 ≤ m ∧ m < (h 16 0)) ∧ (h 33 0) < 12 ∧ ((h 33 0) ≤ 0 ∨ h 36 ((h 33 0) - 1).toNat < m)) → P (-1) h) : Cl d mX11_seen [.inr (.inr 0), .inl m, .inl x, .inl y] h (pI P) := by
  refine Cl.of (L := [some (.inr (.inr 0)), some (.inl m), some (.inl x), some (.inl y)]) (by decide +kernel) (Nat.le_of_ble_eq_true rfl) rfl ?_
  obtain ⟨d, rfl⟩ : ∃ q, d = q + 1 := ⟨d - 1, by omega⟩
  refine r_aload_n dX11_seen_0 rfl rfl ?_
  refine r_getR dX11_seen_1 fl_X11_44 sh_0 rfl ?_
  refine r_iload_n dX11_seen_4 rfl rfl ?_
  refine r_callVI (av := [_]) (M' := mX2_has) dX11_seen_5 vX2_has ml_X11_164 sh_16 (by decide) rfl rfl rfl rfl (by simp [wtA]) (sp_X2_has_16 (by omega) (by omega) h2 (fun b_5 => ?_) (fun b_5 => ?_))
  · refine r_if_eq (tgt := 24) dX11_seen_8 rfl ⟨by decide, by decide⟩ (fun c_8 => absurd c_8 (by decide)) (fun c_8 => ?_)
    refine r_aload_n dX11_seen_11 rfl rfl ?_
    refine r_getR dX11_seen_12 fl_X11_72 sh_0 rfl ?_
    refine r_iload_n dX11_seen_15 rfl rfl ?_
    refine r_iload_n dX11_seen_16 rfl rfl ?_
    refine r_iload_n dX11_seen_17 rfl rfl ?_
    refine r_callVI (av := [_, _, _]) (M' := mX0_append) dX11_seen_18 vX0_append ml_X11_255 sh_33 (by decide) rfl rfl rfl rfl (by simp [wtA]) (sp_X0_append (by omega) hn hm hr (fun C => ?_) (fun C => ?_))
    · refine r_goto (tgt := 25) dX11_seen_21 rfl ?_
      refine r_iret dX11_seen_25 rfl ?_
      exact ⟨_, rfl, kt ⟨b_5, C⟩⟩
    · refine r_goto (tgt := 25) dX11_seen_21 rfl ?_
      refine r_iret dX11_seen_25 rfl ?_
      exact ⟨_, rfl, kf (fun z => C z.2)⟩
  · refine r_if_eq (tgt := 24) dX11_seen_8 rfl ⟨by decide, by decide⟩ (fun c_8 => ?_) (fun c_8 => absurd c_8 (by decide))
    refine r_iconst dX11_seen_24 ?_
    refine r_iret dX11_seen_25 rfl ?_
    exact ⟨_, rfl, kf (by omega)⟩
set_option maxRecDepth 20000 in
set_option maxHeartbeats 400000 in
theorem sp_X12_seen {d : Nat} (hd : 2 ≤ d) {m x y : Int} {h : Hp}  (hw : MOK h) (hn : 0 ≤ (h 49 48) ∧ (h 49 48) ≤ 12) (hm : R32 m) (hr : ∀ k : Nat, (k : Int) < (h 49 48) → R32 (h 70 k)) (h2 : 0 ≤ (h 49 29) ∧ (h 49 29) ≤ 150) {P : Int → Hp → Prop} (kt : ((0 ≤ m ∧ m < (h 49 29)) ∧ (h 49 48) < 12 ∧ ((h 49 48) ≤ 0 ∨ h 70 ((h 49 48) - 1).toNat < m)) → ∀ g : Hp, FrM (upH (upH (upH (upH h 70 (h 49 48).toNat m) 71 (h 49 48).toNat x) 72 (h 49 48).toNat y) 49 48 ((h 49 48) + 1)) g → P ((h 49 48) + 1) g) (kf : ¬ ((0 ≤ m ∧ m < (h 49 29)) ∧ (h 49 48) < 12 ∧ ((h 49 48) ≤ 0 ∨ h 70 ((h 49 48) - 1).toNat < m)) → ∀ g : Hp, FrM h g → P (-1) g) : Cl d mX12_seen [.inr (.inr 49), .inl m, .inl x, .inl y] h (pI P) := by
  refine Cl.of (L := [some (.inr (.inr 49)), some (.inl m), some (.inl x), some (.inl y)]) (by decide +kernel) (Nat.le_of_ble_eq_true rfl) rfl ?_
  obtain ⟨d, rfl⟩ : ∃ q, d = q + 1 := ⟨d - 1, by omega⟩
  refine r_aload_n dX12_seen_0 rfl rfl ?_
  refine r_iconst dX12_seen_1 ?_
  refine r_putI dX12_seen_2 fl_X12_127 sh_49 rfl ?_
  refine r_gh (fun g eg => ?_)
  have f : FrM h g := by rw [eg]; exact FrM.rf.up rfl
  have e3 : g 49 3 = h 49 3 := f 49 3 rfl
  have e4 : g 49 4 = h 49 4 := f 49 4 rfl
  have e5 : g 49 5 = h 49 5 := f 49 5 rfl
  have e6 : g 49 6 = h 49 6 := f 49 6 rfl
  have e7 : g 49 7 = h 49 7 := f 49 7 rfl
  have e8 : g 49 8 = h 49 8 := f 49 8 rfl
  have e29 : g 49 29 = h 49 29 := f 49 29 rfl
  have e48 : g 49 48 = h 49 48 := f 49 48 rfl
  have ea70 : g 70 = h 70 := funext fun j => f 70 j rfl
  have w : MOK g := by omega
  refine r_aload_n dX12_seen_5 rfl rfl ?_
  refine r_iload_n dX12_seen_6 rfl rfl ?_
  refine r_callVI (av := [_]) (M' := mX12_isMove) dX12_seen_7 vX12_isMove ml_X12_350 sh_49 (by decide) rfl rfl rfl rfl (by simp [wtA]) (sp_X12_isMove (by omega) (by omega) (by omega) (fun b_7 => ?_) (fun b_7 => ?_))
  · refine r_if_eq (tgt := 44) dX12_seen_10 rfl ⟨by decide, by decide⟩ (fun c_10 => absurd c_10 (by decide)) (fun c_10 => ?_)
    refine r_aload_n dX12_seen_13 rfl rfl ?_
    refine r_getI dX12_seen_14 fl_X12_177 sh_49 rfl ?_
    refine r_bipush dX12_seen_17 (by decide +kernel) ?_
    refine r_icmp_eq (tgt := 44) dX12_seen_19 rfl (by omega) ⟨by decide, by decide⟩ (fun c_19 => ?_) (fun c_19 => ?_)
    · refine r_iconst dX12_seen_44 ?_
      refine r_iret dX12_seen_45 rfl ?_
      exact ⟨_, rfl, kf (by first | omega | (rw [← ea70, ← e48]; omega)) _ f⟩
    · refine r_aload_n dX12_seen_22 rfl rfl ?_
      refine r_getI dX12_seen_23 fl_X12_177 sh_49 rfl ?_
      refine r_if_le (tgt := 46) dX12_seen_26 rfl (by omega) (fun c_26 => ?_) (fun c_26 => ?_)
      · refine r_aload_n dX12_seen_46 rfl rfl ?_
        refine r_getR dX12_seen_47 fl_X12_91 sh_49 rfl ?_
        refine r_aload_n dX12_seen_50 rfl rfl ?_
        refine r_getI dX12_seen_51 fl_X12_177 sh_49 rfl ?_
        refine r_iload_n dX12_seen_54 rfl rfl ?_
        refine r_iast dX12_seen_55 sh_70 (by decide) (by omega) ?_
        refine r_aload_n dX12_seen_56 rfl rfl ?_
        refine r_getR dX12_seen_57 fl_X12_94 sh_49 rfl ?_
        refine r_aload_n dX12_seen_60 rfl rfl ?_
        refine r_getI dX12_seen_61 fl_X12_177 sh_49 rfl ?_
        refine r_eqI (up_nc (by decide)) ?_
        refine r_iload_n dX12_seen_64 rfl rfl ?_
        refine r_iast dX12_seen_65 sh_71 (by decide) (by omega) ?_
        refine r_aload_n dX12_seen_66 rfl rfl ?_
        refine r_getR dX12_seen_67 fl_X12_97 sh_49 rfl ?_
        refine r_aload_n dX12_seen_70 rfl rfl ?_
        refine r_getI dX12_seen_71 fl_X12_177 sh_49 rfl ?_
        refine r_eqI (((up_nc (by decide)).trans (up_nc (by decide)))) ?_
        refine r_iload_n dX12_seen_74 rfl rfl ?_
        refine r_iast dX12_seen_75 sh_72 (by decide) (by omega) ?_
        refine r_aload_n dX12_seen_76 rfl rfl ?_
        refine r_dup dX12_seen_77 (fun _ h => by cases h) ?_
        refine r_getI dX12_seen_78 fl_X12_177 sh_49 rfl ?_
        refine r_eqI (((up_nc (by decide)).trans (((up_nc (by decide)).trans (up_nc (by decide)))))) ?_
        refine r_iconst dX12_seen_81 ?_
        refine r_iadd dX12_seen_82 ?_
        refine r_putI dX12_seen_83 fl_X12_177 sh_49 rfl ?_
        refine r_aload_n dX12_seen_86 rfl rfl ?_
        refine r_getI dX12_seen_87 fl_X12_177 sh_49 rfl ?_
        refine r_eqI (up_s _ _ _ _) ?_
        refine r_iret dX12_seen_90 rfl ?_
        rw [e48]
        refine ⟨_, rfl, kt (by first | omega | (rw [← ea70, ← e48]; omega)) _ f.cg.cg.cg.cg⟩
      · refine r_iload_n dX12_seen_29 rfl rfl ?_
        refine r_aload_n dX12_seen_30 rfl rfl ?_
        refine r_getR dX12_seen_31 fl_X12_91 sh_49 rfl ?_
        refine r_aload_n dX12_seen_34 rfl rfl ?_
        refine r_getI dX12_seen_35 fl_X12_177 sh_49 rfl ?_
        refine r_iconst dX12_seen_38 ?_
        refine r_isub dX12_seen_39 ?_
        refine r_iald dX12_seen_40 sh_70 (by decide) (by omega) ?_
        have hz : R32 (g 70 (g 49 48 - 1).toNat) := by rw [ea70, e48]; exact hr _ (by omega)
        refine r_icmp_gt (tgt := 46) dX12_seen_41 rfl (by omega) (by omega) (fun c_41 => ?_) (fun c_41 => ?_)
        · refine r_aload_n dX12_seen_46 rfl rfl ?_
          refine r_getR dX12_seen_47 fl_X12_91 sh_49 rfl ?_
          refine r_aload_n dX12_seen_50 rfl rfl ?_
          refine r_getI dX12_seen_51 fl_X12_177 sh_49 rfl ?_
          refine r_iload_n dX12_seen_54 rfl rfl ?_
          refine r_iast dX12_seen_55 sh_70 (by decide) (by omega) ?_
          refine r_aload_n dX12_seen_56 rfl rfl ?_
          refine r_getR dX12_seen_57 fl_X12_94 sh_49 rfl ?_
          refine r_aload_n dX12_seen_60 rfl rfl ?_
          refine r_getI dX12_seen_61 fl_X12_177 sh_49 rfl ?_
          refine r_eqI (up_nc (by decide)) ?_
          refine r_iload_n dX12_seen_64 rfl rfl ?_
          refine r_iast dX12_seen_65 sh_71 (by decide) (by omega) ?_
          refine r_aload_n dX12_seen_66 rfl rfl ?_
          refine r_getR dX12_seen_67 fl_X12_97 sh_49 rfl ?_
          refine r_aload_n dX12_seen_70 rfl rfl ?_
          refine r_getI dX12_seen_71 fl_X12_177 sh_49 rfl ?_
          refine r_eqI (((up_nc (by decide)).trans (up_nc (by decide)))) ?_
          refine r_iload_n dX12_seen_74 rfl rfl ?_
          refine r_iast dX12_seen_75 sh_72 (by decide) (by omega) ?_
          refine r_aload_n dX12_seen_76 rfl rfl ?_
          refine r_dup dX12_seen_77 (fun _ h => by cases h) ?_
          refine r_getI dX12_seen_78 fl_X12_177 sh_49 rfl ?_
          refine r_eqI (((up_nc (by decide)).trans (((up_nc (by decide)).trans (up_nc (by decide)))))) ?_
          refine r_iconst dX12_seen_81 ?_
          refine r_iadd dX12_seen_82 ?_
          refine r_putI dX12_seen_83 fl_X12_177 sh_49 rfl ?_
          refine r_aload_n dX12_seen_86 rfl rfl ?_
          refine r_getI dX12_seen_87 fl_X12_177 sh_49 rfl ?_
          refine r_eqI (up_s _ _ _ _) ?_
          refine r_iret dX12_seen_90 rfl ?_
          rw [e48]
          refine ⟨_, rfl, kt (by first | omega | (rw [← ea70, ← e48]; omega)) _ f.cg.cg.cg.cg⟩
        · refine r_iconst dX12_seen_44 ?_
          refine r_iret dX12_seen_45 rfl ?_
          exact ⟨_, rfl, kf (by first | omega | (rw [← ea70, ← e48]; omega)) _ f⟩
  · refine r_if_eq (tgt := 44) dX12_seen_10 rfl ⟨by decide, by decide⟩ (fun c_10 => ?_) (fun c_10 => absurd c_10 (by decide))
    refine r_iconst dX12_seen_44 ?_
    refine r_iret dX12_seen_45 rfl ?_
    exact ⟨_, rfl, kf (by first | omega | (rw [← ea70, ← e48]; omega)) _ f⟩
theorem REL.seen {h : Hp} (r : REL h) {m x y : Int} (hm : 0 ≤ m ∧ m < h 16 0) (hx : R32 x) (hy : R32 y) (hn : h 33 0 < 12) (hl : h 33 0 ≤ 0 ∨ h 36 (h 33 0 - 1).toNat < m) :
    REL (upH (upH (upH (upH (upH (upH (upH (upH h 36 (h 33 0).toNat m) 37 (h 33 0).toNat x) 38 (h 33 0).toNat y) 33 0 (h 33 0 + 1)) 70 (h 33 0).toNat m) 71 (h 33 0).toNat x) 72 (h 33 0).toNat y) 49 48 (h 33 0 + 1)) := by
  obtain ⟨r1, r2, r3, r4, r5, r6, r7, r8, r9, r10⟩ := r
  obtain ⟨s1, s2, s3, s4, s5⟩ := r7
  refine ⟨r1, r2, r3, r4, r5, r6, ⟨rfl, show 0 ≤ h 33 0 + 1 by omega, show h 33 0 + 1 ≤ 12 by omega, ?_, ?_⟩, r8, r9, r10⟩
  · intro k hk
    have hk : (k : Int) < h 33 0 + 1 := hk
    simp only [upH]
    by_cases q : k = (h 33 0).toNat
    · simp [q]
      omega
    · simp [q]
      have := s4 k (by omega)
      omega
  · intro k hk
    have hk : ((k + 1 : Nat) : Int) < h 33 0 + 1 := hk
    show upH _ _ _ _ 36 k < upH _ _ _ _ 36 (k + 1)
    simp only [upH]
    by_cases q : k + 1 = (h 33 0).toNat
    · have q2 : k ≠ (h 33 0).toNat := by omega
      simp [q, q2]
      rw [show (h 33 0 - 1).toNat = k by omega] at hl
      omega
    · have q2 : k ≠ (h 33 0).toNat := by omega
      simp [q, q2]
      exact s5 k (by omega)
theorem pr_seen {d : Nat} (hd : 20 ≤ d) {m x y : Int} (hm : R32 m) (hx : R32 x) (hy : R32 y) : PR d mX11_seen mX12_seen [.inl m, .inl x, .inl y] := by
  intro h r
  have r4 := r.2.2.2.1
  have r7 := r.2.2.2.2.2.2.1
  have b := r4.2.1
  have b2 := r4.2.2.1
  have c1 := r4.1
  have c2 := r7.1
  have c3 := r7.2.1
  have c4 := r7.2.2.1
  have hr : ∀ k : Nat, (k : Int) < h 33 0 → R32 (h 36 k) := fun k hk => by have := r7.2.2.2.1 k hk; omega
  have hr2 : ∀ k : Nat, (k : Int) < h 49 48 → R32 (h 70 k) := fun k hk => by have := r7.2.2.2.1 k (by omega); omega
  have hl : 0 < h 33 0 → h 70 (h 33 0 - 1).toNat = h 36 (h 33 0 - 1).toNat := fun z => (r7.2.2.2.1 _ (by omega)).1
  refine sp_X11_seen (by omega) (by omega) hm hr (by omega) (fun C => ?_) (fun C => ?_)
  · refine sp_X12_seen (h := upH (upH (upH (upH h 36 (h 33 0).toNat m) 37 (h 33 0).toNat x) 38 (h 33 0).toNat y) 33 0 (h 33 0 + 1)) (by omega) r.1.2.1 (show 0 ≤ h 49 48 ∧ h 49 48 ≤ 12 by omega) hm hr2 (show 0 ≤ h 49 29 ∧ h 49 29 ≤ 150 by omega) (fun D g f => ?_) (fun D => absurd (show (0 ≤ m ∧ m < h 49 29) ∧ h 49 48 < 12 ∧ (h 49 48 ≤ 0 ∨ h 70 (h 49 48 - 1).toNat < m) from ?_) D)
    · refine ⟨show h 33 0 + 1 = h 49 48 + 1 by omega, FrM.rel (h := upH (upH (upH (upH (upH (upH (upH (upH h 36 (h 33 0).toNat m) 37 (h 33 0).toNat x) 38 (h 33 0).toNat y) 33 0 (h 33 0 + 1)) 70 (h 33 0).toNat m) 71 (h 33 0).toNat x) 72 (h 33 0).toNat y) 49 48 (h 33 0 + 1)) ?_ (r.seen C.1 hx hy C.2.1 C.2.2)⟩
      have f : FrM (upH (upH (upH (upH (upH (upH (upH (upH h 36 (h 33 0).toNat m) 37 (h 33 0).toNat x) 38 (h 33 0).toNat y) 33 0 (h 33 0 + 1)) 70 (h 49 48).toNat m) 71 (h 49 48).toNat x) 72 (h 49 48).toNat y) 49 48 (h 49 48 + 1)) g := f
      rw [c2] at f
      exact f
    · rw [c2]
      refine ⟨by omega, C.2.1, ?_⟩
      rcases C.2.2 with z | z
      · exact Or.inl z
      · by_cases q : h 33 0 ≤ 0
        · exact Or.inl q
        · rw [hl (by omega)]
          exact Or.inr z
  · refine sp_X12_seen (by omega) r.1.2.1 (by omega) hm hr2 (by omega) (fun D => absurd (show (0 ≤ m ∧ m < h 16 0) ∧ h 33 0 < 12 ∧ (h 33 0 ≤ 0 ∨ h 36 (h 33 0 - 1).toNat < m) from ?_) C) (fun _ g f => ⟨rfl, f.rel r⟩)
    rw [c2] at D
    refine ⟨by omega, D.2.1, ?_⟩
    rcases D.2.2 with z | z
    · exact Or.inl z
    · by_cases q : h 33 0 ≤ 0
      · exact Or.inl q
      · rw [hl (by omega)] at z
        exact Or.inr z
set_option maxRecDepth 20000 in
set_option maxHeartbeats 400000 in
theorem sp_X4_append {d : Nat} (hd : 1 ≤ d) {x y : Int} {h : Hp}  (hn : 0 ≤ (h 45 0) ∧ (h 45 0) ≤ 20) {P : Int → Hp → Prop} (kt : (h 45 0) < 20 → P ((h 45 0) + 1) (upH (upH (upH h 46 (h 45 0).toNat x) 47 (h 45 0).toNat y) 45 0 ((h 45 0) + 1))) (kf : ¬ ((h 45 0) < 20) → P (-1) h) : Cl d mX4_append [.inr (.inr 45), .inr (.inl x), .inr (.inl y)] h (pI P) := by
  refine Cl.of (L := [some (.inr (.inr 45)), some (.inr (.inl x)), none, some (.inr (.inl y)), none]) (by decide +kernel) (Nat.le_of_ble_eq_true rfl) rfl ?_
  refine r_aload_n dX4_append_0 rfl rfl ?_
  refine r_getI dX4_append_1 fl_X4_9 sh_45 rfl ?_
  refine r_bipush dX4_append_4 (by decide +kernel) ?_
  refine r_icmp_lt (tgt := 11) dX4_append_6 rfl (by omega) ⟨by decide, by decide⟩ (fun c_6 => ?_) (fun c_6 => ?_)
  · refine r_aload_n dX4_append_11 rfl rfl ?_
    refine r_getR dX4_append_12 fl_X4_24 sh_45 rfl ?_
    refine r_aload_n dX4_append_15 rfl rfl ?_
    refine r_getI dX4_append_16 fl_X4_9 sh_45 rfl ?_
    refine r_lload_n dX4_append_19 rfl rfl ?_
    refine r_last dX4_append_20 sh_46 (by decide) (by omega) ?_
    refine r_aload_n dX4_append_21 rfl rfl ?_
    refine r_getR dX4_append_22 fl_X4_28 sh_45 rfl ?_
    refine r_aload_n dX4_append_25 rfl rfl ?_
    refine r_getI dX4_append_26 fl_X4_9 sh_45 rfl ?_
    refine r_eqI (up_nc (by decide)) ?_
    refine r_lload_n dX4_append_29 rfl rfl ?_
    refine r_last dX4_append_30 sh_47 (by decide) (by omega) ?_
    refine r_aload_n dX4_append_31 rfl rfl ?_
    refine r_dup dX4_append_32 (fun _ h => by cases h) ?_
    refine r_getI dX4_append_33 fl_X4_9 sh_45 rfl ?_
    refine r_eqI (((up_nc (by decide)).trans (up_nc (by decide)))) ?_
    refine r_iconst dX4_append_36 ?_
    refine r_iadd dX4_append_37 ?_
    refine r_putI dX4_append_38 fl_X4_9 sh_45 rfl ?_
    refine r_aload_n dX4_append_41 rfl rfl ?_
    refine r_getI dX4_append_42 fl_X4_9 sh_45 rfl ?_
    refine r_eqI (up_s _ _ _ _) ?_
    refine r_iret dX4_append_45 rfl ?_
    exact ⟨_, rfl, kt (by omega)⟩
  · refine r_iconst dX4_append_9 ?_
    refine r_iret dX4_append_10 rfl ?_
    exact ⟨_, rfl, kf (by omega)⟩
set_option maxRecDepth 20000 in
set_option maxHeartbeats 400000 in
theorem sp_X11_mark {d : Nat} (hd : 2 ≤ d) {a b x y : Int} {h : Hp}  (hn : 0 ≤ (h 45 0) ∧ (h 45 0) ≤ 20) (ha : R32 a) (hb : R32 b) (hx : R32 x) (hy : R32 y) {P : Int → Hp → Prop} (kt : (h 45 0) < 20 → P ((h 45 0) + 1) (upH (upH (upH h 46 (h 45 0).toNat (x - a)) 47 (h 45 0).toNat (y - b)) 45 0 ((h 45 0) + 1))) (kf : ¬ ((h 45 0) < 20) → P (-1) h) : Cl d mX11_mark [.inr (.inr 0), .inl a, .inl b, .inl x, .inl y] h (pI P) := by
  refine Cl.of (L := [some (.inr (.inr 0)), some (.inl a), some (.inl b), some (.inl x), some (.inl y)]) (by decide +kernel) (Nat.le_of_ble_eq_true rfl) rfl ?_
  obtain ⟨d, rfl⟩ : ∃ q, d = q + 1 := ⟨d - 1, by omega⟩
  refine r_aload_n dX11_mark_0 rfl rfl ?_
  refine r_getR dX11_mark_1 fl_X11_88 sh_0 rfl ?_
  refine r_iload_n dX11_mark_4 rfl rfl ?_
  refine r_i2l dX11_mark_5 (by omega) ?_
  refine r_iload_n dX11_mark_6 rfl rfl ?_
  refine r_i2l dX11_mark_7 (by omega) ?_
  refine r_lsub dX11_mark_8 ?_
  refine r_iload dX11_mark_9 rfl ?_
  refine r_i2l dX11_mark_11 (by omega) ?_
  refine r_iload_n dX11_mark_12 rfl rfl ?_
  refine r_i2l dX11_mark_13 (by omega) ?_
  refine r_lsub dX11_mark_14 ?_
  refine r_callVI (av := [_, _]) (M' := mX4_append) dX11_mark_15 vX4_append ml_X11_305 sh_45 (by decide) rfl rfl rfl rfl (by simp [wtA]) (sp_X4_append (by omega) hn (fun C => ?_) (fun C => ?_))
  · refine r_iret dX11_mark_18 rfl ?_
    exact ⟨_, rfl, kt C⟩
  · refine r_iret dX11_mark_18 rfl ?_
    exact ⟨_, rfl, kf C⟩
set_option maxRecDepth 20000 in
set_option maxHeartbeats 400000 in
theorem sp_X12_mark {d : Nat} (hd : 2 ≤ d) {a b x y : Int} {h : Hp}  (hw : MOK h) (hn : 0 ≤ (h 49 60) ∧ (h 49 60) ≤ 20) {P : Int → Hp → Prop} (kt : (h 49 60) < 20 → ∀ g : Hp, FrM (upH (upH (upH (upH (upH h 80 (4 * (h 49 60)).toNat a) 80 (4 * (h 49 60) + 1).toNat b) 80 (4 * (h 49 60) + 2).toNat x) 80 (4 * (h 49 60) + 3).toNat y) 49 60 ((h 49 60) + 1)) g → P ((h 49 60) + 1) g) (kf : ¬ ((h 49 60) < 20) → ∀ g : Hp, FrM h g → P (-1) g) : Cl d mX12_mark [.inr (.inr 49), .inl a, .inl b, .inl x, .inl y] h (pI P) := by
  refine Cl.of (L := [some (.inr (.inr 49)), some (.inl a), some (.inl b), some (.inl x), some (.inl y)]) (by decide +kernel) (Nat.le_of_ble_eq_true rfl) rfl ?_
  obtain ⟨d, rfl⟩ : ∃ q, d = q + 1 := ⟨d - 1, by omega⟩
  refine r_aload_n dX12_mark_0 rfl rfl ?_
  refine r_iconst dX12_mark_1 ?_
  refine r_putI dX12_mark_2 fl_X12_127 sh_49 rfl ?_
  refine r_gh (fun g eg => ?_)
  have f : FrM h g := by rw [eg]; exact FrM.rf.up rfl
  have e3 : g 49 3 = h 49 3 := f 49 3 rfl
  have e4 : g 49 4 = h 49 4 := f 49 4 rfl
  have e5 : g 49 5 = h 49 5 := f 49 5 rfl
  have e6 : g 49 6 = h 49 6 := f 49 6 rfl
  have e7 : g 49 7 = h 49 7 := f 49 7 rfl
  have e8 : g 49 8 = h 49 8 := f 49 8 rfl
  have e60 : g 49 60 = h 49 60 := f 49 60 rfl
  have w : MOK g := by omega
  refine r_aload_n dX12_mark_5 rfl rfl ?_
  refine r_getI dX12_mark_6 fl_X12_424 sh_49 rfl ?_
  refine r_bipush dX12_mark_9 (by decide +kernel) ?_
  refine r_icmp_ne (tgt := 16) dX12_mark_11 rfl (by omega) ⟨by decide, by decide⟩ (fun c_11 => ?_) (fun c_11 => ?_)
  · refine r_aload_n dX12_mark_16 rfl rfl ?_
    refine r_getR dX12_mark_17 fl_X12_121 sh_49 rfl ?_
    refine r_iconst dX12_mark_20 ?_
    refine r_aload_n dX12_mark_21 rfl rfl ?_
    refine r_getI dX12_mark_22 fl_X12_424 sh_49 rfl ?_
    refine r_imul dX12_mark_25 ?_
    refine r_iload_n dX12_mark_26 rfl rfl ?_
    refine r_iast dX12_mark_27 sh_80 (by decide) (by omega) ?_
    refine r_aload_n dX12_mark_28 rfl rfl ?_
    refine r_getR dX12_mark_29 fl_X12_121 sh_49 rfl ?_
    refine r_iconst dX12_mark_32 ?_
    refine r_aload_n dX12_mark_33 rfl rfl ?_
    refine r_getI dX12_mark_34 fl_X12_424 sh_49 rfl ?_
    refine r_eqI (up_nc (by decide)) ?_
    refine r_imul dX12_mark_37 ?_
    refine r_iconst dX12_mark_38 ?_
    refine r_iadd dX12_mark_39 ?_
    refine r_iload_n dX12_mark_40 rfl rfl ?_
    refine r_iast dX12_mark_41 sh_80 (by decide) (by omega) ?_
    refine r_aload_n dX12_mark_42 rfl rfl ?_
    refine r_getR dX12_mark_43 fl_X12_121 sh_49 rfl ?_
    refine r_iconst dX12_mark_46 ?_
    refine r_aload_n dX12_mark_47 rfl rfl ?_
    refine r_getI dX12_mark_48 fl_X12_424 sh_49 rfl ?_
    refine r_eqI (((up_nc (by decide)).trans (up_nc (by decide)))) ?_
    refine r_imul dX12_mark_51 ?_
    refine r_iconst dX12_mark_52 ?_
    refine r_iadd dX12_mark_53 ?_
    refine r_iload_n dX12_mark_54 rfl rfl ?_
    refine r_iast dX12_mark_55 sh_80 (by decide) (by omega) ?_
    refine r_aload_n dX12_mark_56 rfl rfl ?_
    refine r_getR dX12_mark_57 fl_X12_121 sh_49 rfl ?_
    refine r_iconst dX12_mark_60 ?_
    refine r_aload_n dX12_mark_61 rfl rfl ?_
    refine r_getI dX12_mark_62 fl_X12_424 sh_49 rfl ?_
    refine r_eqI (((up_nc (by decide)).trans (((up_nc (by decide)).trans (up_nc (by decide)))))) ?_
    refine r_imul dX12_mark_65 ?_
    refine r_iconst dX12_mark_66 ?_
    refine r_iadd dX12_mark_67 ?_
    refine r_iload dX12_mark_68 rfl ?_
    refine r_iast dX12_mark_70 sh_80 (by decide) (by omega) ?_
    refine r_aload_n dX12_mark_71 rfl rfl ?_
    refine r_dup dX12_mark_72 (fun _ h => by cases h) ?_
    refine r_getI dX12_mark_73 fl_X12_424 sh_49 rfl ?_
    refine r_eqI (((up_nc (by decide)).trans (((up_nc (by decide)).trans (((up_nc (by decide)).trans (up_nc (by decide)))))))) ?_
    refine r_iconst dX12_mark_76 ?_
    refine r_iadd dX12_mark_77 ?_
    refine r_putI dX12_mark_78 fl_X12_424 sh_49 rfl ?_
    refine r_aload_n dX12_mark_81 rfl rfl ?_
    refine r_getI dX12_mark_82 fl_X12_424 sh_49 rfl ?_
    refine r_eqI (up_s _ _ _ _) ?_
    refine r_iret dX12_mark_85 rfl ?_
    rw [e60]
    exact ⟨_, rfl, kt (by omega) _ f.cg.cg.cg.cg.cg⟩
  · refine r_iconst dX12_mark_14 ?_
    refine r_iret dX12_mark_15 rfl ?_
    exact ⟨_, rfl, kf (by omega) _ f⟩
theorem REL.mark {h : Hp} (r : REL h) {a b x y : Int} (ha : R32 a) (hb : R32 b) (hx : R32 x) (hy : R32 y) (hn : h 45 0 < 20) :
    REL (upH (upH (upH (upH (upH (upH (upH (upH h 46 (h 45 0).toNat (x - a)) 47 (h 45 0).toNat (y - b)) 45 0 (h 45 0 + 1)) 80 (4 * h 45 0).toNat a) 80 (4 * h 45 0 + 1).toNat b) 80 (4 * h 45 0 + 2).toNat x) 80 (4 * h 45 0 + 3).toNat y) 49 60 (h 45 0 + 1)) := by
  obtain ⟨r1, r2, r3, r4, r5, r6, r7, r8, r9, r10⟩ := r
  obtain ⟨s1, s2, s3, s4⟩ := r8
  refine ⟨r1, r2, r3, r4, r5, r6, r7, ⟨rfl, show 0 ≤ h 45 0 + 1 by omega, show h 45 0 + 1 ≤ 20 by omega, ?_⟩, r9, r10⟩
  intro i hi
  have hi : (i : Int) < h 45 0 + 1 := hi
  have z1 : (4 * h 45 0).toNat = 4 * (h 45 0).toNat := by omega
  have z2 : (4 * h 45 0 + 1).toNat = 4 * (h 45 0).toNat + 1 := by omega
  have z3 : (4 * h 45 0 + 2).toNat = 4 * (h 45 0).toNat + 2 := by omega
  have z4 : (4 * h 45 0 + 3).toNat = 4 * (h 45 0).toNat + 3 := by omega
  rw [z1, z2, z3, z4]
  simp only [upH]
  by_cases q : i = (h 45 0).toNat
  · have q1 : ¬ 4 * (h 45 0).toNat = 4 * (h 45 0).toNat + 1 := by omega
    simp [q]
    omega
  · have t1 : ¬ 4 * i = 4 * (h 45 0).toNat := by omega
    have t2 : ¬ 4 * i + 1 = 4 * (h 45 0).toNat := by omega
    have t3 : ¬ 4 * i + 2 = 4 * (h 45 0).toNat := by omega
    have t4 : ¬ 4 * i + 3 = 4 * (h 45 0).toNat := by omega
    have u1 : ¬ 4 * i = 4 * (h 45 0).toNat + 1 := by omega
    have u2 : ¬ 4 * i = 4 * (h 45 0).toNat + 2 := by omega
    have u3 : ¬ 4 * i = 4 * (h 45 0).toNat + 3 := by omega
    have u4 : ¬ 4 * i + 1 = 4 * (h 45 0).toNat + 2 := by omega
    have u5 : ¬ 4 * i + 1 = 4 * (h 45 0).toNat + 3 := by omega
    have u6 : ¬ 4 * i + 2 = 4 * (h 45 0).toNat + 1 := by omega
    have u7 : ¬ 4 * i + 2 = 4 * (h 45 0).toNat + 3 := by omega
    have u8 : ¬ 4 * i + 3 = 4 * (h 45 0).toNat + 1 := by omega
    have u9 : ¬ 4 * i + 3 = 4 * (h 45 0).toNat + 2 := by omega
    simp [q, t1, t2, t3, t4, u1, u2, u3, u4, u5, u6, u7, u8, u9]
    have := s4 i (by omega)
    omega
theorem pr_mark {d : Nat} (hd : 20 ≤ d) {a b x y : Int} (ha : R32 a) (hb : R32 b) (hx : R32 x) (hy : R32 y) : PR d mX11_mark mX12_mark [.inl a, .inl b, .inl x, .inl y] := by
  intro h r
  have r8 := r.2.2.2.2.2.2.2.1
  have c1 := r8.1
  have c2 := r8.2.1
  have c3 := r8.2.2.1
  refine sp_X11_mark (by omega) (by omega) ha hb hx hy (fun C => ?_) (fun C => ?_)
  · refine sp_X12_mark (h := upH (upH (upH h 46 (h 45 0).toNat (x - a)) 47 (h 45 0).toNat (y - b)) 45 0 (h 45 0 + 1)) (by omega) r.1.2.1 (show 0 ≤ h 49 60 ∧ h 49 60 ≤ 20 by omega) (fun D g f => ?_) (fun D => absurd (show h 49 60 < 20 by omega) D)
    refine ⟨show h 45 0 + 1 = h 49 60 + 1 by omega, FrM.rel ?_ (r.mark ha hb hx hy C)⟩
    have f : FrM (upH (upH (upH (upH (upH (upH (upH (upH h 46 (h 45 0).toNat (x - a)) 47 (h 45 0).toNat (y - b)) 45 0 (h 45 0 + 1)) 80 (4 * h 49 60).toNat a) 80 (4 * h 49 60 + 1).toNat b) 80 (4 * h 49 60 + 2).toNat x) 80 (4 * h 49 60 + 3).toNat y) 49 60 (h 49 60 + 1)) g := f
    rw [c1] at f
    exact f
  · exact sp_X12_mark (by omega) r.1.2.1 (by omega) (fun D => absurd (show h 45 0 < 20 by omega) C) (fun _ g f => ⟨rfl, f.rel r⟩)
