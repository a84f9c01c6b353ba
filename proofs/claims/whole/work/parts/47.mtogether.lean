/-! TOGETHER, THE REFERENCE -/
set_option maxRecDepth 20000 in
set_option maxHeartbeats 400000 in
theorem sp_X12_comesFrom {d : Nat} (hd : 1 ≤ d) {x y t : Int} {h : Hp}  (hx : -1 ≤ x ∧ x ≤ 150) (hy : -1 ≤ y ∧ y ≤ 150) (hf : 0 ≤ x ∧ 0 ≤ y → R32 (h 76 (151 * x + y).toNat)) {P : Int → Hp → Prop} (k : P (if x < 0 ∨ y < 0 then 100000000 else ad (h 76 (151 * x + y).toNat) t) (h)) : Cl d mX12_comesFrom [.inr (.inr 49), .inl x, .inl y, .inl t] h (pI P) := by
  refine Cl.of (L := [some (.inr (.inr 49)), some (.inl x), some (.inl y), some (.inl t)]) (by decide +kernel) (Nat.le_of_ble_eq_true rfl) rfl ?_
  refine r_iload_n dX12_comesFrom_0 rfl rfl ?_
  refine r_if_lt (tgt := 26) dX12_comesFrom_1 rfl (by omega) (fun c_1 => ?_) (fun c_1 => ?_)
  · refine r_ldcw (z := 100000000) dX12_comesFrom_26 kc_X12_417 (by decide +kernel) ?_
    refine r_goto (tgt := 46) dX12_comesFrom_29 rfl ?_
    refine r_iret dX12_comesFrom_46 rfl ?_
    refine ⟨_, rfl, eqP k ?_⟩
    first
      | (rw [if_pos (by omega)])
      | (rw [if_neg (by omega)]
         unfold ad
         first
           | (rw [if_pos (by omega)])
           | (rw [if_neg (by omega)]))
  · refine r_iload_n dX12_comesFrom_4 rfl rfl ?_
    refine r_if_lt (tgt := 26) dX12_comesFrom_5 rfl (by omega) (fun c_5 => ?_) (fun c_5 => ?_)
    · refine r_ldcw (z := 100000000) dX12_comesFrom_26 kc_X12_417 (by decide +kernel) ?_
      refine r_goto (tgt := 46) dX12_comesFrom_29 rfl ?_
      refine r_iret dX12_comesFrom_46 rfl ?_
      refine ⟨_, rfl, eqP k ?_⟩
      first
        | (rw [if_pos (by omega)])
        | (rw [if_neg (by omega)]
           unfold ad
           first
             | (rw [if_pos (by omega)])
             | (rw [if_neg (by omega)]))
    · have hf := hf ⟨by omega, by omega⟩
      refine r_aload_n dX12_comesFrom_8 rfl rfl ?_
      refine r_getR dX12_comesFrom_9 fl_X12_109 sh_49 rfl ?_
      refine r_sipush dX12_comesFrom_12 (by decide +kernel) ?_
      refine r_iload_n dX12_comesFrom_15 rfl rfl ?_
      refine r_imul dX12_comesFrom_16 ?_
      refine r_iload_n dX12_comesFrom_17 rfl rfl ?_
      refine r_iadd dX12_comesFrom_18 ?_
      refine r_iald dX12_comesFrom_19 sh_76 (by decide) (by omega) ?_
      refine r_ldcw (z := 100000000) dX12_comesFrom_20 kc_X12_417 (by decide +kernel) ?_
      refine r_icmp_lt (tgt := 32) dX12_comesFrom_23 rfl (by omega) ⟨by decide, by decide⟩ (fun c_23 => ?_) (fun c_23 => ?_)
      · refine r_aload_n dX12_comesFrom_32 rfl rfl ?_
        refine r_getR dX12_comesFrom_33 fl_X12_109 sh_49 rfl ?_
        refine r_sipush dX12_comesFrom_36 (by decide +kernel) ?_
        refine r_iload_n dX12_comesFrom_39 rfl rfl ?_
        refine r_imul dX12_comesFrom_40 ?_
        refine r_iload_n dX12_comesFrom_41 rfl rfl ?_
        refine r_iadd dX12_comesFrom_42 ?_
        refine r_iald dX12_comesFrom_43 sh_76 (by decide) (by omega) ?_
        refine r_iload_n dX12_comesFrom_44 rfl rfl ?_
        refine r_iadd dX12_comesFrom_45 ?_
        refine r_iret dX12_comesFrom_46 rfl ?_
        refine ⟨_, rfl, eqP k ?_⟩
        first
          | (rw [if_pos (by omega)])
          | (rw [if_neg (by omega)]
             unfold ad
             first
               | (rw [if_pos (by omega)])
               | (rw [if_neg (by omega)]))
      · refine r_ldcw (z := 100000000) dX12_comesFrom_26 kc_X12_417 (by decide +kernel) ?_
        refine r_goto (tgt := 46) dX12_comesFrom_29 rfl ?_
        refine r_iret dX12_comesFrom_46 rfl ?_
        refine ⟨_, rfl, eqP k ?_⟩
        first
          | (rw [if_pos (by omega)])
          | (rw [if_neg (by omega)]
             unfold ad
             first
               | (rw [if_pos (by omega)])
               | (rw [if_neg (by omega)]))
set_option maxRecDepth 20000 in
set_option maxHeartbeats 400000 in
theorem lp_tg1 {d : Nat} (hd : 5 ≤ d) {post : Pst} {h : Hp} {v d0 : Int} {n1 n2 : Nat} {o4 o5 o6 o7 o8 : Option AV} (hw : MOK h) (hn : n1 ≤ 150 ∧ n2 ≤ 150) (hn1 : (h 49 29) = n1) (hn2 : (h 49 30) = n2) (hx : MXY (h 49 3) (h 49 4) (h 60) (h 61) 0 n1) (hx2 : MXY (h 49 3) (h 49 4) (h 60) (h 61) 151 n2) (K : ∀ (g : Hp) (o3 : Option AV), (∀ a j, a ≠ 77 → g a j = h a j) → (∀ j : Nat, j < n1 → g 77 (j + 1) = tkF (mL (h 49 5) (h 49 6) (h 60) (h 61)) (mR (h 49 3) (h 49 5) (h 49 6) (h 60) (h 61)) j) → WW mX12_together (d + 1) post 54 [some (.inr (.inr 49)), some (.inl v), some (.inl d0), o3, o4, o5, o6, o7, o8] [] g) : ∀ (nn : Nat) (i : Nat) (g : Hp), (i ≤ n1) → (∀ a j, a ≠ 77 → g a j = h a j) → (∀ j : Nat, j < i → g 77 (j + 1) = tkF (mL (h 49 5) (h 49 6) (h 60) (h 61)) (mR (h 49 3) (h 49 5) (h 49 6) (h 60) (h 61)) j) → n1 - i < nn → WW mX12_together (d + 1) post 27 [some (.inr (.inr 49)), some (.inl v), some (.inl d0), some (.inl (i : Int)), o4, o5, o6, o7, o8] [] g := by
  intro nn
  induction nn with
  | zero => intro i g hi hg h1; intros; omega
  | succ nn ih =>
    intro i g hi hg h1 hmu
    have w3 := hg 49 3 (by decide)
    have w4 := hg 49 4 (by decide)
    have w5 := hg 49 5 (by decide)
    have w6 := hg 49 6 (by decide)
    have w7 := hg 49 7 (by decide)
    have w8 := hg 49 8 (by decide)
    have w29 := hg 49 29 (by decide)
    have w30 := hg 49 30 (by decide)
    have gw : MOK g := by omega
    have v60 : g 60 = h 60 := funext fun j => hg 60 j (by decide)
    have v61 : g 61 = h 61 := funext fun j => hg 61 j (by decide)
    refine r_iload_n dX12_together_27 rfl rfl ?_
    refine r_aload_n dX12_together_28 rfl rfl ?_
    refine r_getI dX12_together_29 fl_X12_164 sh_49 rfl ?_
    refine r_icmp_ge (tgt := 54) dX12_together_32 rfl (by omega) (by omega) (fun c_32 => ?_) (fun c_32 => ?_)
    · have e : i = n1 := by omega
      subst e
      exact K g _ hg h1
    · refine r_aload_n dX12_together_35 rfl rfl ?_
      refine r_getR dX12_together_36 fl_X12_112 sh_49 rfl ?_
      refine r_iload_n dX12_together_39 rfl rfl ?_
      refine r_iconst dX12_together_40 ?_
      refine r_iadd dX12_together_41 ?_
      refine r_aload_n dX12_together_42 rfl rfl ?_
      refine r_iload_n dX12_together_43 rfl rfl ?_
      refine r_callVI (av := [_]) (M' := mX12_ticksOf) dX12_together_44 vX12_ticksOf ml_X12_356 sh_49 (by decide) rfl rfl rfl rfl (by simp [wtA]) (sp_X12_ticksOf (by omega) (by omega) (by omega) (fun p hp => by rw [v60, v61, w3, w4]; have := hx (p - 0) (by omega); rw [show 0 + (p - 0) = p by omega] at this; exact this) ?_)
      refine r_iast dX12_together_47 sh_77 (by decide) (by omega) ?_
      refine r_iinc (L' := [_, _, _, _, _, _, _, _, _]) dX12_together_48 rfl rfl (by decide) rfl ?_
      refine r_goto (tgt := 27) dX12_together_51 rfl ?_
      rw [w3, w5, w6, v60, v61, show ((i : Int) + 1).toNat = i + 1 by omega, show ((i : Int)).toNat = i by omega]
      refine ih (i + 1) _ (by omega) (fun a j y => by rw [up_nc y]; exact hg a j y) (fun j hj => ?_) (by omega)
      by_cases e : j = i
      · rw [e, up_s]
      · rw [up_nk (by omega)]; exact h1 j (by omega)
set_option maxRecDepth 20000 in
set_option maxHeartbeats 400000 in
theorem lp_tg2 {d : Nat} (hd : 5 ≤ d) {post : Pst} {h : Hp} {v d0 : Int} {n1 n2 : Nat} {o4 o5 o6 o7 o8 : Option AV} (hw : MOK h) (hn : n1 ≤ 150 ∧ n2 ≤ 150) (hn1 : (h 49 29) = n1) (hn2 : (h 49 30) = n2) (hx : MXY (h 49 3) (h 49 4) (h 60) (h 61) 0 n1) (hx2 : MXY (h 49 3) (h 49 4) (h 60) (h 61) 151 n2) (K : ∀ (g : Hp) (o3 : Option AV), (∀ a j, a ≠ 78 → g a j = h a j) → (∀ j : Nat, j < n2 → g 78 (j + 1) = tkF (mL (h 49 5) (h 49 6) (h 60) (h 61)) (mR (h 49 3) (h 49 5) (h 49 6) (h 60) (h 61)) (151 + j)) → WW mX12_together (d + 1) post 87 [some (.inr (.inr 49)), some (.inl v), some (.inl d0), o3, o4, o5, o6, o7, o8] [] g) : ∀ (nn : Nat) (i : Nat) (g : Hp), (i ≤ n2) → (∀ a j, a ≠ 78 → g a j = h a j) → (∀ j : Nat, j < i → g 78 (j + 1) = tkF (mL (h 49 5) (h 49 6) (h 60) (h 61)) (mR (h 49 3) (h 49 5) (h 49 6) (h 60) (h 61)) (151 + j)) → n2 - i < nn → WW mX12_together (d + 1) post 56 [some (.inr (.inr 49)), some (.inl v), some (.inl d0), some (.inl (i : Int)), o4, o5, o6, o7, o8] [] g := by
  intro nn
  induction nn with
  | zero => intro i g hi hg h1; intros; omega
  | succ nn ih =>
    intro i g hi hg h1 hmu
    have w3 := hg 49 3 (by decide)
    have w4 := hg 49 4 (by decide)
    have w5 := hg 49 5 (by decide)
    have w6 := hg 49 6 (by decide)
    have w7 := hg 49 7 (by decide)
    have w8 := hg 49 8 (by decide)
    have w29 := hg 49 29 (by decide)
    have w30 := hg 49 30 (by decide)
    have gw : MOK g := by omega
    have v60 : g 60 = h 60 := funext fun j => hg 60 j (by decide)
    have v61 : g 61 = h 61 := funext fun j => hg 61 j (by decide)
    refine r_iload_n dX12_together_56 rfl rfl ?_
    refine r_aload_n dX12_together_57 rfl rfl ?_
    refine r_getI dX12_together_58 fl_X12_171 sh_49 rfl ?_
    refine r_icmp_ge (tgt := 87) dX12_together_61 rfl (by omega) (by omega) (fun c_61 => ?_) (fun c_61 => ?_)
    · have e : i = n2 := by omega
      subst e
      exact K g _ hg h1
    · refine r_aload_n dX12_together_64 rfl rfl ?_
      refine r_getR dX12_together_65 fl_X12_115 sh_49 rfl ?_
      refine r_iload_n dX12_together_68 rfl rfl ?_
      refine r_iconst dX12_together_69 ?_
      refine r_iadd dX12_together_70 ?_
      refine r_aload_n dX12_together_71 rfl rfl ?_
      refine r_sipush dX12_together_72 (by decide +kernel) ?_
      refine r_iload_n dX12_together_75 rfl rfl ?_
      refine r_iadd dX12_together_76 ?_
      refine r_callVI (av := [_]) (M' := mX12_ticksOf) dX12_together_77 vX12_ticksOf ml_X12_356 sh_49 (by decide) rfl rfl rfl rfl (by simp [wtA]) (sp_X12_ticksOf (by omega) (by omega) (by omega) (fun p hp => by rw [v60, v61, w3, w4]; have := hx2 (p - 151) (by omega); rw [show 151 + (p - 151) = p by omega] at this; exact this) ?_)
      refine r_iast dX12_together_80 sh_78 (by decide) (by omega) ?_
      refine r_iinc (L' := [_, _, _, _, _, _, _, _, _]) dX12_together_81 rfl rfl (by decide) rfl ?_
      refine r_goto (tgt := 56) dX12_together_84 rfl ?_
      rw [w3, w5, w6, v60, v61, show ((i : Int) + 1).toNat = i + 1 by omega, show ((151 + (i : Int))).toNat = 151 + i by omega]
      refine ih (i + 1) _ (by omega) (fun a j y => by rw [up_nc y]; exact hg a j y) (fun j hj => ?_) (by omega)
      by_cases e : j = i
      · rw [e, up_s]
      · rw [up_nk (by omega)]; exact h1 j (by omega)
set_option maxRecDepth 20000 in
set_option maxHeartbeats 400000 in
theorem sg_tg109 {d : Nat} (hd : 5 ≤ d) {post : Pst} {g : Hp} {v d0 : Int} {i k : Nat} (hi : i ≤ 150) (hk : k ≤ 150) {o6 o7 o8 : Option AV} (K : ∀ z : Int, z = tgZ i k → WW mX12_together (d + 1) post 127 [some (.inr (.inr 49)), some (.inl v), some (.inl d0), some (.inl (i : Int)), some (.inl (k : Int)), some (.inl z), o6, o7, o8] [] g) : ∀ (nn : Nat) (o5 : Option AV), (True) → 0 < nn → WW mX12_together (d + 1) post 109 [some (.inr (.inr 49)), some (.inl v), some (.inl d0), some (.inl (i : Int)), some (.inl (k : Int)), o5, o6, o7, o8] [] g := by
  intro nn
  induction nn with
  | zero => intro o5 hu; intros; omega
  | succ nn ih =>
    intro o5 hu hmu
    refine r_iload_n dX12_together_109 rfl rfl ?_
    refine r_if_ne (tgt := 122) dX12_together_110 rfl (by omega) (fun c_110 => ?_) (fun c_110 => ?_)
    · refine r_ldcw (z := 100000000) dX12_together_122 kc_X12_417 (by decide +kernel) ?_
      refine r_istore (L' := [_, _, _, _, _, _, _, _, _]) dX12_together_125 rfl (by decide) rfl ?_
      refine K _ ?_
      unfold tgZ
      first
        | (rw [if_pos (by omega)])
        | (rw [if_neg (by omega)])
    · refine r_iload dX12_together_113 rfl ?_
      refine r_if_ne (tgt := 122) dX12_together_115 rfl (by omega) (fun c_115 => ?_) (fun c_115 => ?_)
      · refine r_ldcw (z := 100000000) dX12_together_122 kc_X12_417 (by decide +kernel) ?_
        refine r_istore (L' := [_, _, _, _, _, _, _, _, _]) dX12_together_125 rfl (by decide) rfl ?_
        refine K _ ?_
        unfold tgZ
        first
          | (rw [if_pos (by omega)])
          | (rw [if_neg (by omega)])
      · refine r_iconst dX12_together_118 ?_
        refine r_goto (tgt := 125) dX12_together_119 rfl ?_
        refine r_istore (L' := [_, _, _, _, _, _, _, _, _]) dX12_together_125 rfl (by decide) rfl ?_
        refine K _ ?_
        unfold tgZ
        first
          | (rw [if_pos (by omega)])
          | (rw [if_neg (by omega)])
set_option maxRecDepth 20000 in
set_option maxHeartbeats 400000 in
theorem sg_tg127 {d : Nat} (hd : 5 ≤ d) {post : Pst} {g : Hp} {v d0 : Int} {i k : Nat} (hi : i ≤ 150) (hk : k ≤ 150) {b : Int} {o7 o8 : Option AV} (hf : 0 < i → R32 (g 76 (151 * (i - 1) + k))) (K : ∀ z : Int, z = (if i = 0 then 100000000 else ad (g 76 (151 * (i - 1) + k)) (g 77 i)) → WW mX12_together (d + 1) post 152 [some (.inr (.inr 49)), some (.inl v), some (.inl d0), some (.inl (i : Int)), some (.inl (k : Int)), some (.inl b), some (.inl z), o7, o8] [] g) : ∀ (nn : Nat) (o6 : Option AV), (True) → 0 < nn → WW mX12_together (d + 1) post 127 [some (.inr (.inr 49)), some (.inl v), some (.inl d0), some (.inl (i : Int)), some (.inl (k : Int)), some (.inl b), o6, o7, o8] [] g := by
  intro nn
  induction nn with
  | zero => intro o6 hu; intros; omega
  | succ nn ih =>
    intro o6 hu hmu
    refine r_aload_n dX12_together_127 rfl rfl ?_
    refine r_iload_n dX12_together_128 rfl rfl ?_
    refine r_iconst dX12_together_129 ?_
    refine r_isub dX12_together_130 ?_
    refine r_iload dX12_together_131 rfl ?_
    refine r_iload_n dX12_together_133 rfl rfl ?_
    refine r_if_le (tgt := 146) dX12_together_134 rfl (by omega) (fun c_134 => ?_) (fun c_134 => ?_)
    · refine r_iconst dX12_together_146 ?_
      refine r_callVI (av := [_, _, _]) (M' := mX12_comesFrom) dX12_together_147 vX12_comesFrom ml_X12_418 sh_49 (by decide) rfl rfl rfl rfl (by simp [wtA]) (sp_X12_comesFrom (by omega) (by omega) (by omega) (fun z => by rw [show (151 * ((i : Int) - 1) + k).toNat = 151 * (i - 1) + k by omega]; exact hf (by omega)) ?_)
      refine r_istore (L' := [_, _, _, _, _, _, _, _, _]) dX12_together_150 rfl (by decide) rfl ?_
      refine K _ ?_
      first
        | (rw [if_pos (by omega), if_pos (by omega)])
        | (rw [if_neg (by omega), if_neg (by omega), show (151 * ((i : Int) - 1) + k).toNat = 151 * (i - 1) + k by omega, Int.toNat_natCast])
    · refine r_aload_n dX12_together_137 rfl rfl ?_
      refine r_getR dX12_together_138 fl_X12_112 sh_49 rfl ?_
      refine r_iload_n dX12_together_141 rfl rfl ?_
      refine r_iald dX12_together_142 sh_77 (by decide) (by omega) ?_
      refine r_goto (tgt := 147) dX12_together_143 rfl ?_
      refine r_callVI (av := [_, _, _]) (M' := mX12_comesFrom) dX12_together_147 vX12_comesFrom ml_X12_418 sh_49 (by decide) rfl rfl rfl rfl (by simp [wtA]) (sp_X12_comesFrom (by omega) (by omega) (by omega) (fun z => by rw [show (151 * ((i : Int) - 1) + k).toNat = 151 * (i - 1) + k by omega]; exact hf (by omega)) ?_)
      refine r_istore (L' := [_, _, _, _, _, _, _, _, _]) dX12_together_150 rfl (by decide) rfl ?_
      refine K _ ?_
      first
        | (rw [if_pos (by omega), if_pos (by omega)])
        | (rw [if_neg (by omega), if_neg (by omega), show (151 * ((i : Int) - 1) + k).toNat = 151 * (i - 1) + k by omega, Int.toNat_natCast])
set_option maxRecDepth 20000 in
set_option maxHeartbeats 400000 in
theorem sg_tg152 {d : Nat} (hd : 5 ≤ d) {post : Pst} {g : Hp} {v d0 : Int} {i k : Nat} (hi : i ≤ 150) (hk : k ≤ 150) {b a : Int} {o8 : Option AV} (hf : 0 < k → R32 (g 76 (151 * i + (k - 1)))) (K : ∀ z : Int, z = (if k = 0 then 100000000 else ad (g 76 (151 * i + (k - 1))) (g 78 k)) → WW mX12_together (d + 1) post 179 [some (.inr (.inr 49)), some (.inl v), some (.inl d0), some (.inl (i : Int)), some (.inl (k : Int)), some (.inl b), some (.inl a), some (.inl z), o8] [] g) : ∀ (nn : Nat) (o7 : Option AV), (True) → 0 < nn → WW mX12_together (d + 1) post 152 [some (.inr (.inr 49)), some (.inl v), some (.inl d0), some (.inl (i : Int)), some (.inl (k : Int)), some (.inl b), some (.inl a), o7, o8] [] g := by
  intro nn
  induction nn with
  | zero => intro o7 hu; intros; omega
  | succ nn ih =>
    intro o7 hu hmu
    refine r_aload_n dX12_together_152 rfl rfl ?_
    refine r_iload_n dX12_together_153 rfl rfl ?_
    refine r_iload dX12_together_154 rfl ?_
    refine r_iconst dX12_together_156 ?_
    refine r_isub dX12_together_157 ?_
    refine r_iload dX12_together_158 rfl ?_
    refine r_if_le (tgt := 173) dX12_together_160 rfl (by omega) (fun c_160 => ?_) (fun c_160 => ?_)
    · refine r_iconst dX12_together_173 ?_
      refine r_callVI (av := [_, _, _]) (M' := mX12_comesFrom) dX12_together_174 vX12_comesFrom ml_X12_418 sh_49 (by decide) rfl rfl rfl rfl (by simp [wtA]) (sp_X12_comesFrom (by omega) (by omega) (by omega) (fun z => by rw [show (151 * (i : Int) + ((k : Int) - 1)).toNat = 151 * i + (k - 1) by omega]; exact hf (by omega)) ?_)
      refine r_istore (L' := [_, _, _, _, _, _, _, _, _]) dX12_together_177 rfl (by decide) rfl ?_
      refine K _ ?_
      first
        | (rw [if_pos (by omega), if_pos (by omega)])
        | (rw [if_neg (by omega), if_neg (by omega), show (151 * (i : Int) + ((k : Int) - 1)).toNat = 151 * i + (k - 1) by omega, Int.toNat_natCast])
    · refine r_aload_n dX12_together_163 rfl rfl ?_
      refine r_getR dX12_together_164 fl_X12_115 sh_49 rfl ?_
      refine r_iload dX12_together_167 rfl ?_
      refine r_iald dX12_together_169 sh_78 (by decide) (by omega) ?_
      refine r_goto (tgt := 174) dX12_together_170 rfl ?_
      refine r_callVI (av := [_, _, _]) (M' := mX12_comesFrom) dX12_together_174 vX12_comesFrom ml_X12_418 sh_49 (by decide) rfl rfl rfl rfl (by simp [wtA]) (sp_X12_comesFrom (by omega) (by omega) (by omega) (fun z => by rw [show (151 * (i : Int) + ((k : Int) - 1)).toNat = 151 * i + (k - 1) by omega]; exact hf (by omega)) ?_)
      refine r_istore (L' := [_, _, _, _, _, _, _, _, _]) dX12_together_177 rfl (by decide) rfl ?_
      refine K _ ?_
      first
        | (rw [if_pos (by omega), if_pos (by omega)])
        | (rw [if_neg (by omega), if_neg (by omega), show (151 * (i : Int) + ((k : Int) - 1)).toNat = 151 * i + (k - 1) by omega, Int.toNat_natCast])
set_option maxRecDepth 20000 in
set_option maxHeartbeats 400000 in
theorem sg_tg179 {d : Nat} (hd : 5 ≤ d) {post : Pst} {g : Hp} {v d0 : Int} {i k : Nat} (hi : i ≤ 150) (hk : k ≤ 150) {b a c : Int} (hf : 0 < i → 0 < k → R32 (g 76 (151 * (i - 1) + (k - 1)))) (ht : 0 < i → 0 < k → R32 (g 77 i) ∧ R32 (g 78 k)) (K : ∀ z : Int, z = (if i = 0 ∨ k = 0 then 100000000 else ad (g 76 (151 * (i - 1) + (k - 1))) (max (g 77 i) (g 78 k))) → WW mX12_together (d + 1) post 239 [some (.inr (.inr 49)), some (.inl v), some (.inl d0), some (.inl (i : Int)), some (.inl (k : Int)), some (.inl b), some (.inl a), some (.inl c), some (.inl z)] [] g) : ∀ (nn : Nat) (o8 : Option AV), (True) → 0 < nn → WW mX12_together (d + 1) post 179 [some (.inr (.inr 49)), some (.inl v), some (.inl d0), some (.inl (i : Int)), some (.inl (k : Int)), some (.inl b), some (.inl a), some (.inl c), o8] [] g := by
  intro nn
  induction nn with
  | zero => intro o8 hu; intros; omega
  | succ nn ih =>
    intro o8 hu hmu
    refine r_iload_n dX12_together_179 rfl rfl ?_
    refine r_if_le (tgt := 234) dX12_together_180 rfl (by omega) (fun c_180 => ?_) (fun c_180 => ?_)
    · refine r_ldcw (z := 100000000) dX12_together_234 kc_X12_417 (by decide +kernel) ?_
      refine r_istore (L' := [_, _, _, _, _, _, _, _, _]) dX12_together_237 rfl (by decide) rfl ?_
      refine K _ ?_
      first
        | (rw [if_pos (show i = 0 ∨ k = 0 by omega)])
        | (rw [if_neg (by omega), if_neg (by omega), show (151 * ((i : Int) - 1) + ((k : Int) - 1)).toNat = 151 * (i - 1) + (k - 1) by omega]
           rw [Int.toNat_natCast, Int.toNat_natCast] at c_209
           rw [Int.toNat_natCast]
           first
             | (rw [show max (g 77 i) (g 78 k) = g 77 i by omega])
             | (rw [show max (g 77 i) (g 78 k) = g 78 k by omega]))
    · refine r_iload dX12_together_183 rfl ?_
      refine r_if_le (tgt := 234) dX12_together_185 rfl (by omega) (fun c_185 => ?_) (fun c_185 => ?_)
      · refine r_ldcw (z := 100000000) dX12_together_234 kc_X12_417 (by decide +kernel) ?_
        refine r_istore (L' := [_, _, _, _, _, _, _, _, _]) dX12_together_237 rfl (by decide) rfl ?_
        refine K _ ?_
        first
          | (rw [if_pos (show i = 0 ∨ k = 0 by omega)])
          | (rw [if_neg (by omega), if_neg (by omega), show (151 * ((i : Int) - 1) + ((k : Int) - 1)).toNat = 151 * (i - 1) + (k - 1) by omega]
             rw [Int.toNat_natCast, Int.toNat_natCast] at c_209
             rw [Int.toNat_natCast]
             first
               | (rw [show max (g 77 i) (g 78 k) = g 77 i by omega])
               | (rw [show max (g 77 i) (g 78 k) = g 78 k by omega]))
      · refine r_aload_n dX12_together_188 rfl rfl ?_
        refine r_iload_n dX12_together_189 rfl rfl ?_
        refine r_iconst dX12_together_190 ?_
        refine r_isub dX12_together_191 ?_
        refine r_iload dX12_together_192 rfl ?_
        refine r_iconst dX12_together_194 ?_
        refine r_isub dX12_together_195 ?_
        have ht := ht (by omega) (by omega)
        refine r_aload_n dX12_together_196 rfl rfl ?_
        refine r_getR dX12_together_197 fl_X12_112 sh_49 rfl ?_
        refine r_iload_n dX12_together_200 rfl rfl ?_
        refine r_iald dX12_together_201 sh_77 (by decide) (by omega) ?_
        refine r_aload_n dX12_together_202 rfl rfl ?_
        refine r_getR dX12_together_203 fl_X12_115 sh_49 rfl ?_
        refine r_iload dX12_together_206 rfl ?_
        refine r_iald dX12_together_208 sh_78 (by decide) (by omega) ?_
        refine r_icmp_le (tgt := 221) dX12_together_209 rfl (by rw [Int.toNat_natCast]; omega) (by rw [Int.toNat_natCast]; omega) (fun c_209 => ?_) (fun c_209 => ?_)
        · refine r_aload_n dX12_together_221 rfl rfl ?_
          refine r_getR dX12_together_222 fl_X12_115 sh_49 rfl ?_
          refine r_iload dX12_together_225 rfl ?_
          refine r_iald dX12_together_227 sh_78 (by decide) (by omega) ?_
          refine r_callVI (av := [_, _, _]) (M' := mX12_comesFrom) dX12_together_228 vX12_comesFrom ml_X12_418 sh_49 (by decide) rfl rfl rfl rfl (by simp [wtA]) (sp_X12_comesFrom (by omega) (by omega) (by omega) (fun z => by rw [show (151 * ((i : Int) - 1) + ((k : Int) - 1)).toNat = 151 * (i - 1) + (k - 1) by omega]; exact hf (by omega) (by omega)) ?_)
          refine r_goto (tgt := 237) dX12_together_231 rfl ?_
          refine r_istore (L' := [_, _, _, _, _, _, _, _, _]) dX12_together_237 rfl (by decide) rfl ?_
          refine K _ ?_
          first
            | (rw [if_pos (show i = 0 ∨ k = 0 by omega)])
            | (rw [if_neg (by omega), if_neg (by omega), show (151 * ((i : Int) - 1) + ((k : Int) - 1)).toNat = 151 * (i - 1) + (k - 1) by omega]
               rw [Int.toNat_natCast, Int.toNat_natCast] at c_209
               rw [Int.toNat_natCast]
               first
                 | (rw [show max (g 77 i) (g 78 k) = g 77 i by omega])
                 | (rw [show max (g 77 i) (g 78 k) = g 78 k by omega]))
        · refine r_aload_n dX12_together_212 rfl rfl ?_
          refine r_getR dX12_together_213 fl_X12_112 sh_49 rfl ?_
          refine r_iload_n dX12_together_216 rfl rfl ?_
          refine r_iald dX12_together_217 sh_77 (by decide) (by omega) ?_
          refine r_goto (tgt := 228) dX12_together_218 rfl ?_
          refine r_callVI (av := [_, _, _]) (M' := mX12_comesFrom) dX12_together_228 vX12_comesFrom ml_X12_418 sh_49 (by decide) rfl rfl rfl rfl (by simp [wtA]) (sp_X12_comesFrom (by omega) (by omega) (by omega) (fun z => by rw [show (151 * ((i : Int) - 1) + ((k : Int) - 1)).toNat = 151 * (i - 1) + (k - 1) by omega]; exact hf (by omega) (by omega)) ?_)
          refine r_goto (tgt := 237) dX12_together_231 rfl ?_
          refine r_istore (L' := [_, _, _, _, _, _, _, _, _]) dX12_together_237 rfl (by decide) rfl ?_
          refine K _ ?_
          first
            | (rw [if_pos (show i = 0 ∨ k = 0 by omega)])
            | (rw [if_neg (by omega), if_neg (by omega), show (151 * ((i : Int) - 1) + ((k : Int) - 1)).toNat = 151 * (i - 1) + (k - 1) by omega]
               rw [Int.toNat_natCast, Int.toNat_natCast] at c_209
               rw [Int.toNat_natCast]
               first
                 | (rw [show max (g 77 i) (g 78 k) = g 77 i by omega])
                 | (rw [show max (g 77 i) (g 78 k) = g 78 k by omega]))
set_option maxRecDepth 20000 in
set_option maxHeartbeats 400000 in
theorem sg_tg239 {d : Nat} (hd : 5 ≤ d) {post : Pst} {g : Hp} {v d0 : Int} {i k : Nat} (hi : i ≤ 150) (hk : k ≤ 150) {b a c e : Int} (h1 : R32 a) (h2 : R32 b) (h3 : R32 c) (h4 : R32 e) (K : ∀ z : Int, z = min (min (min b a) c) e → WW mX12_together (d + 1) post 287 [some (.inr (.inr 49)), some (.inl v), some (.inl d0), some (.inl (i : Int)), some (.inl (k : Int)), some (.inl z), some (.inl a), some (.inl c), some (.inl e)] [] g) : ∀ (nn : Nat) (u : Unit), (True) → 0 < nn → WW mX12_together (d + 1) post 239 [some (.inr (.inr 49)), some (.inl v), some (.inl d0), some (.inl (i : Int)), some (.inl (k : Int)), some (.inl b), some (.inl a), some (.inl c), some (.inl e)] [] g := by
  intro nn
  induction nn with
  | zero => intro u hu; intros; omega
  | succ nn ih =>
    intro u hu hmu
    refine r_iload dX12_together_239 rfl ?_
    refine r_iload dX12_together_241 rfl ?_
    refine r_icmp_ge (tgt := 251) dX12_together_243 rfl (by omega) (by omega) (fun c_243 => ?_) (fun c_243 => ?_)
    · refine r_iload dX12_together_251 rfl ?_
      refine r_nmI (fun b1 e_b1 => ?_)
      refine r_istore (L' := [_, _, _, _, _, _, _, _, _]) dX12_together_253 rfl (by decide) rfl ?_
      refine r_iload dX12_together_255 rfl ?_
      refine r_iload dX12_together_257 rfl ?_
      refine r_icmp_ge (tgt := 267) dX12_together_259 rfl (by omega) (by omega) (fun c_259 => ?_) (fun c_259 => ?_)
      · refine r_iload dX12_together_267 rfl ?_
        refine r_nmI (fun b2 e_b2 => ?_)
        refine r_istore (L' := [_, _, _, _, _, _, _, _, _]) dX12_together_269 rfl (by decide) rfl ?_
        refine r_iload dX12_together_271 rfl ?_
        refine r_iload dX12_together_273 rfl ?_
        refine r_icmp_ge (tgt := 283) dX12_together_275 rfl (by omega) (by omega) (fun c_275 => ?_) (fun c_275 => ?_)
        · refine r_iload dX12_together_283 rfl ?_
          refine r_nmI (fun b3 e_b3 => ?_)
          refine r_istore (L' := [_, _, _, _, _, _, _, _, _]) dX12_together_285 rfl (by decide) rfl ?_
          refine K _ ?_
          omega
        · refine r_iload dX12_together_278 rfl ?_
          refine r_goto (tgt := 285) dX12_together_280 rfl ?_
          refine r_nmI (fun b3 e_b3 => ?_)
          refine r_istore (L' := [_, _, _, _, _, _, _, _, _]) dX12_together_285 rfl (by decide) rfl ?_
          refine K _ ?_
          omega
      · refine r_iload dX12_together_262 rfl ?_
        refine r_goto (tgt := 269) dX12_together_264 rfl ?_
        refine r_nmI (fun b2 e_b2 => ?_)
        refine r_istore (L' := [_, _, _, _, _, _, _, _, _]) dX12_together_269 rfl (by decide) rfl ?_
        refine r_iload dX12_together_271 rfl ?_
        refine r_iload dX12_together_273 rfl ?_
        refine r_icmp_ge (tgt := 283) dX12_together_275 rfl (by omega) (by omega) (fun c_275 => ?_) (fun c_275 => ?_)
        · refine r_iload dX12_together_283 rfl ?_
          refine r_nmI (fun b3 e_b3 => ?_)
          refine r_istore (L' := [_, _, _, _, _, _, _, _, _]) dX12_together_285 rfl (by decide) rfl ?_
          refine K _ ?_
          omega
        · refine r_iload dX12_together_278 rfl ?_
          refine r_goto (tgt := 285) dX12_together_280 rfl ?_
          refine r_nmI (fun b3 e_b3 => ?_)
          refine r_istore (L' := [_, _, _, _, _, _, _, _, _]) dX12_together_285 rfl (by decide) rfl ?_
          refine K _ ?_
          omega
    · refine r_iload dX12_together_246 rfl ?_
      refine r_goto (tgt := 253) dX12_together_248 rfl ?_
      refine r_nmI (fun b1 e_b1 => ?_)
      refine r_istore (L' := [_, _, _, _, _, _, _, _, _]) dX12_together_253 rfl (by decide) rfl ?_
      refine r_iload dX12_together_255 rfl ?_
      refine r_iload dX12_together_257 rfl ?_
      refine r_icmp_ge (tgt := 267) dX12_together_259 rfl (by omega) (by omega) (fun c_259 => ?_) (fun c_259 => ?_)
      · refine r_iload dX12_together_267 rfl ?_
        refine r_nmI (fun b2 e_b2 => ?_)
        refine r_istore (L' := [_, _, _, _, _, _, _, _, _]) dX12_together_269 rfl (by decide) rfl ?_
        refine r_iload dX12_together_271 rfl ?_
        refine r_iload dX12_together_273 rfl ?_
        refine r_icmp_ge (tgt := 283) dX12_together_275 rfl (by omega) (by omega) (fun c_275 => ?_) (fun c_275 => ?_)
        · refine r_iload dX12_together_283 rfl ?_
          refine r_nmI (fun b3 e_b3 => ?_)
          refine r_istore (L' := [_, _, _, _, _, _, _, _, _]) dX12_together_285 rfl (by decide) rfl ?_
          refine K _ ?_
          omega
        · refine r_iload dX12_together_278 rfl ?_
          refine r_goto (tgt := 285) dX12_together_280 rfl ?_
          refine r_nmI (fun b3 e_b3 => ?_)
          refine r_istore (L' := [_, _, _, _, _, _, _, _, _]) dX12_together_285 rfl (by decide) rfl ?_
          refine K _ ?_
          omega
      · refine r_iload dX12_together_262 rfl ?_
        refine r_goto (tgt := 269) dX12_together_264 rfl ?_
        refine r_nmI (fun b2 e_b2 => ?_)
        refine r_istore (L' := [_, _, _, _, _, _, _, _, _]) dX12_together_269 rfl (by decide) rfl ?_
        refine r_iload dX12_together_271 rfl ?_
        refine r_iload dX12_together_273 rfl ?_
        refine r_icmp_ge (tgt := 283) dX12_together_275 rfl (by omega) (by omega) (fun c_275 => ?_) (fun c_275 => ?_)
        · refine r_iload dX12_together_283 rfl ?_
          refine r_nmI (fun b3 e_b3 => ?_)
          refine r_istore (L' := [_, _, _, _, _, _, _, _, _]) dX12_together_285 rfl (by decide) rfl ?_
          refine K _ ?_
          omega
        · refine r_iload dX12_together_278 rfl ?_
          refine r_goto (tgt := 285) dX12_together_280 rfl ?_
          refine r_nmI (fun b3 e_b3 => ?_)
          refine r_istore (L' := [_, _, _, _, _, _, _, _, _]) dX12_together_285 rfl (by decide) rfl ?_
          refine K _ ?_
          omega
set_option maxRecDepth 20000 in
set_option maxHeartbeats 400000 in
theorem sg_tg287 {d : Nat} (hd : 5 ≤ d) {post : Pst} {g : Hp} {v d0 : Int} {i k : Nat} (hi : i ≤ 150) (hk : k ≤ 150) {n1 n2 : Nat} {b a c e : Int} (gw : MOK g) (hv : 1 ≤ v ∧ v ≤ (g 49 3)) (hd0 : 0 ≤ d0 ∧ d0 ≤ 50) (hn : n1 ≤ 150 ∧ n2 ≤ 150) (hi2 : i ≤ n1) (hk2 : k ≤ n2) (hx : MXY (g 49 3) (g 49 4) (g 60) (g 61) 0 n1) (hx2 : MXY (g 49 3) (g 49 4) (g 60) (g 61) 151 n2) (K : ∀ o5 o6 o7 o8 : Option AV, WW mX12_together (d + 1) post 100 [some (.inr (.inr 49)), some (.inl v), some (.inl d0), some (.inl (i : Int)), some (.inl ((k + 1 : Nat) : Int)), o5, o6, o7, o8] [] (upH g 76 (151 * i + k) (iteP ((clP (g 49 3) v d0 (g 60) (g 61) (fun p => g 60 (151 + p)) (fun p => g 61 (151 + p))) i k) b 100000000))) : ∀ (nn : Nat) (u : Unit), (True) → 0 < nn → WW mX12_together (d + 1) post 287 [some (.inr (.inr 49)), some (.inl v), some (.inl d0), some (.inl (i : Int)), some (.inl (k : Int)), some (.inl b), some (.inl a), some (.inl c), some (.inl e)] [] g := by
  intro nn
  induction nn with
  | zero => intro u hu; intros; omega
  | succ nn ih =>
    intro u hu hmu
    refine r_aload_n dX12_together_287 rfl rfl ?_
    refine r_getR dX12_together_288 fl_X12_109 sh_49 rfl ?_
    refine r_sipush dX12_together_291 (by decide +kernel) ?_
    refine r_iload_n dX12_together_294 rfl rfl ?_
    refine r_imul dX12_together_295 ?_
    refine r_iload dX12_together_296 rfl ?_
    refine r_iadd dX12_together_298 ?_
    refine r_aload_n dX12_together_299 rfl rfl ?_
    refine r_iload_n dX12_together_300 rfl rfl ?_
    refine r_iload_n dX12_together_301 rfl rfl ?_
    refine r_iload_n dX12_together_302 rfl rfl ?_
    refine r_iload dX12_together_303 rfl ?_
    refine r_callVI (av := [_, _, _, _]) (M' := mX12_isClear) dX12_together_305 vX12_isClear ml_X12_414 sh_49 (by decide) rfl rfl rfl rfl (by simp [wtA]) (sp_X12_isClear (by omega) gw (by omega) (by omega) (n := n1) (by omega) (n2 := n2) (by omega) (by omega) hx hx2 (fun b_305 => ?_) (fun b_305 => ?_))
    · refine r_if_eq (tgt := 316) dX12_together_308 rfl ⟨by decide, by decide⟩ (fun c_308 => absurd c_308 (by decide)) (fun c_308 => ?_)
      refine r_iload dX12_together_311 rfl ?_
      refine r_goto (tgt := 319) dX12_together_313 rfl ?_
      refine r_eqI (y := iteP ((clP (g 49 3) v d0 (g 60) (g 61) (fun p => g 60 (151 + p)) (fun p => g 61 (151 + p))) i k) b 100000000) ?_ ?_
      · rw [Int.toNat_natCast, Int.toNat_natCast] at b_305
        first
          | exact (iteP_t b_305).symm
          | exact (iteP_f b_305).symm
      refine r_iast dX12_together_319 sh_76 (by decide) (by omega) ?_
      refine r_iinc (L' := [_, _, _, _, _, _, _, _, _]) dX12_together_320 rfl rfl (by decide) rfl ?_
      refine r_goto (tgt := 100) dX12_together_323 rfl ?_
      rw [show (151 * (i : Int) + k).toNat = 151 * i + k by omega]
      exact K _ _ _ _
    · refine r_if_eq (tgt := 316) dX12_together_308 rfl ⟨by decide, by decide⟩ (fun c_308 => ?_) (fun c_308 => absurd c_308 (by decide))
      refine r_ldcw (z := 100000000) dX12_together_316 kc_X12_417 (by decide +kernel) ?_
      refine r_eqI (y := iteP ((clP (g 49 3) v d0 (g 60) (g 61) (fun p => g 60 (151 + p)) (fun p => g 61 (151 + p))) i k) b 100000000) ?_ ?_
      · rw [Int.toNat_natCast, Int.toNat_natCast] at b_305
        first
          | exact (iteP_t b_305).symm
          | exact (iteP_f b_305).symm
      refine r_iast dX12_together_319 sh_76 (by decide) (by omega) ?_
      refine r_iinc (L' := [_, _, _, _, _, _, _, _, _]) dX12_together_320 rfl rfl (by decide) rfl ?_
      refine r_goto (tgt := 100) dX12_together_323 rfl ?_
      rw [show (151 * (i : Int) + k).toNat = 151 * i + k by omega]
      exact K _ _ _ _
set_option maxRecDepth 20000 in
set_option maxHeartbeats 400000 in
theorem lp_tg4 {d : Nat} (hd : 5 ≤ d) {post : Pst} {h : Hp} {v d0 : Int} {i n1 n2 : Nat} (hw : MOK h) (hn : n1 ≤ 150 ∧ n2 ≤ 150) (hn1 : (h 49 29) = n1) (hn2 : (h 49 30) = n2) (hx : MXY (h 49 3) (h 49 4) (h 60) (h 61) 0 n1) (hx2 : MXY (h 49 3) (h 49 4) (h 60) (h 61) 151 n2) (hv : 1 ≤ v ∧ v ≤ (h 49 3)) (hd0 : 0 ≤ d0 ∧ d0 ≤ 50) (hi : i ≤ n1) (t1 : ∀ j : Nat, j < n1 → h 77 (j + 1) = (tkF (mL (h 49 5) (h 49 6) (h 60) (h 61)) (mR (h 49 3) (h 49 5) (h 49 6) (h 60) (h 61))) j) (t2 : ∀ j : Nat, j < n2 → h 78 (j + 1) = (fun m => tkF (mL (h 49 5) (h 49 6) (h 60) (h 61)) (mR (h 49 3) (h 49 5) (h 49 6) (h 60) (h 61)) (151 + m)) j) (tr1 : ∀ j : Nat, j < n1 → 0 ≤ (tkF (mL (h 49 5) (h 49 6) (h 60) (h 61)) (mR (h 49 3) (h 49 5) (h 49 6) (h 60) (h 61))) j ∧ (tkF (mL (h 49 5) (h 49 6) (h 60) (h 61)) (mR (h 49 3) (h 49 5) (h 49 6) (h 60) (h 61))) j ≤ 5660) (tr2 : ∀ j : Nat, j < n2 → 0 ≤ (fun m => tkF (mL (h 49 5) (h 49 6) (h 60) (h 61)) (mR (h 49 3) (h 49 5) (h 49 6) (h 60) (h 61)) (151 + m)) j ∧ (fun m => tkF (mL (h 49 5) (h 49 6) (h 60) (h 61)) (mR (h 49 3) (h 49 5) (h 49 6) (h 60) (h 61)) (151 + m)) j ≤ 5660) (K : ∀ (g : Hp) (o4 o5 o6 o7 o8 : Option AV), (∀ a j, a ≠ 76 → g a j = h a j) → (∀ x y : Nat, y ≤ n2 → x < i + 1 → g 76 (151 * x + y) = tgF (clP (h 49 3) v d0 (h 60) (h 61) (fun p => h 60 (151 + p)) (fun p => h 61 (151 + p))) (tkF (mL (h 49 5) (h 49 6) (h 60) (h 61)) (mR (h 49 3) (h 49 5) (h 49 6) (h 60) (h 61))) (fun m => tkF (mL (h 49 5) (h 49 6) (h 60) (h 61)) (mR (h 49 3) (h 49 5) (h 49 6) (h 60) (h 61)) (151 + m)) x y) → WW mX12_together (d + 1) post 326 [some (.inr (.inr 49)), some (.inl v), some (.inl d0), some (.inl (i : Int)), o4, o5, o6, o7, o8] [] g) : ∀ (nn : Nat) (k : Nat) (g : Hp) (o5 o6 o7 o8 : Option AV), (k ≤ n2 + 1) → (∀ a j, a ≠ 76 → g a j = h a j) → (∀ x y : Nat, y ≤ n2 → (x < i ∨ (x = i ∧ y < k)) → g 76 (151 * x + y) = tgF (clP (h 49 3) v d0 (h 60) (h 61) (fun p => h 60 (151 + p)) (fun p => h 61 (151 + p))) (tkF (mL (h 49 5) (h 49 6) (h 60) (h 61)) (mR (h 49 3) (h 49 5) (h 49 6) (h 60) (h 61))) (fun m => tkF (mL (h 49 5) (h 49 6) (h 60) (h 61)) (mR (h 49 3) (h 49 5) (h 49 6) (h 60) (h 61)) (151 + m)) x y) → n2 + 1 - k < nn → WW mX12_together (d + 1) post 100 [some (.inr (.inr 49)), some (.inl v), some (.inl d0), some (.inl (i : Int)), some (.inl (k : Int)), o5, o6, o7, o8] [] g := by
  intro nn
  induction nn with
  | zero => intro k g o5 o6 o7 o8 hk hg h1; intros; omega
  | succ nn ih =>
    intro k g o5 o6 o7 o8 hk hg h1 hmu
    have w3 := hg 49 3 (by decide)
    have w4 := hg 49 4 (by decide)
    have w5 := hg 49 5 (by decide)
    have w6 := hg 49 6 (by decide)
    have w7 := hg 49 7 (by decide)
    have w8 := hg 49 8 (by decide)
    have w29 := hg 49 29 (by decide)
    have w30 := hg 49 30 (by decide)
    have gw : MOK g := by omega
    have v60 : g 60 = h 60 := funext fun j => hg 60 j (by decide)
    have v61 : g 61 = h 61 := funext fun j => hg 61 j (by decide)
    have v77 : g 77 = h 77 := funext fun j => hg 77 j (by decide)
    have v78 : g 78 = h 78 := funext fun j => hg 78 j (by decide)
    refine r_iload dX12_together_100 rfl ?_
    refine r_aload_n dX12_together_102 rfl rfl ?_
    refine r_getI dX12_together_103 fl_X12_171 sh_49 rfl ?_
    refine r_icmp_gt (tgt := 326) dX12_together_106 rfl (by omega) (by omega) (fun c_106 => ?_) (fun c_106 => ?_)
    · have e : k = n2 + 1 := by omega
      subst e
      exact K g _ _ _ _ _ hg (fun x y a b => h1 x y a (by omega))
    · have tr := tgF_r (c := (clP (h 49 3) v d0 (h 60) (h 61) (fun p => h 60 (151 + p)) (fun p => h 61 (151 + p)))) (t1 := (tkF (mL (h 49 5) (h 49 6) (h 60) (h 61)) (mR (h 49 3) (h 49 5) (h 49 6) (h 60) (h 61)))) (t2 := (fun m => tkF (mL (h 49 5) (h 49 6) (h 60) (h 61)) (mR (h 49 3) (h 49 5) (h 49 6) (h 60) (h 61)) (151 + m))) (n1 := n1) (n2 := n2) tr1 tr2 hn
      have qr : ∀ {x : Int} {n : Nat}, tgQ x n → n ≤ 300 → R32 x := fun z y => by unfold tgQ at z; omega
      have e77 : 0 < i → g 77 i = (tkF (mL (h 49 5) (h 49 6) (h 60) (h 61)) (mR (h 49 3) (h 49 5) (h 49 6) (h 60) (h 61))) (i - 1) := fun z => by
        have := t1 (i - 1) (by omega)
        rw [show i - 1 + 1 = i by omega] at this
        rw [v77]; exact this
      have e78 : 0 < k → g 78 k = (fun m => tkF (mL (h 49 5) (h 49 6) (h 60) (h 61)) (mR (h 49 3) (h 49 5) (h 49 6) (h 60) (h 61)) (151 + m)) (k - 1) := fun z => by
        have := t2 (k - 1) (by omega)
        rw [show k - 1 + 1 = k by omega] at this
        rw [v78]; exact this
      have r78 : 0 < i → 0 < k → R32 (g 77 i) ∧ R32 (g 78 k) := fun z y => by
        have := tr1 (i - 1) (by omega)
        have := tr2 (k - 1) (by omega)
        rw [e77 z, e78 y]; omega
      have tk := tr i hi k (by omega)
      refine sg_tg109 hd (by omega) (by omega) (fun b eb => ?_) 1 _ trivial (by decide)
      refine sg_tg127 hd (by omega) (by omega) (fun z => by rw [h1 _ _ (by omega) (by omega)]; exact qr (tr (i - 1) (by omega) k (by omega)).1 (by omega)) (fun a ea => ?_) 1 _ trivial (by decide)
      refine sg_tg152 hd (by omega) (by omega) (fun z => by rw [h1 _ _ (by omega) (by omega)]; exact qr (tr i hi (k - 1) (by omega)).1 (by omega)) (fun c ec => ?_) 1 _ trivial (by decide)
      refine sg_tg179 hd (by omega) (by omega) (fun z y => by rw [h1 _ _ (by omega) (by omega)]; exact qr (tr (i - 1) (by omega) (k - 1) (by omega)).1 (by omega)) r78 (fun e ee => ?_) 1 _ trivial (by decide)
      have fa : a = tgA (clP (h 49 3) v d0 (h 60) (h 61) (fun p => h 60 (151 + p)) (fun p => h 61 (151 + p))) (tkF (mL (h 49 5) (h 49 6) (h 60) (h 61)) (mR (h 49 3) (h 49 5) (h 49 6) (h 60) (h 61))) (fun m => tkF (mL (h 49 5) (h 49 6) (h 60) (h 61)) (mR (h 49 3) (h 49 5) (h 49 6) (h 60) (h 61)) (151 + m)) i k := by
        rw [ea]
        unfold tgA
        by_cases z : i = 0
        · rw [if_pos z, if_pos z]
        · rw [if_neg z, if_neg z, h1 _ _ (by omega) (by omega), e77 (by omega)]
      have fc : c = tgB (clP (h 49 3) v d0 (h 60) (h 61) (fun p => h 60 (151 + p)) (fun p => h 61 (151 + p))) (tkF (mL (h 49 5) (h 49 6) (h 60) (h 61)) (mR (h 49 3) (h 49 5) (h 49 6) (h 60) (h 61))) (fun m => tkF (mL (h 49 5) (h 49 6) (h 60) (h 61)) (mR (h 49 3) (h 49 5) (h 49 6) (h 60) (h 61)) (151 + m)) i k := by
        rw [ec]
        unfold tgB
        by_cases z : k = 0
        · rw [if_pos z, if_pos z]
        · rw [if_neg z, if_neg z, h1 _ _ (by omega) (by omega), e78 (by omega)]
      have fe : e = tgC (clP (h 49 3) v d0 (h 60) (h 61) (fun p => h 60 (151 + p)) (fun p => h 61 (151 + p))) (tkF (mL (h 49 5) (h 49 6) (h 60) (h 61)) (mR (h 49 3) (h 49 5) (h 49 6) (h 60) (h 61))) (fun m => tkF (mL (h 49 5) (h 49 6) (h 60) (h 61)) (mR (h 49 3) (h 49 5) (h 49 6) (h 60) (h 61)) (151 + m)) i k := by
        rw [ee]
        unfold tgC
        by_cases z : i = 0 ∨ k = 0
        · rw [if_pos z, if_pos z]
        · rw [if_neg z, if_neg z, h1 _ _ (by omega) (by omega), e77 (by omega), e78 (by omega)]
      refine sg_tg239 hd (by omega) (by omega) (by rw [fa]; exact qr tk.2.1 (by omega)) (by rw [eb]; unfold tgZ; split <;> decide) (by rw [fc]; exact qr tk.2.2.1 (by omega)) (by rw [fe]; exact qr tk.2.2.2 (by omega)) (fun m em => ?_) 1 () trivial (by decide)
      refine sg_tg287 hd (by omega) (by omega) gw (by omega) hd0 hn hi (by omega) (by rw [v60, v61, w3, w4]; exact hx) (by rw [v60, v61, w3, w4]; exact hx2) (fun o5 o6 o7 o8 => ?_) 1 () trivial (by decide)
      refine ih (k + 1) _ _ _ _ _ (by omega) (fun a j y => by rw [up_nc y]; exact hg a j y) (fun x y hy hxy => ?_) (by omega)
      by_cases z : x = i ∧ y = k
      · rw [z.1, z.2, up_s, tgF_eq, em, eb, fa, fc, fe, w3, v60, v61]
      · rw [up_nk (by omega)]
        exact h1 x y hy (by omega)
set_option maxRecDepth 20000 in
set_option maxHeartbeats 400000 in
theorem lp_tg3 {d : Nat} (hd : 5 ≤ d) {P : Int → Hp → Prop} {h : Hp} {v d0 : Int} {n1 n2 : Nat} (hw : MOK h) (hn : n1 ≤ 150 ∧ n2 ≤ 150) (hn1 : (h 49 29) = n1) (hn2 : (h 49 30) = n2) (hx : MXY (h 49 3) (h 49 4) (h 60) (h 61) 0 n1) (hx2 : MXY (h 49 3) (h 49 4) (h 60) (h 61) 151 n2) (hv : 1 ≤ v ∧ v ≤ (h 49 3)) (hd0 : 0 ≤ d0 ∧ d0 ≤ 50) (t1 : ∀ j : Nat, j < n1 → h 77 (j + 1) = (tkF (mL (h 49 5) (h 49 6) (h 60) (h 61)) (mR (h 49 3) (h 49 5) (h 49 6) (h 60) (h 61))) j) (t2 : ∀ j : Nat, j < n2 → h 78 (j + 1) = (fun m => tkF (mL (h 49 5) (h 49 6) (h 60) (h 61)) (mR (h 49 3) (h 49 5) (h 49 6) (h 60) (h 61)) (151 + m)) j) (tr1 : ∀ j : Nat, j < n1 → 0 ≤ (tkF (mL (h 49 5) (h 49 6) (h 60) (h 61)) (mR (h 49 3) (h 49 5) (h 49 6) (h 60) (h 61))) j ∧ (tkF (mL (h 49 5) (h 49 6) (h 60) (h 61)) (mR (h 49 3) (h 49 5) (h 49 6) (h 60) (h 61))) j ≤ 5660) (tr2 : ∀ j : Nat, j < n2 → 0 ≤ (fun m => tkF (mL (h 49 5) (h 49 6) (h 60) (h 61)) (mR (h 49 3) (h 49 5) (h 49 6) (h 60) (h 61)) (151 + m)) j ∧ (fun m => tkF (mL (h 49 5) (h 49 6) (h 60) (h 61)) (mR (h 49 3) (h 49 5) (h 49 6) (h 60) (h 61)) (151 + m)) j ≤ 5660) (k : ∀ g : Hp, (∀ a j, a ≠ 76 → g a j = h a j) → P (fnTog n1 n2 (clP (h 49 3) v d0 (h 60) (h 61) (fun p => h 60 (151 + p)) (fun p => h 61 (151 + p))) (tkF (mL (h 49 5) (h 49 6) (h 60) (h 61)) (mR (h 49 3) (h 49 5) (h 49 6) (h 60) (h 61))) (fun m => tkF (mL (h 49 5) (h 49 6) (h 60) (h 61)) (mR (h 49 3) (h 49 5) (h 49 6) (h 60) (h 61)) (151 + m))) g) : ∀ (nn : Nat) (i : Nat) (g : Hp) (o4 o5 o6 o7 o8 : Option AV), (i ≤ n1 + 1) → (∀ a j, a ≠ 76 → g a j = h a j) → (∀ x y : Nat, y ≤ n2 → x < i → g 76 (151 * x + y) = tgF (clP (h 49 3) v d0 (h 60) (h 61) (fun p => h 60 (151 + p)) (fun p => h 61 (151 + p))) (tkF (mL (h 49 5) (h 49 6) (h 60) (h 61)) (mR (h 49 3) (h 49 5) (h 49 6) (h 60) (h 61))) (fun m => tkF (mL (h 49 5) (h 49 6) (h 60) (h 61)) (mR (h 49 3) (h 49 5) (h 49 6) (h 60) (h 61)) (151 + m)) x y) → n1 + 1 - i < nn → WW mX12_together (d + 1) (pI P) 89 [some (.inr (.inr 49)), some (.inl v), some (.inl d0), some (.inl (i : Int)), o4, o5, o6, o7, o8] [] g := by
  intro nn
  induction nn with
  | zero => intro i g o4 o5 o6 o7 o8 hi hg h1; intros; omega
  | succ nn ih =>
    intro i g o4 o5 o6 o7 o8 hi hg h1 hmu
    have w3 := hg 49 3 (by decide)
    have w4 := hg 49 4 (by decide)
    have w5 := hg 49 5 (by decide)
    have w6 := hg 49 6 (by decide)
    have w7 := hg 49 7 (by decide)
    have w8 := hg 49 8 (by decide)
    have w29 := hg 49 29 (by decide)
    have w30 := hg 49 30 (by decide)
    have gw : MOK g := by omega
    have v60 : g 60 = h 60 := funext fun j => hg 60 j (by decide)
    have v61 : g 61 = h 61 := funext fun j => hg 61 j (by decide)
    have v77 : g 77 = h 77 := funext fun j => hg 77 j (by decide)
    have v78 : g 78 = h 78 := funext fun j => hg 78 j (by decide)
    refine r_iload_n dX12_together_89 rfl rfl ?_
    refine r_aload_n dX12_together_90 rfl rfl ?_
    refine r_getI dX12_together_91 fl_X12_164 sh_49 rfl ?_
    refine r_icmp_gt (tgt := 332) dX12_together_94 rfl (by omega) (by omega) (fun c_94 => ?_) (fun c_94 => ?_)
    · have e : i = n1 + 1 := by omega
      subst e
      have f1 := h1 n1 n2 (Nat.le_refl _) (by omega)
      have t := (tgF_r (c := (clP (h 49 3) v d0 (h 60) (h 61) (fun p => h 60 (151 + p)) (fun p => h 61 (151 + p)))) (t1 := (tkF (mL (h 49 5) (h 49 6) (h 60) (h 61)) (mR (h 49 3) (h 49 5) (h 49 6) (h 60) (h 61)))) (t2 := (fun m => tkF (mL (h 49 5) (h 49 6) (h 60) (h 61)) (mR (h 49 3) (h 49 5) (h 49 6) (h 60) (h 61)) (151 + m))) (n1 := n1) (n2 := n2) tr1 tr2 hn n1 (Nat.le_refl _) n2 (Nat.le_refl _)).1
      have cr := cv_r t (by omega)
      have en : (151 * g 49 29 + g 49 30).toNat = 151 * n1 + n2 := by omega
      rw [← en] at f1
      refine r_aload_n dX12_together_332 rfl rfl ?_
      refine r_getR dX12_together_333 fl_X12_109 sh_49 rfl ?_
      refine r_sipush dX12_together_336 (by decide +kernel) ?_
      refine r_aload_n dX12_together_339 rfl rfl ?_
      refine r_getI dX12_together_340 fl_X12_164 sh_49 rfl ?_
      refine r_imul dX12_together_343 ?_
      refine r_aload_n dX12_together_344 rfl rfl ?_
      refine r_getI dX12_together_345 fl_X12_171 sh_49 rfl ?_
      refine r_iadd dX12_together_348 ?_
      refine r_iald dX12_together_349 sh_76 (by decide) (by omega) ?_
      refine r_istore_n (L' := [_, _, _, _, _, _, _, _, _]) dX12_together_350 rfl rfl (by decide) rfl ?_
      refine r_iload_n dX12_together_351 rfl rfl ?_
      refine r_ldcw (z := 100000000) dX12_together_352 kc_X12_417 (by decide +kernel) ?_
      refine r_icmp_lt (tgt := 363) dX12_together_355 rfl (by omega) ⟨by decide, by decide⟩ (fun c_355 => ?_) (fun c_355 => ?_)
      · refine r_iload_n dX12_together_363 rfl rfl ?_
        refine r_iret dX12_together_364 rfl ?_
        refine ⟨_, rfl, eqP (k g hg) ?_⟩
        unfold fnTog
        first
          | (rw [if_pos (by omega)]; omega)
          | (rw [if_neg (by omega)])
      · refine r_bipush dX12_together_358 (by decide +kernel) ?_
        refine r_goto (tgt := 364) dX12_together_360 rfl ?_
        refine r_iret dX12_together_364 rfl ?_
        refine ⟨_, rfl, eqP (k g hg) ?_⟩
        unfold fnTog
        first
          | (rw [if_pos (by omega)]; omega)
          | (rw [if_neg (by omega)])
    · refine r_iconst dX12_together_97 ?_
      refine r_istore (L' := [_, _, _, _, _, _, _, _, _]) dX12_together_98 rfl (by decide) rfl ?_
      refine lp_tg4 hd (h := g) (i := i) (n1 := n1) (n2 := n2) gw hn (w29.trans hn1) (w30.trans hn2) (by rw [v60, v61, w3, w4]; exact hx) (by rw [v60, v61, w3, w4]; exact hx2) (by omega) hd0 (by omega) (by rw [v77, w3, w5, w6, v60, v61]; exact t1) (by rw [v78, w3, w5, w6, v60, v61]; exact t2) (by rw [w3, w5, w6, v60, v61]; exact tr1) (by rw [w3, w5, w6, v60, v61]; exact tr2) (fun g2 o4 o5 o6 o7 o8 y0 y1 => ?_) 152 0 g _ _ _ _ (by omega) (fun _ _ _ => rfl) (fun x y a b => by rw [h1 x y a (by omega), w3, w5, w6, v60, v61]) (by omega)
      refine r_iinc (L' := [_, _, _, _, _, _, _, _, _]) dX12_together_326 rfl rfl (by decide) rfl ?_
      refine r_goto (tgt := 89) dX12_together_329 rfl ?_
      refine ih (i + 1) g2 _ _ _ _ _ (by omega) (fun a j z => (y0 a j z).trans (hg a j z)) (fun x y a b => by rw [y1 x y a b, w3, w5, w6, v60, v61]) (by omega)
set_option maxRecDepth 20000 in
set_option maxHeartbeats 400000 in
theorem sp_X12_together {d : Nat} (hd : 7 ≤ d) {v d0 : Int} {h : Hp} {n1 n2 : Nat} (hw : MOK h) (hv : R32 v) (hd0 : R32 d0) (hn : n1 ≤ 150 ∧ n2 ≤ 150) (hn1 : (h 49 29) = n1) (hn2 : (h 49 30) = n2) (hx : MXY (h 49 3) (h 49 4) (h 60) (h 61) 0 n1) (hx2 : MXY (h 49 3) (h 49 4) (h 60) (h 61) 151 n2) {P : Int → Hp → Prop} (k : ∀ h' : Hp, (FrM h h') → P (if (1 ≤ v ∧ v ≤ (h 49 3)) ∧ (0 ≤ d0 ∧ d0 ≤ 50) then fnTog n1 n2 (clP (h 49 3) v d0 (h 60) (h 61) (fun p => h 60 (151 + p)) (fun p => h 61 (151 + p))) (tkF (mL (h 49 5) (h 49 6) (h 60) (h 61)) (mR (h 49 3) (h 49 5) (h 49 6) (h 60) (h 61))) (fun m => tkF (mL (h 49 5) (h 49 6) (h 60) (h 61)) (mR (h 49 3) (h 49 5) (h 49 6) (h 60) (h 61)) (151 + m)) else -1) h') : Cl d mX12_together [.inr (.inr 49), .inl v, .inl d0] h (pI P) := by
  refine Cl.of (L := [some (.inr (.inr 49)), some (.inl v), some (.inl d0), none, none, none, none, none, none]) (by decide +kernel) (Nat.le_of_ble_eq_true rfl) rfl ?_
  obtain ⟨d, rfl⟩ : ∃ q, d = q + 1 := ⟨d - 1, by omega⟩
  refine r_aload_n dX12_together_0 rfl rfl ?_
  refine r_iconst dX12_together_1 ?_
  refine r_putI dX12_together_2 fl_X12_127 sh_49 rfl ?_
  refine r_gh (fun g eg => ?_)
  have f : FrM h g := by rw [eg]; exact FrM.rf.up rfl
  have e3 : g 49 3 = h 49 3 := f 49 3 rfl
  have e4 : g 49 4 = h 49 4 := f 49 4 rfl
  have e5 : g 49 5 = h 49 5 := f 49 5 rfl
  have e6 : g 49 6 = h 49 6 := f 49 6 rfl
  have e7 : g 49 7 = h 49 7 := f 49 7 rfl
  have e8 : g 49 8 = h 49 8 := f 49 8 rfl
  have e29 : g 49 29 = h 49 29 := f 49 29 rfl
  have e30 : g 49 30 = h 49 30 := f 49 30 rfl
  have ea60 : g 60 = h 60 := funext fun j => f 60 j rfl
  have ea61 : g 61 = h 61 := funext fun j => f 61 j rfl
  have w : MOK g := by omega
  rw [← e3, ← e4, ← ea60, ← ea61] at hx hx2
  rw [← e29] at hn1
  rw [← e30] at hn2
  rw [← e3, ← e5, ← e6, ← ea60, ← ea61] at k
  refine r_aload_n dX12_together_5 rfl rfl ?_
  refine r_iload_n dX12_together_6 rfl rfl ?_
  refine r_callVI (av := [_]) (M' := mX12_isBeside) dX12_together_7 vX12_isBeside ml_X12_411 sh_49 (by decide) rfl rfl rfl rfl (by simp [wtA]) (sp_X12_isBeside (by omega) (by omega) (by omega) (fun b_7 => ?_) (fun b_7 => ?_))
  · refine r_if_eq (tgt := 23) dX12_together_10 rfl ⟨by decide, by decide⟩ (fun c_10 => absurd c_10 (by decide)) (fun c_10 => ?_)
    refine r_iload_n dX12_together_13 rfl rfl ?_
    refine r_iconst dX12_together_14 ?_
    refine r_bipush dX12_together_15 (by decide +kernel) ?_
    refine r_callSI (av := [_, _, _]) (M' := mX12_isIn) dX12_together_17 sX12_isIn ml_X12_160 rfl rfl (by simp [wtA]) (sp_X12_isIn (by omega) (by omega) (by omega) (by omega) (fun b_17 => ?_) (fun b_17 => ?_))
    · refine r_if_ne (tgt := 25) dX12_together_20 rfl ⟨by decide, by decide⟩ (fun c_20 => ?_) (fun c_20 => absurd c_20 (by decide))
      refine r_iconst dX12_together_25 ?_
      refine r_istore_n (L' := [_, _, _, _, _, _, _, _, _]) dX12_together_26 rfl rfl (by decide) rfl ?_
      rw [if_pos (by omega)] at k
      refine lp_tg1 (by omega) w hn hn1 hn2 hx hx2 (fun g1 o3 y0 y1 => ?_) 152 0 g (by omega) (fun _ _ _ => rfl) (fun j hj => absurd hj (Nat.not_lt_zero j)) (by omega)
      refine r_iconst dX12_together_54 ?_
      refine r_istore_n (L' := [_, _, _, _, _, _, _, _, _]) dX12_together_55 rfl rfl (by decide) rfl ?_
      have a3 := y0 49 3 (by decide)
      have a4 := y0 49 4 (by decide)
      have a5 := y0 49 5 (by decide)
      have a6 := y0 49 6 (by decide)
      have a7 := y0 49 7 (by decide)
      have a8 := y0 49 8 (by decide)
      have a29 := y0 49 29 (by decide)
      have a30 := y0 49 30 (by decide)
      have b60 : g1 60 = g 60 := funext fun j => y0 60 j (by decide)
      have b61 : g1 61 = g 61 := funext fun j => y0 61 j (by decide)
      have w1 : MOK g1 := by omega
      refine lp_tg2 (n1 := n1) (n2 := n2) (by omega) w1 hn (a29.trans hn1) (a30.trans hn2) (by rw [b60, b61, a3, a4]; exact hx) (by rw [b60, b61, a3, a4]; exact hx2) (fun g2 o3 z0 z1 => ?_) 152 0 g1 (by omega) (fun _ _ _ => rfl) (fun j hj => absurd hj (Nat.not_lt_zero j)) (by omega)
      refine r_iconst dX12_together_87 ?_
      refine r_istore_n (L' := [_, _, _, _, _, _, _, _, _]) dX12_together_88 rfl rfl (by decide) rfl ?_
      have z : ∀ a j, a ≠ 77 → a ≠ 78 → g2 a j = g a j := fun a j p q => (z0 a j q).trans (y0 a j p)
      have c3 := z 49 3 (by decide) (by decide)
      have c4 := z 49 4 (by decide) (by decide)
      have c5 := z 49 5 (by decide) (by decide)
      have c6 := z 49 6 (by decide) (by decide)
      have c7 := z 49 7 (by decide) (by decide)
      have c8 := z 49 8 (by decide) (by decide)
      have c29 := z 49 29 (by decide) (by decide)
      have c30 := z 49 30 (by decide) (by decide)
      have c60 : g2 60 = g 60 := funext fun j => z 60 j (by decide) (by decide)
      have c61 : g2 61 = g 61 := funext fun j => z 61 j (by decide) (by decide)
      have w2 : MOK g2 := by omega
      have hq1 := hx.lr (K := g 49 5) (E := g 49 6) (by omega) (by omega) (by omega) (by omega)
      rw [b60, b61, a3, a5, a6] at z1
      have tr2 : ∀ j : Nat, j < n2 → 0 ≤ tkF (mL (g 49 5) (g 49 6) (g 60) (g 61)) (mR (g 49 3) (g 49 5) (g 49 6) (g 60) (g 61)) (151 + j) ∧ tkF (mL (g 49 5) (g 49 6) (g 60) (g 61)) (mR (g 49 3) (g 49 5) (g 49 6) (g 60) (g 61)) (151 + j) ≤ 5660 := fun j hj => by
        have m : MXY (g 49 3) (g 49 4) (fun p => g 60 (151 + p)) (fun p => g 61 (151 + p)) 0 n2 := fun p hp => by
          rw [Nat.zero_add]; exact hx2 p hp
        exact tkF_r (m.lr (K := g 49 5) (E := g 49 6) (by omega) (by omega) (by omega) (by omega)) (m := j) (by omega)
      refine lp_tg3 (h := g2) (n1 := n1) (n2 := n2) (by omega) w2 hn (c29.trans hn1) (c30.trans hn2) (by rw [c60, c61, c3, c4]; exact hx) (by rw [c60, c61, c3, c4]; exact hx2) (by omega) (by omega) (fun j hj => ?_) (fun j hj => ?_) (fun j hj => ?_) (fun j hj => ?_) (fun g3 x0 => ?_) 152 0 g2 _ _ _ _ _ (by omega) (fun _ _ _ => rfl) (fun x y _ q => absurd q (Nat.not_lt_zero x)) (by omega)
      · rw [c3, c5, c6, c60, c61, z0 77 _ (by decide)]; exact y1 j hj
      · rw [c3, c5, c6, c60, c61]; exact z1 j hj
      · rw [c3, c5, c6, c60, c61]; exact tkF_r hq1 (by omega)
      · rw [c3, c5, c6, c60, c61]; exact tr2 j hj
      · rw [c3, c5, c6, c60, c61]
        exact k g3 (f.tr (fun a q y => (x0 a q (by rintro rfl; cases y)).trans (z a q (by rintro rfl; cases y) (by rintro rfl; cases y))))
    · refine r_if_ne (tgt := 25) dX12_together_20 rfl ⟨by decide, by decide⟩ (fun c_20 => absurd c_20 (by decide)) (fun c_20 => ?_)
      refine r_iconst dX12_together_23 ?_
      refine r_iret dX12_together_24 rfl ?_
      refine ⟨_, rfl, eqP (k g f) ?_⟩
      rw [if_neg (by omega)]
  · refine r_if_eq (tgt := 23) dX12_together_10 rfl ⟨by decide, by decide⟩ (fun c_10 => ?_) (fun c_10 => absurd c_10 (by decide))
    refine r_iconst dX12_together_23 ?_
    refine r_iret dX12_together_24 rfl ?_
    refine ⟨_, rfl, eqP (k g f) ?_⟩
    rw [if_neg (by omega)]
theorem tgR_cg {c c2 : Nat → Prop} {bs A C t2 bs2 A2 C2 u2 : Nat → Int} : ∀ {k : Nat}, (∀ j : Nat, j ≤ k → (c j ↔ c2 j) ∧ bs j = bs2 j ∧ A j = A2 j ∧ C j = C2 j) → (∀ j : Nat, j < k → t2 j = u2 j) → tgR c bs A C t2 k = tgR c2 bs2 A2 C2 u2 k
  | 0, h, _ => by
    have a := h 0 (Nat.le_refl _)
    rw [tgR, tgR, a.2.1, a.2.2.1, a.2.2.2, propext a.1]
  | k + 1, h, g => by
    have a := h (k + 1) (Nat.le_refl _)
    rw [tgR, tgR, a.2.1, a.2.2.1, a.2.2.2, propext a.1, g k (by omega), tgR_cg (k := k) (fun j hj => h j (by omega)) (fun j hj => g j (by omega))]
theorem tgF_cg {c c2 : Nat → Nat → Prop} {t1 t2 u1 u2 : Nat → Int} {n2 : Nat} (h2 : ∀ j : Nat, j < n2 → t2 j = u2 j) : ∀ {i : Nat}, (∀ x y : Nat, x ≤ i → y ≤ n2 → (c x y ↔ c2 x y)) → (∀ j : Nat, j < i → t1 j = u1 j) → ∀ {k : Nat}, k ≤ n2 → tgF c t1 t2 i k = tgF c2 u1 u2 i k
  | 0, hc, _, k, hk => tgR_cg (fun j hj => ⟨hc 0 j (Nat.le_refl _) (by omega), rfl, rfl, rfl⟩) (fun j hj => h2 j (by omega))
  | i + 1, hc, h1, k, hk => by
    have ih : ∀ {k : Nat}, k ≤ n2 → tgF c t1 t2 i k = tgF c2 u1 u2 i k := tgF_cg h2 (fun x y a b => hc x y (by omega) b) (fun j hj => h1 j (by omega))
    refine tgR_cg (fun j hj => ⟨hc (i + 1) j (Nat.le_refl _) (by omega), rfl, ?_, ?_⟩) (fun j hj => h2 j (by omega))
    · show ad (tgF c t1 t2 i j) (t1 i) = ad (tgF c2 u1 u2 i j) (u1 i)
      rw [ih (by omega), h1 i (by omega)]
    · show (if j = 0 then 100000000 else ad (tgF c t1 t2 i (j - 1)) (max (t1 i) (t2 (j - 1)))) = (if j = 0 then 100000000 else ad (tgF c2 u1 u2 i (j - 1)) (max (u1 i) (u2 (j - 1))))
      by_cases z : j = 0
      · rw [if_pos z, if_pos z]
      · rw [if_neg z, if_neg z, ih (by omega), h1 i (by omega), h2 (j - 1) (by omega)]
theorem REL.lr2 {h : Hp} (r : REL h) : LR (h 27) (h 28) (h 23 0) := r.2.2.2.2.1.2.lr (by have := r.1; omega) (by have := r.1; omega) (by have := r.1; omega) (by have := r.1; omega)
theorem REL.tk2 {h : Hp} (r : REL h) {i : Nat} (hi : (i : Int) ≤ h 23 0) : h 27 i = mL (h 49 5) (h 49 6) (h 60) (h 61) (151 + i) ∧ h 28 i = mR (h 49 3) (h 49 5) (h 49 6) (h 60) (h 61) (151 + i) := by
  have q := r.1
  have a := r.2.2.2.2.1.2.2.2 i hi
  unfold mL mR
  rw [a.2.2.2.2.2.2.2.1, a.2.2.2.2.2.2.2.2.1, q.2.2.1, q.2.2.2.2.1, q.2.2.2.2.2.1]
  exact ⟨a.2.2.2.2.2.1, a.2.2.2.2.2.2.1⟩
theorem pr_together {d : Nat} (hd : 20 ≤ d) {v d0 : Int} (hv : R32 v) (hd0 : R32 d0) : PR d mX11_together mX12_together [.inl v, .inl d0] := by
  intro h r
  have n := r.n
  have n2 := r.n2
  have N1 : h 16 0 = ((h 16 0).toNat : Int) := by omega
  have N2 : h 23 0 = ((h 23 0).toNat : Int) := by omega
  refine sp_X11_together (n1 := (h 16 0).toNat) (n2 := (h 23 0).toNat) (by omega) r.1.1 hv hd0 N1 N2 (by omega) (by rw [← N1]; exact r.lr) (by rw [← N2]; exact r.lr2) (by rw [← N1]; exact r.2.2.2.1.2.xy) (by rw [← N2]; exact r.2.2.2.2.1.2.xy) (fun h1 f => ?_)
  have r1 := f.rel r
  have m1 := r1.n
  have m2 := r1.n2
  have w := r1.1
  have q : ∀ a k, scrC a k = false → h1 a k = h a k := f.1
  rw [← q 16 0 rfl, ← q 23 0 rfl, ← q 1 0 rfl, ← (show h1 17 = h 17 from funext fun j => q 17 j rfl), ← (show h1 18 = h 18 from funext fun j => q 18 j rfl), ← (show h1 24 = h 24 from funext fun j => q 24 j rfl), ← (show h1 25 = h 25 from funext fun j => q 25 j rfl), ← (show h1 20 = h 20 from funext fun j => q 20 j rfl), ← (show h1 21 = h 21 from funext fun j => q 21 j rfl), ← (show h1 27 = h 27 from funext fun j => q 27 j rfl), ← (show h1 28 = h 28 from funext fun j => q 28 j rfl)]
  have M1 : h1 49 29 = ((h1 16 0).toNat : Int) := by omega
  have M2 : h1 49 30 = ((h1 23 0).toNat : Int) := by omega
  refine sp_X12_together (n1 := (h1 16 0).toNat) (n2 := (h1 23 0).toNat) (by omega) w.2.1 hv hd0 (by omega) M1 M2 (by rw [← M1]; exact r1.mxy) (by rw [← M2]; exact r1.mxy2) (fun h2 f2 => ⟨?_, f2.rel r1⟩)
  rw [w.2.2.1]
  split
  · unfold fnTog
    have e : tgF (clP (h1 1 0) v d0 (h1 17) (h1 18) (h1 24) (h1 25)) (tkF (h1 20) (h1 21)) (tkF (h1 27) (h1 28)) (h1 16 0).toNat (h1 23 0).toNat = tgF (clP (h1 1 0) v d0 (h1 60) (h1 61) (fun p => h1 60 (151 + p)) (fun p => h1 61 (151 + p))) (tkF (mL (h1 49 5) (h1 49 6) (h1 60) (h1 61)) (mR (h1 1 0) (h1 49 5) (h1 49 6) (h1 60) (h1 61))) (fun m => tkF (mL (h1 49 5) (h1 49 6) (h1 60) (h1 61)) (mR (h1 1 0) (h1 49 5) (h1 49 6) (h1 60) (h1 61)) (151 + m)) (h1 16 0).toNat (h1 23 0).toNat := by
      refine tgF_cg (fun j hj => ?_) (fun x y hx hy => ?_) (fun j hj => ?_) (Nat.le_refl _)
      · have a := r1.tk2 (i := j) (by omega)
        have b := r1.tk2 (i := j + 1) (by omega)
        rw [w.2.2.1] at a b
        show _ = tkF _ _ (151 + j)
        unfold tkF
        rw [a.1, a.2, b.1, b.2]
        rfl
      · have := r1.cl (v := v) (d0 := d0) (i := (x : Int)) (k0 := (y : Int)) (by omega) (by omega)
        rw [Int.toNat_natCast, Int.toNat_natCast, w.2.2.1] at this
        exact this
      · have a := r1.tk (i := j) (by omega)
        have b := r1.tk (i := j + 1) (by omega)
        rw [w.2.2.1] at a b
        unfold tkF
        rw [a.1, a.2.1, b.1, b.2.1]
    rw [e]
  · rfl
