/-! TICKS, REAL -/
noncomputable def mL (K E : Int) (X Y : Nat → Int) (p : Nat) : Int := stF K E (100 * X p) (100 * Y p)
noncomputable def mR (W K E : Int) (X Y : Nat → Int) (p : Nat) : Int := stF K E (100 * W - 100 * X p) (100 * Y p)
def fT (v : Int) (lf rg dn : Nat → Int) (i : Nat) : Int := if v = 0 ∨ ¬ dn (i + 1) = 0 then tkF lf rg i else 0
def fnTicks (v n : Int) (lf rg dn : Nat → Int) : Int := if v = 0 ∨ v = 1 then sumN (fT v lf rg dn) n.toNat else -1
noncomputable def fnReal (W K E n m a : Int) (lf rg ms : Nat → Int) : Int := if (0 ≤ m ∧ m < n) ∧ (a = 0 ∨ a = 1) then (if a = 0 then pX K W E (lf (m.toNat + 1) + msN ms 0 (m.toNat + 1)) (rg (m.toNat + 1) + msN ms 1 (m.toNat + 1)) else pY K W E (lf (m.toNat + 1) + msN ms 0 (m.toNat + 1)) (rg (m.toNat + 1) + msN ms 1 (m.toNat + 1))) else -2147483648
theorem sumN_congr {f g : Nat → Int} : ∀ (n : Nat), (∀ i, i < n → f i = g i) → sumN f n = sumN g n
  | 0, _ => rfl
  | n + 1, h => by simp only [sumN]; rw [sumN_congr n (fun i hi => h i (by omega)), h n (by omega)]
theorem fT_r {v n : Int} {lf rg dn : Nat → Int} (h : LR lf rg n) {i : Nat} (hi : (i : Int) < n) : 0 ≤ fT v lf rg dn i ∧ fT v lf rg dn i ≤ 5660 := by
  have := tkF_r h hi
  unfold fT
  split <;> omega
def MXY (W H : Int) (X Y : Nat → Int) (b : Nat) (n : Int) : Prop := ∀ p : Nat, (p : Int) ≤ n → 0 ≤ X (b + p) ∧ X (b + p) ≤ W ∧ 0 ≤ Y (b + p) ∧ Y (b + p) ≤ H
theorem MXY.lr {W H K E n : Int} {X Y : Nat → Int} (h : MXY W H X Y 0 n) (hW : 20 ≤ W ∧ W ≤ 200) (hH : 20 ≤ H ∧ H ≤ 200) (hK : 2 ≤ K ∧ K ≤ 20) (hE : 0 ≤ E ∧ E ≤ 99) : LR (mL K E X Y) (mR W K E X Y) n := by
  intro p hp
  have := h p hp
  rw [Nat.zero_add] at this
  have s1 := stF_r (K := K) (E := E) (x := 100 * X p) (y := 100 * Y p) hK hE (by omega) (by omega)
  have s2 := stF_r (K := K) (E := E) (x := 100 * W - 100 * X p) (y := 100 * Y p) hK hE (by omega) (by omega)
  unfold mL mR
  omega
theorem RMv.mxy {W H K E n : Int} {x y dn lf rg mx my md : Nat → Int} {b : Nat} (h : RMv W H K E n x y dn lf rg mx my md b) : MXY W H mx my b n := by
  intro p hp
  obtain ⟨h1, h2, h3, h4, h5, h6, h7, h8, h9, h10⟩ := h.2.2 p hp
  rw [h8, h9]
  omega
theorem RMv.tk {W H K E n : Int} {x y dn lf rg mx my md : Nat → Int} (h : RMv W H K E n x y dn lf rg mx my md 0) {i : Nat} (hi : (i : Int) ≤ n) : lf i = mL K E mx my i ∧ rg i = mR W K E mx my i ∧ dn i = md i := by
  obtain ⟨h1, h2, h3, h4, h5, h6, h7, h8, h9, h10⟩ := h.2.2 i hi
  rw [Nat.zero_add] at h8 h9 h10
  unfold mL mR
  rw [h8, h9, h10]
  exact ⟨h6, h7, rfl⟩
set_option maxRecDepth 20000 in
set_option maxHeartbeats 400000 in
theorem sp_X12_leftAt {d : Nat} (hd : 4 ≤ d) {p : Int} {h : Hp}  (hw : MOK h) (hp : 0 ≤ p ∧ p ≤ 301) (hx : 0 ≤ h 60 p.toNat ∧ h 60 p.toNat ≤ (h 49 3)) (hy : 0 ≤ h 61 p.toNat ∧ h 61 p.toNat ≤ (h 49 4)) {P : Int → Hp → Prop} (k : P (mL (h 49 5) (h 49 6) (h 60) (h 61) p.toNat) (h)) : Cl d mX12_leftAt [.inr (.inr 49), .inl p] h (pI P) := by
  refine Cl.of (L := [some (.inr (.inr 49)), some (.inl p)]) (by decide +kernel) (Nat.le_of_ble_eq_true rfl) rfl ?_
  obtain ⟨d, rfl⟩ : ∃ q, d = q + 1 := ⟨d - 1, by omega⟩
  refine r_aload_n dX12_leftAt_0 rfl rfl ?_
  refine r_bipush dX12_leftAt_1 (by decide +kernel) ?_
  refine r_aload_n dX12_leftAt_3 rfl rfl ?_
  refine r_getR dX12_leftAt_4 fl_X12_59 sh_49 rfl ?_
  refine r_iload_n dX12_leftAt_7 rfl rfl ?_
  refine r_iald dX12_leftAt_8 sh_60 (by decide) (by omega) ?_
  refine r_imul dX12_leftAt_9 ?_
  refine r_bipush dX12_leftAt_10 (by decide +kernel) ?_
  refine r_aload_n dX12_leftAt_12 rfl rfl ?_
  refine r_getR dX12_leftAt_13 fl_X12_62 sh_49 rfl ?_
  refine r_iload_n dX12_leftAt_16 rfl rfl ?_
  refine r_iald dX12_leftAt_17 sh_61 (by decide) (by omega) ?_
  refine r_imul dX12_leftAt_18 ?_
  refine r_callVI (av := [_, _]) (M' := mX12_leftOf) dX12_leftAt_19 vX12_leftOf ml_X12_188 sh_49 (by decide) rfl rfl rfl rfl (by simp [wtA]) (sp_X12_leftOf (by omega) (by omega) (by omega) (by omega) ?_)
  refine r_iret dX12_leftAt_22 rfl ?_
  exact ⟨_, rfl, k⟩
set_option maxRecDepth 20000 in
set_option maxHeartbeats 400000 in
theorem sp_X12_rightAt {d : Nat} (hd : 4 ≤ d) {p : Int} {h : Hp}  (hw : MOK h) (hp : 0 ≤ p ∧ p ≤ 301) (hx : 0 ≤ h 60 p.toNat ∧ h 60 p.toNat ≤ (h 49 3)) (hy : 0 ≤ h 61 p.toNat ∧ h 61 p.toNat ≤ (h 49 4)) {P : Int → Hp → Prop} (k : P (mR (h 49 3) (h 49 5) (h 49 6) (h 60) (h 61) p.toNat) (h)) : Cl d mX12_rightAt [.inr (.inr 49), .inl p] h (pI P) := by
  refine Cl.of (L := [some (.inr (.inr 49)), some (.inl p)]) (by decide +kernel) (Nat.le_of_ble_eq_true rfl) rfl ?_
  obtain ⟨d, rfl⟩ : ∃ q, d = q + 1 := ⟨d - 1, by omega⟩
  refine r_aload_n dX12_rightAt_0 rfl rfl ?_
  refine r_bipush dX12_rightAt_1 (by decide +kernel) ?_
  refine r_aload_n dX12_rightAt_3 rfl rfl ?_
  refine r_getR dX12_rightAt_4 fl_X12_59 sh_49 rfl ?_
  refine r_iload_n dX12_rightAt_7 rfl rfl ?_
  refine r_iald dX12_rightAt_8 sh_60 (by decide) (by omega) ?_
  refine r_imul dX12_rightAt_9 ?_
  refine r_bipush dX12_rightAt_10 (by decide +kernel) ?_
  refine r_aload_n dX12_rightAt_12 rfl rfl ?_
  refine r_getR dX12_rightAt_13 fl_X12_62 sh_49 rfl ?_
  refine r_iload_n dX12_rightAt_16 rfl rfl ?_
  refine r_iald dX12_rightAt_17 sh_61 (by decide) (by omega) ?_
  refine r_imul dX12_rightAt_18 ?_
  refine r_callVI (av := [_, _]) (M' := mX12_rightOf) dX12_rightAt_19 vX12_rightOf ml_X12_191 sh_49 (by decide) rfl rfl rfl rfl (by simp [wtA]) (sp_X12_rightOf (by omega) (by omega) (by omega) (by omega) ?_)
  refine r_iret dX12_rightAt_22 rfl ?_
  exact ⟨_, rfl, k⟩
set_option maxRecDepth 20000 in
set_option maxHeartbeats 400000 in
theorem sp_X12_ticksOf {d : Nat} (hd : 5 ≤ d) {m : Int} {h : Hp}  (hw : MOK h) (hm : 0 ≤ m ∧ m ≤ 300) (hxy : ∀ p : Nat, p = m.toNat ∨ p = m.toNat + 1 → 0 ≤ h 60 p ∧ h 60 p ≤ (h 49 3) ∧ 0 ≤ h 61 p ∧ h 61 p ≤ (h 49 4)) {P : Int → Hp → Prop} (k : P (tkF (mL (h 49 5) (h 49 6) (h 60) (h 61)) (mR (h 49 3) (h 49 5) (h 49 6) (h 60) (h 61)) m.toNat) (h)) : Cl d mX12_ticksOf [.inr (.inr 49), .inl m] h (pI P) := by
  refine Cl.of (L := [some (.inr (.inr 49)), some (.inl m), none, none]) (by decide +kernel) (Nat.le_of_ble_eq_true rfl) rfl ?_
  obtain ⟨d, rfl⟩ : ∃ q, d = q + 1 := ⟨d - 1, by omega⟩
  have e1 : (m + 1).toNat = m.toNat + 1 := by omega
  have q1 := hxy m.toNat (Or.inl rfl)
  have q2 := hxy (m + 1).toNat (Or.inr e1)
  have sl1 := stF_r (K := (h 49 5)) (E := (h 49 6)) (x := 100 * h 60 m.toNat) (y := 100 * h 61 m.toNat) (by omega) (by omega) (by omega) (by omega)
  have sr1 := stF_r (K := (h 49 5)) (E := (h 49 6)) (x := 100 * (h 49 3) - 100 * h 60 m.toNat) (y := 100 * h 61 m.toNat) (by omega) (by omega) (by omega) (by omega)
  have sl2 := stF_r (K := (h 49 5)) (E := (h 49 6)) (x := 100 * h 60 (m + 1).toNat) (y := 100 * h 61 (m + 1).toNat) (by omega) (by omega) (by omega) (by omega)
  have sr2 := stF_r (K := (h 49 5)) (E := (h 49 6)) (x := 100 * (h 49 3) - 100 * h 60 (m + 1).toNat) (y := 100 * h 61 (m + 1).toNat) (by omega) (by omega) (by omega) (by omega)
  have tl1 : mL (h 49 5) (h 49 6) (h 60) (h 61) m.toNat = stF (h 49 5) (h 49 6) (100 * h 60 m.toNat) (100 * h 61 m.toNat) := rfl
  have tl2 : mL (h 49 5) (h 49 6) (h 60) (h 61) (m + 1).toNat = stF (h 49 5) (h 49 6) (100 * h 60 (m + 1).toNat) (100 * h 61 (m + 1).toNat) := rfl
  have tr1 : mR (h 49 3) (h 49 5) (h 49 6) (h 60) (h 61) m.toNat = stF (h 49 5) (h 49 6) (100 * (h 49 3) - 100 * h 60 m.toNat) (100 * h 61 m.toNat) := rfl
  have tr2 : mR (h 49 3) (h 49 5) (h 49 6) (h 60) (h 61) (m + 1).toNat = stF (h 49 5) (h 49 6) (100 * (h 49 3) - 100 * h 60 (m + 1).toNat) (100 * h 61 (m + 1).toNat) := rfl
  refine r_aload_n dX12_ticksOf_0 rfl rfl ?_
  refine r_iload_n dX12_ticksOf_1 rfl rfl ?_
  refine r_iconst dX12_ticksOf_2 ?_
  refine r_iadd dX12_ticksOf_3 ?_
  refine r_callVI (av := [_]) (M' := mX12_leftAt) dX12_ticksOf_4 vX12_leftAt ml_X12_344 sh_49 (by decide) rfl rfl rfl rfl (by simp [wtA]) (sp_X12_leftAt (by omega) (by omega) (by omega) (by omega) (by omega) ?_)
  refine r_aload_n dX12_ticksOf_7 rfl rfl ?_
  refine r_iload_n dX12_ticksOf_8 rfl rfl ?_
  refine r_callVI (av := [_]) (M' := mX12_leftAt) dX12_ticksOf_9 vX12_leftAt ml_X12_344 sh_49 (by decide) rfl rfl rfl rfl (by simp [wtA]) (sp_X12_leftAt (by omega) (by omega) (by omega) (by omega) (by omega) ?_)
  refine r_isub dX12_ticksOf_12 ?_
  refine r_callSI (av := [_]) (M' := mX12_sizeOf) dX12_ticksOf_13 sX12_sizeOf ml_X12_198 rfl rfl (by simp [wtA]) (sp_X12_sizeOf (by omega) (by omega) ?_)
  refine r_nmI (fun a e_a => ?_)
  refine r_istore_n (L' := [_, _, _, _]) dX12_ticksOf_16 rfl rfl (by decide) rfl ?_
  refine r_aload_n dX12_ticksOf_17 rfl rfl ?_
  refine r_iload_n dX12_ticksOf_18 rfl rfl ?_
  refine r_iconst dX12_ticksOf_19 ?_
  refine r_iadd dX12_ticksOf_20 ?_
  refine r_callVI (av := [_]) (M' := mX12_rightAt) dX12_ticksOf_21 vX12_rightAt ml_X12_347 sh_49 (by decide) rfl rfl rfl rfl (by simp [wtA]) (sp_X12_rightAt (by omega) (by omega) (by omega) (by omega) (by omega) ?_)
  refine r_aload_n dX12_ticksOf_24 rfl rfl ?_
  refine r_iload_n dX12_ticksOf_25 rfl rfl ?_
  refine r_callVI (av := [_]) (M' := mX12_rightAt) dX12_ticksOf_26 vX12_rightAt ml_X12_347 sh_49 (by decide) rfl rfl rfl rfl (by simp [wtA]) (sp_X12_rightAt (by omega) (by omega) (by omega) (by omega) (by omega) ?_)
  refine r_isub dX12_ticksOf_29 ?_
  refine r_callSI (av := [_]) (M' := mX12_sizeOf) dX12_ticksOf_30 sX12_sizeOf ml_X12_198 rfl rfl (by simp [wtA]) (sp_X12_sizeOf (by omega) (by omega) ?_)
  refine r_nmI (fun b e_b => ?_)
  refine r_istore_n (L' := [_, _, _, _]) dX12_ticksOf_33 rfl rfl (by decide) rfl ?_
  refine r_iload_n dX12_ticksOf_34 rfl rfl ?_
  refine r_iload_n dX12_ticksOf_35 rfl rfl ?_
  refine r_icmp_le (tgt := 43) dX12_ticksOf_36 rfl (by omega) (by omega) (fun c_36 => ?_) (fun c_36 => ?_)
  · refine r_iload_n dX12_ticksOf_43 rfl rfl ?_
    refine r_iret dX12_ticksOf_44 rfl ?_
    refine ⟨_, rfl, eqP k ?_⟩
    unfold tkF
    rw [← e1]
    omega
  · refine r_iload_n dX12_ticksOf_39 rfl rfl ?_
    refine r_goto (tgt := 44) dX12_ticksOf_40 rfl ?_
    refine r_iret dX12_ticksOf_44 rfl ?_
    refine ⟨_, rfl, eqP k ?_⟩
    unfold tkF
    rw [← e1]
    omega
set_option maxRecDepth 20000 in
set_option maxHeartbeats 400000 in
theorem lp_cticks {d : Nat} (hd : 2 ≤ d) {P : Int → Hp → Prop} {h : Hp} {v : Int} (hv : v = 0 ∨ v = 1) (hn : 0 ≤ (h 16 0) ∧ (h 16 0) ≤ 150) (hq : LR (h 20) (h 21) (h 16 0)) (hdn : ∀ p : Nat, (p : Int) ≤ (h 16 0) → h 19 p = 0 ∨ h 19 p = 1) (k : P (sumN (fT v (h 20) (h 21) (h 19)) (h 16 0).toNat) h) : ∀ (nn : Nat) (i : Nat) (s : Int), ((i : Int) ≤ (h 16 0)) → (s = sumN (fT v (h 20) (h 21) (h 19)) i) → (h 16 0).toNat - i < nn → WW mX11_ticks (d + 1) (pI P) 15 [some (.inr (.inr 0)), some (.inl v), some (.inl s), some (.inl (i : Int))] [] h := by
  intro nn
  induction nn with
  | zero => intro i s hi hs; intros; omega
  | succ nn ih =>
    intro i s hi hs hmu
    have ed : ((i : Int) + 1).toNat = i + 1 := by omega
    have e0 : ((i : Int)).toNat = i := Int.toNat_natCast i
    have hb := sumN_r (f := fT v (h 20) (h 21) (h 19)) (B := 5660) i (fun j hj => fT_r hq (by omega))
    refine r_iload_n dX11_ticks_15 rfl rfl ?_
    refine r_aload_n dX11_ticks_16 rfl rfl ?_
    refine r_getR dX11_ticks_17 fl_X11_44 sh_0 rfl ?_
    refine r_getI dX11_ticks_20 fl_X11_155 sh_16 rfl ?_
    refine r_icmp_ge (tgt := 61) dX11_ticks_23 rfl (by omega) (by omega) (fun c_23 => ?_) (fun c_23 => ?_)
    · refine r_iload_n dX11_ticks_61 rfl rfl ?_
      refine r_iret dX11_ticks_62 rfl ?_
      have e9 : i = (h 16 0).toNat := by omega
      rw [e9] at hs
      exact ⟨_, rfl, eqP k hs.symm⟩
    · have hdz := hdn (i + 1) (by omega)
      rw [← ed] at hdz
      refine r_iload_n dX11_ticks_26 rfl rfl ?_
      refine r_if_eq (tgt := 44) dX11_ticks_27 rfl (by omega) (fun c_27 => ?_) (fun c_27 => ?_)
      · refine r_iload_n dX11_ticks_44 rfl rfl ?_
        refine r_aload_n dX11_ticks_45 rfl rfl ?_
        refine r_getR dX11_ticks_46 fl_X11_44 sh_0 rfl ?_
        refine r_iload_n dX11_ticks_49 rfl rfl ?_
        refine r_callVI (av := [_]) (M' := mX2_ticksOf) dX11_ticks_50 vX2_ticksOf ml_X11_185 sh_16 (by decide) rfl rfl rfl rfl (by simp [wtA]) (sp_X2_ticksOf_16 (by omega) (by omega) hn.2 hq ?_)
        refine r_iadd dX11_ticks_53 ?_
        refine r_nmI (fun s2 e_s2 => ?_)
        refine r_istore_n (L' := [_, _, _, _]) dX11_ticks_54 rfl rfl (by decide) rfl ?_
        refine r_iinc (L' := [_, _, _, _]) dX11_ticks_55 rfl rfl (by decide) rfl ?_
        refine r_goto (tgt := 15) dX11_ticks_58 rfl ?_
        refine ih (i + 1) _ (by omega) ?_ (by omega)
        simp only [sumN]
        first
          | (have e : fT v (h 20) (h 21) (h 19) i = tkF (h 20) (h 21) i := if_pos (by first | exact Or.inl c_27 | (rw [← ed]; exact Or.inr c_41))
             rw [e0] at e_s2
             omega)
          | (have e : fT v (h 20) (h 21) (h 19) i = 0 := if_neg (by rw [← ed]; omega)
             omega)
      · refine r_aload_n dX11_ticks_30 rfl rfl ?_
        refine r_getR dX11_ticks_31 fl_X11_44 sh_0 rfl ?_
        refine r_getR dX11_ticks_34 fl_X11_181 sh_16 rfl ?_
        refine r_iload_n dX11_ticks_37 rfl rfl ?_
        refine r_iconst dX11_ticks_38 ?_
        refine r_iadd dX11_ticks_39 ?_
        refine r_zald dX11_ticks_40 sh_19 (by decide) (by omega) ?_
        refine r_if_eq (tgt := 55) dX11_ticks_41 rfl (by omega) (fun c_41 => ?_) (fun c_41 => ?_)
        · refine r_iinc (L' := [_, _, _, _]) dX11_ticks_55 rfl rfl (by decide) rfl ?_
          refine r_goto (tgt := 15) dX11_ticks_58 rfl ?_
          refine ih (i + 1) _ (by omega) ?_ (by omega)
          simp only [sumN]
          first
            | (have e : fT v (h 20) (h 21) (h 19) i = tkF (h 20) (h 21) i := if_pos (by first | exact Or.inl c_27 | (rw [← ed]; exact Or.inr c_41))
               rw [e0] at e_s2
               omega)
            | (have e : fT v (h 20) (h 21) (h 19) i = 0 := if_neg (by rw [← ed]; omega)
               omega)
        · refine r_iload_n dX11_ticks_44 rfl rfl ?_
          refine r_aload_n dX11_ticks_45 rfl rfl ?_
          refine r_getR dX11_ticks_46 fl_X11_44 sh_0 rfl ?_
          refine r_iload_n dX11_ticks_49 rfl rfl ?_
          refine r_callVI (av := [_]) (M' := mX2_ticksOf) dX11_ticks_50 vX2_ticksOf ml_X11_185 sh_16 (by decide) rfl rfl rfl rfl (by simp [wtA]) (sp_X2_ticksOf_16 (by omega) (by omega) hn.2 hq ?_)
          refine r_iadd dX11_ticks_53 ?_
          refine r_nmI (fun s2 e_s2 => ?_)
          refine r_istore_n (L' := [_, _, _, _]) dX11_ticks_54 rfl rfl (by decide) rfl ?_
          refine r_iinc (L' := [_, _, _, _]) dX11_ticks_55 rfl rfl (by decide) rfl ?_
          refine r_goto (tgt := 15) dX11_ticks_58 rfl ?_
          refine ih (i + 1) _ (by omega) ?_ (by omega)
          simp only [sumN]
          first
            | (have e : fT v (h 20) (h 21) (h 19) i = tkF (h 20) (h 21) i := if_pos (by first | exact Or.inl c_27 | (rw [← ed]; exact Or.inr c_41))
               rw [e0] at e_s2
               omega)
            | (have e : fT v (h 20) (h 21) (h 19) i = 0 := if_neg (by rw [← ed]; omega)
               omega)
set_option maxRecDepth 20000 in
set_option maxHeartbeats 400000 in
theorem sp_X11_ticks {d : Nat} (hd : 3 ≤ d) {v : Int} {h : Hp}  (hw : WOK h) (hv : R32 v) (hn : 0 ≤ (h 16 0) ∧ (h 16 0) ≤ 150) (hq : LR (h 20) (h 21) (h 16 0)) (hdn : ∀ p : Nat, (p : Int) ≤ (h 16 0) → h 19 p = 0 ∨ h 19 p = 1) {P : Int → Hp → Prop} (k : ∀ h' : Hp, (FrC h h') → P (fnTicks v (h 16 0) (h 20) (h 21) (h 19)) h') : Cl d mX11_ticks [.inr (.inr 0), .inl v] h (pI P) := by
  refine Cl.of (L := [some (.inr (.inr 0)), some (.inl v), none, none]) (by decide +kernel) (Nat.le_of_ble_eq_true rfl) rfl ?_
  obtain ⟨d, rfl⟩ : ∃ q, d = q + 1 := ⟨d - 1, by omega⟩
  refine r_iload_n dX11_ticks_0 rfl rfl ?_
  refine r_if_eq (tgt := 11) dX11_ticks_1 rfl (by omega) (fun c_1 => ?_) (fun c_1 => ?_)
  · refine r_iconst dX11_ticks_11 ?_
    refine r_istore_n (L' := [_, _, _, _]) dX11_ticks_12 rfl rfl (by decide) rfl ?_
    refine r_iconst dX11_ticks_13 ?_
    refine r_istore_n (L' := [_, _, _, _]) dX11_ticks_14 rfl rfl (by decide) rfl ?_
    have k := k h (FrC.rf hw)
    unfold fnTicks at k
    rw [if_pos (by omega)] at k
    exact lp_cticks (by omega) (by omega) hn hq hdn k 151 0 0 (by omega) rfl (by omega)
  · refine r_iload_n dX11_ticks_4 rfl rfl ?_
    refine r_iconst dX11_ticks_5 ?_
    refine r_icmp_eq (tgt := 11) dX11_ticks_6 rfl (by omega) ⟨by decide, by decide⟩ (fun c_6 => ?_) (fun c_6 => ?_)
    · refine r_iconst dX11_ticks_11 ?_
      refine r_istore_n (L' := [_, _, _, _]) dX11_ticks_12 rfl rfl (by decide) rfl ?_
      refine r_iconst dX11_ticks_13 ?_
      refine r_istore_n (L' := [_, _, _, _]) dX11_ticks_14 rfl rfl (by decide) rfl ?_
      have k := k h (FrC.rf hw)
      unfold fnTicks at k
      rw [if_pos (by omega)] at k
      exact lp_cticks (by omega) (by omega) hn hq hdn k 151 0 0 (by omega) rfl (by omega)
    · refine r_iconst dX11_ticks_9 ?_
      refine r_iret dX11_ticks_10 rfl ?_
      have k := k h (FrC.rf hw)
      unfold fnTicks at k
      rw [if_neg (by omega)] at k
      exact ⟨_, rfl, k⟩
set_option maxRecDepth 20000 in
set_option maxHeartbeats 400000 in
theorem lp_mticks {d : Nat} (hd : 5 ≤ d) {P : Int → Hp → Prop} {h : Hp} {v : Int} (hw : MOK h) (hv : v = 0 ∨ v = 1) (hn : 0 ≤ (h 49 29) ∧ (h 49 29) ≤ 150) (hxy : MXY (h 49 3) (h 49 4) (h 60) (h 61) 0 (h 49 29)) (hdn : ∀ p : Nat, (p : Int) ≤ (h 49 29) → h 62 p = 0 ∨ h 62 p = 1) (k : P (sumN (fT v (mL (h 49 5) (h 49 6) (h 60) (h 61)) (mR (h 49 3) (h 49 5) (h 49 6) (h 60) (h 61)) (h 62)) (h 49 29).toNat) h) : ∀ (nn : Nat) (i : Nat) (s : Int), ((i : Int) ≤ (h 49 29)) → (s = sumN (fT v (mL (h 49 5) (h 49 6) (h 60) (h 61)) (mR (h 49 3) (h 49 5) (h 49 6) (h 60) (h 61)) (h 62)) i) → (h 49 29).toNat - i < nn → WW mX12_ticks (d + 1) (pI P) 20 [some (.inr (.inr 49)), some (.inl v), some (.inl s), some (.inl (i : Int))] [] h := by
  intro nn
  induction nn with
  | zero => intro i s hi hs; intros; omega
  | succ nn ih =>
    intro i s hi hs hmu
    have ed : ((i : Int) + 1).toNat = i + 1 := by omega
    have e0 : ((i : Int)).toNat = i := Int.toNat_natCast i
    have hq := hxy.lr (K := (h 49 5)) (E := (h 49 6)) (by omega) (by omega) (by omega) (by omega)
    have hb := sumN_r (f := fT v (mL (h 49 5) (h 49 6) (h 60) (h 61)) (mR (h 49 3) (h 49 5) (h 49 6) (h 60) (h 61)) (h 62)) (B := 5660) i (fun j hj => fT_r hq (by omega))
    refine r_iload_n dX12_ticks_20 rfl rfl ?_
    refine r_aload_n dX12_ticks_21 rfl rfl ?_
    refine r_getI dX12_ticks_22 fl_X12_164 sh_49 rfl ?_
    refine r_icmp_ge (tgt := 61) dX12_ticks_25 rfl (by omega) (by omega) (fun c_25 => ?_) (fun c_25 => ?_)
    · refine r_iload_n dX12_ticks_61 rfl rfl ?_
      refine r_iret dX12_ticks_62 rfl ?_
      have e9 : i = (h 49 29).toNat := by omega
      rw [e9] at hs
      exact ⟨_, rfl, eqP k hs.symm⟩
    · have hdz := hdn (i + 1) (by omega)
      rw [← ed] at hdz
      refine r_iload_n dX12_ticks_28 rfl rfl ?_
      refine r_iload_n dX12_ticks_29 rfl rfl ?_
      refine r_if_eq (tgt := 44) dX12_ticks_30 rfl (by omega) (fun c_30 => ?_) (fun c_30 => ?_)
      · refine r_aload_n dX12_ticks_44 rfl rfl ?_
        refine r_iload_n dX12_ticks_45 rfl rfl ?_
        refine r_callVI (av := [_]) (M' := mX12_ticksOf) dX12_ticks_46 vX12_ticksOf ml_X12_356 sh_49 (by decide) rfl rfl rfl rfl (by simp [wtA]) (sp_X12_ticksOf (by omega) (by omega) (by omega) (fun p hp => by have := hxy p (by omega); rw [Nat.zero_add] at this; exact this) ?_)
        refine r_goto (tgt := 53) dX12_ticks_49 rfl ?_
        refine r_iadd dX12_ticks_53 ?_
        refine r_nmI (fun s2 e_s2 => ?_)
        refine r_istore_n (L' := [_, _, _, _]) dX12_ticks_54 rfl rfl (by decide) rfl ?_
        refine r_iinc (L' := [_, _, _, _]) dX12_ticks_55 rfl rfl (by decide) rfl ?_
        refine r_goto (tgt := 20) dX12_ticks_58 rfl ?_
        refine ih (i + 1) _ (by omega) ?_ (by omega)
        simp only [sumN]
        first
          | (have e : fT v (mL (h 49 5) (h 49 6) (h 60) (h 61)) (mR (h 49 3) (h 49 5) (h 49 6) (h 60) (h 61)) (h 62) i = tkF (mL (h 49 5) (h 49 6) (h 60) (h 61)) (mR (h 49 3) (h 49 5) (h 49 6) (h 60) (h 61)) i := if_pos (by first | exact Or.inl c_30 | (rw [← ed]; exact Or.inr c_41))
             rw [e0] at e_s2
             omega)
          | (have e : fT v (mL (h 49 5) (h 49 6) (h 60) (h 61)) (mR (h 49 3) (h 49 5) (h 49 6) (h 60) (h 61)) (h 62) i = 0 := if_neg (by rw [← ed]; omega)
             omega)
      · refine r_aload_n dX12_ticks_33 rfl rfl ?_
        refine r_getR dX12_ticks_34 fl_X12_65 sh_49 rfl ?_
        refine r_iload_n dX12_ticks_37 rfl rfl ?_
        refine r_iconst dX12_ticks_38 ?_
        refine r_iadd dX12_ticks_39 ?_
        refine r_zald dX12_ticks_40 sh_62 (by decide) (by omega) ?_
        refine r_if_eq (tgt := 52) dX12_ticks_41 rfl (by omega) (fun c_41 => ?_) (fun c_41 => ?_)
        · refine r_iconst dX12_ticks_52 ?_
          refine r_iadd dX12_ticks_53 ?_
          refine r_nmI (fun s2 e_s2 => ?_)
          refine r_istore_n (L' := [_, _, _, _]) dX12_ticks_54 rfl rfl (by decide) rfl ?_
          refine r_iinc (L' := [_, _, _, _]) dX12_ticks_55 rfl rfl (by decide) rfl ?_
          refine r_goto (tgt := 20) dX12_ticks_58 rfl ?_
          refine ih (i + 1) _ (by omega) ?_ (by omega)
          simp only [sumN]
          first
            | (have e : fT v (mL (h 49 5) (h 49 6) (h 60) (h 61)) (mR (h 49 3) (h 49 5) (h 49 6) (h 60) (h 61)) (h 62) i = tkF (mL (h 49 5) (h 49 6) (h 60) (h 61)) (mR (h 49 3) (h 49 5) (h 49 6) (h 60) (h 61)) i := if_pos (by first | exact Or.inl c_30 | (rw [← ed]; exact Or.inr c_41))
               rw [e0] at e_s2
               omega)
            | (have e : fT v (mL (h 49 5) (h 49 6) (h 60) (h 61)) (mR (h 49 3) (h 49 5) (h 49 6) (h 60) (h 61)) (h 62) i = 0 := if_neg (by rw [← ed]; omega)
               omega)
        · refine r_aload_n dX12_ticks_44 rfl rfl ?_
          refine r_iload_n dX12_ticks_45 rfl rfl ?_
          refine r_callVI (av := [_]) (M' := mX12_ticksOf) dX12_ticks_46 vX12_ticksOf ml_X12_356 sh_49 (by decide) rfl rfl rfl rfl (by simp [wtA]) (sp_X12_ticksOf (by omega) (by omega) (by omega) (fun p hp => by have := hxy p (by omega); rw [Nat.zero_add] at this; exact this) ?_)
          refine r_goto (tgt := 53) dX12_ticks_49 rfl ?_
          refine r_iadd dX12_ticks_53 ?_
          refine r_nmI (fun s2 e_s2 => ?_)
          refine r_istore_n (L' := [_, _, _, _]) dX12_ticks_54 rfl rfl (by decide) rfl ?_
          refine r_iinc (L' := [_, _, _, _]) dX12_ticks_55 rfl rfl (by decide) rfl ?_
          refine r_goto (tgt := 20) dX12_ticks_58 rfl ?_
          refine ih (i + 1) _ (by omega) ?_ (by omega)
          simp only [sumN]
          first
            | (have e : fT v (mL (h 49 5) (h 49 6) (h 60) (h 61)) (mR (h 49 3) (h 49 5) (h 49 6) (h 60) (h 61)) (h 62) i = tkF (mL (h 49 5) (h 49 6) (h 60) (h 61)) (mR (h 49 3) (h 49 5) (h 49 6) (h 60) (h 61)) i := if_pos (by first | exact Or.inl c_30 | (rw [← ed]; exact Or.inr c_41))
               rw [e0] at e_s2
               omega)
            | (have e : fT v (mL (h 49 5) (h 49 6) (h 60) (h 61)) (mR (h 49 3) (h 49 5) (h 49 6) (h 60) (h 61)) (h 62) i = 0 := if_neg (by rw [← ed]; omega)
               omega)
set_option maxRecDepth 20000 in
set_option maxHeartbeats 400000 in
theorem sp_X12_ticks {d : Nat} (hd : 6 ≤ d) {v : Int} {h : Hp}  (hw : MOK h) (hv : R32 v) (hn : 0 ≤ (h 49 29) ∧ (h 49 29) ≤ 150) (hxy : MXY (h 49 3) (h 49 4) (h 60) (h 61) 0 (h 49 29)) (hdn : ∀ p : Nat, (p : Int) ≤ (h 49 29) → h 62 p = 0 ∨ h 62 p = 1) {P : Int → Hp → Prop} (k : ∀ h' : Hp, (FrM h h') → P (fnTicks v (h 49 29) (mL (h 49 5) (h 49 6) (h 60) (h 61)) (mR (h 49 3) (h 49 5) (h 49 6) (h 60) (h 61)) (h 62)) h') : Cl d mX12_ticks [.inr (.inr 49), .inl v] h (pI P) := by
  refine Cl.of (L := [some (.inr (.inr 49)), some (.inl v), none, none]) (by decide +kernel) (Nat.le_of_ble_eq_true rfl) rfl ?_
  obtain ⟨d, rfl⟩ : ∃ q, d = q + 1 := ⟨d - 1, by omega⟩
  refine r_aload_n dX12_ticks_0 rfl rfl ?_
  refine r_iconst dX12_ticks_1 ?_
  refine r_putI dX12_ticks_2 fl_X12_127 sh_49 rfl ?_
  refine r_gh (fun g eg => ?_)
  have f : FrM h g := by rw [eg]; exact FrM.rf.up rfl
  have e3 : g 49 3 = h 49 3 := f 49 3 rfl
  have e4 : g 49 4 = h 49 4 := f 49 4 rfl
  have e5 : g 49 5 = h 49 5 := f 49 5 rfl
  have e6 : g 49 6 = h 49 6 := f 49 6 rfl
  have e7 : g 49 7 = h 49 7 := f 49 7 rfl
  have e8 : g 49 8 = h 49 8 := f 49 8 rfl
  have e29 : g 49 29 = h 49 29 := f 49 29 rfl
  have ea60 : g 60 = h 60 := funext fun j => f 60 j rfl
  have ea61 : g 61 = h 61 := funext fun j => f 61 j rfl
  have ea62 : g 62 = h 62 := funext fun j => f 62 j rfl
  have k := k g f
  try simp only [← e3, ← e4, ← e5, ← e6, ← e7, ← e8, ← e29, ← ea60, ← ea61, ← ea62] at k
  have w : MOK g := by omega
  refine r_iload_n dX12_ticks_5 rfl rfl ?_
  refine r_iconst dX12_ticks_6 ?_
  refine r_iconst dX12_ticks_7 ?_
  refine r_callSI (av := [_, _, _]) (M' := mX12_isIn) dX12_ticks_8 sX12_isIn ml_X12_160 rfl rfl (by simp [wtA]) (sp_X12_isIn (by omega) (by omega) (by omega) (by omega) (fun b_8 => ?_) (fun b_8 => ?_))
  · refine r_if_ne (tgt := 16) dX12_ticks_11 rfl ⟨by decide, by decide⟩ (fun c_11 => ?_) (fun c_11 => absurd c_11 (by decide))
    refine r_iconst dX12_ticks_16 ?_
    refine r_istore_n (L' := [_, _, _, _]) dX12_ticks_17 rfl rfl (by decide) rfl ?_
    refine r_iconst dX12_ticks_18 ?_
    refine r_istore_n (L' := [_, _, _, _]) dX12_ticks_19 rfl rfl (by decide) rfl ?_
    unfold fnTicks at k
    rw [if_pos (by omega)] at k
    exact lp_mticks (by omega) w (by omega) (by omega) (by rw [e3, e4, e29, ea60, ea61]; exact hxy) (by rw [e29, ea62]; exact hdn) k 151 0 0 (by omega) rfl (by omega)
  · refine r_if_ne (tgt := 16) dX12_ticks_11 rfl ⟨by decide, by decide⟩ (fun c_11 => absurd c_11 (by decide)) (fun c_11 => ?_)
    refine r_iconst dX12_ticks_14 ?_
    refine r_iret dX12_ticks_15 rfl ?_
    unfold fnTicks at k
    rw [if_neg (by omega)] at k
    exact ⟨_, rfl, k⟩
theorem REL.lr {h : Hp} (r : REL h) : LR (h 20) (h 21) (h 16 0) := r.2.2.2.1.2.lr (by have := r.1; omega) (by have := r.1; omega) (by have := r.1; omega) (by have := r.1; omega)
theorem REL.mxy {h : Hp} (r : REL h) : MXY (h 49 3) (h 49 4) (h 60) (h 61) 0 (h 49 29) := by
  have q := r.1
  rw [q.2.2.1, q.2.2.2.1, r.2.2.2.1.1]
  exact r.2.2.2.1.2.mxy
theorem REL.tk {h : Hp} (r : REL h) {i : Nat} (hi : (i : Int) ≤ h 16 0) : h 20 i = mL (h 49 5) (h 49 6) (h 60) (h 61) i ∧ h 21 i = mR (h 49 3) (h 49 5) (h 49 6) (h 60) (h 61) i ∧ h 19 i = h 62 i := by
  have q := r.1
  rw [q.2.2.1, q.2.2.2.2.1, q.2.2.2.2.2.1]
  exact r.2.2.2.1.2.tk hi
theorem REL.dn {h : Hp} (r : REL h) {p : Nat} (hp : (p : Int) ≤ h 16 0) : h 19 p = 0 ∨ h 19 p = 1 := (r.2.2.2.1.2.2.2 p hp).2.2.2.2.1
theorem REL.n {h : Hp} (r : REL h) : 0 ≤ h 16 0 ∧ h 16 0 ≤ 150 ∧ h 49 29 = h 16 0 := ⟨r.2.2.2.1.2.1, r.2.2.2.1.2.2.1, r.2.2.2.1.1⟩
theorem pr_ticks {d : Nat} (hd : 20 ≤ d) {v : Int} (hv : R32 v) : PR d mX11_ticks mX12_ticks [.inl v] := by
  intro h r
  refine sp_X11_ticks (by omega) r.1.1 hv ⟨r.n.1, r.n.2.1⟩ r.lr (fun p hp => r.dn hp) (fun h1 f => ?_)
  have r1 := f.rel r
  have n1 := r1.n
  refine sp_X12_ticks (by omega) r1.1.2.1 hv (by omega) r1.mxy (fun p hp => by have := (r1.tk (i := p) (by omega)).2.2; rw [← this]; exact r1.dn (by omega)) (fun h2 f2 => ⟨?_, f2.rel r1⟩)
  have q : ∀ a k, scrC a k = false → h1 a k = h a k := f.1
  rw [← q 16 0 rfl, ← (show h1 20 = h 20 from funext fun j => q 20 j rfl), ← (show h1 21 = h 21 from funext fun j => q 21 j rfl), ← (show h1 19 = h 19 from funext fun j => q 19 j rfl)]
  unfold fnTicks
  rw [n1.2.2]
  split
  · refine sumN_congr _ (fun i hi => ?_)
    have t0 := r1.tk (i := i) (by omega)
    have t1 := r1.tk (i := i + 1) (by omega)
    unfold fT tkF
    rw [t0.1, t0.2.1, t1.1, t1.2.1, t1.2.2]
  · rfl
