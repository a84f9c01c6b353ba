/-! A RUN: begin, tick -/
def NORM (tk : Nat → Int) (N m dn t : Int) : Prop := 0 ≤ m ∧ m ≤ N ∧ 0 ≤ dn ∧ (m = N → dn = 0) ∧ (m < N → dn < tk m.toNat) ∧ t = sumN tk m.toNat + dn
/-- not yet past moves without ticks -/
def PREN (tk : Nat → Int) (N m dn t : Int) : Prop := 0 ≤ m ∧ m ≤ N ∧ 0 ≤ dn ∧ (m = N → dn = 0) ∧ (m < N → dn ≤ tk m.toNat) ∧ t = sumN tk m.toNat + dn
theorem NORM.pre {tk : Nat → Int} {N m dn t : Int} (h : NORM tk N m dn t) : PREN tk N m dn t := ⟨h.1, h.2.1, h.2.2.1, h.2.2.2.1, fun q => by have := h.2.2.2.2.1 q; omega, h.2.2.2.2.2⟩
theorem sumN_mono {f : Nat → Int} {a b : Nat} (h : a ≤ b) (hf : ∀ i, i < b → 0 ≤ f i) : sumN f a ≤ sumN f b := by
  induction b with
  | zero => rw [show a = 0 by omega]; omega
  | succ b ih =>
    by_cases q : a = b + 1
    · rw [q]; omega
    · have := ih (by omega) (fun i hi => hf i (by omega))
      have := hf b (by omega)
      simp only [sumN]
      omega
def TKOK (tk : Nat → Int) (N : Int) : Prop := 0 ≤ N ∧ N ≤ 150 ∧ ∀ i : Nat, (i : Int) < N → 0 ≤ tk i ∧ tk i ≤ 5660
theorem TKOK.s {tk : Nat → Int} {N : Int} (h : TKOK tk N) {m : Nat} (hm : (m : Int) ≤ N) : 0 ≤ sumN tk m ∧ sumN tk m ≤ 849000 ∧ sumN tk m ≤ sumN tk N.toNat := by
  have a := sumN_r (f := tk) (B := 5660) m (fun i hi => h.2.2 i (by omega))
  have b := sumN_mono (f := tk) (a := m) (b := N.toNat) (by omega) (fun i hi => (h.2.2 i (by omega)).1)
  have := h.1
  have := h.2.1
  omega
theorem NORM.uniq {tk : Nat → Int} {N m dn m2 dn2 t : Int} (hk : TKOK tk N) (h : NORM tk N m dn t) (h2 : NORM tk N m2 dn2 t) : m = m2 ∧ dn = dn2 := by
  have key : ∀ {m dn m2 dn2 : Int}, NORM tk N m dn t → NORM tk N m2 dn2 t → ¬ m < m2 := by
    intro m dn m2 dn2 h h2 q
    obtain ⟨a1, a2, a3, a4, a5, a6⟩ := h
    obtain ⟨b1, b2, b3, b4, b5, b6⟩ := h2
    have := a5 (by omega)
    have s := sumN_mono (f := tk) (a := m.toNat + 1) (b := m2.toNat) (by omega) (fun i hi => (hk.2.2 i (by omega)).1)
    simp only [sumN] at s
    omega
  have e : m = m2 := by
    have := key h h2
    have := key h2 h
    omega
  subst e
  refine ⟨rfl, ?_⟩
  have := h.2.2.2.2.2
  have := h2.2.2.2.2.2
  omega
def ADVC (h g : Hp) (n : Int) : Prop := (∀ a k, ¬ (a = 48 ∧ (k = 1 ∨ k = 2 ∨ k = 3)) → g a k = h a k) ∧ NORM (tkF (h 20) (h 21)) (h 16 0) (g 48 1) (g 48 2) (g 48 3) ∧ g 48 3 = min (h 48 3 + n) (sumN (tkF (h 20) (h 21)) (h 16 0).toNat)
theorem LR.tk {lf rg : Nat → Int} {n : Int} (h : LR lf rg n) (hn : 0 ≤ n ∧ n ≤ 150) : TKOK (tkF lf rg) n := ⟨hn.1, hn.2, fun _ hi => tkF_r h hi⟩
set_option maxRecDepth 20000 in
set_option maxHeartbeats 400000 in
theorem lp_adv {d : Nat} (hd : 2 ≤ d) {P : Int → Hp → Prop} {h : Hp} {n : Int} (hq : LR (h 20) (h 21) (h 16 0)) (hN : 0 ≤ (h 16 0) ∧ (h 16 0) ≤ 150) (k : ∀ g : Hp, ADVC h g n → P (g 48 3) g) : ∀ (nn : Nat) (m : Nat) (rest : Int) (g : Hp) (o : Option AV), ((m : Int) ≤ (h 16 0)) → (∀ a k, ¬ (a = 48 ∧ (k = 1 ∨ k = 2 ∨ k = 3)) → g a k = h a k) → (PREN (tkF (h 20) (h 21)) (h 16 0) m (g 48 2) (g 48 3)) → (g 48 1 = m) → (0 ≤ rest ∧ rest ≤ 100000) → (g 48 3 + rest = h 48 3 + n) → (h 16 0).toNat - m < nn → WW mX6_advance (d + 1) (pI P) 7 [some (.inr (.inr 48)), some (.inl n), some (.inl rest), some (.inl (m : Int)), o] [] g := by
  intro nn
  induction nn with
  | zero => intro m rest g o hm hg hp h1 hr hc; intros; omega
  | succ nn ih =>
    intro m rest g o hm hg hp h1 hr hc hmu
    have ok := hq.tk hN
    have s0 := ok.s (m := m) hm
    have e0 : ((m : Int)).toNat = m := Int.toNat_natCast m
    have wn := hg 16 0 (by decide)
    have w20 : g 20 = h 20 := funext fun j => hg 20 j (by omega)
    have w21 : g 21 = h 21 := funext fun j => hg 21 j (by omega)
    obtain ⟨p1, p2, p3, p4, p5, p6⟩ := hp
    rw [e0] at p5 p6
    refine r_iload_n dX6_advance_7 rfl rfl ?_
    refine r_aload_n dX6_advance_8 rfl rfl ?_
    refine r_getR dX6_advance_9 fl_X6_25 sh_48 rfl ?_
    refine r_getI dX6_advance_12 fl_X6_33 sh_16 rfl ?_
    refine r_icmp_ge (tgt := 98) dX6_advance_15 rfl (by omega) (by omega) (fun c_15 => ?_) (fun c_15 => ?_)
    · refine r_aload_n dX6_advance_98 rfl rfl ?_
      refine r_getI dX6_advance_99 fl_X6_22 sh_48 rfl ?_
      refine r_iret dX6_advance_102 rfl ?_
      have e9 : (m : Int) = (h 16 0) := by omega
      refine ⟨_, rfl, k g ⟨hg, ?_, ?_⟩⟩
      · rw [h1]
        exact ⟨p1, p2, p3, p4, fun z => by omega, by rw [e0]; exact p6⟩
      · have e8 : (h 16 0).toNat = m := by omega
        have := p4 e9
        rw [e8]
        omega
    · have t0 := ok.2.2 m (by omega)
      have s1 := ok.s (m := m + 1) (by omega)
      simp only [sumN] at s1
      have p5 := p5 (by omega)
      refine r_aload_n dX6_advance_18 rfl rfl ?_
      refine r_getR dX6_advance_19 fl_X6_25 sh_48 rfl ?_
      refine r_iload_n dX6_advance_22 rfl rfl ?_
      refine r_callVI (av := [_]) (M' := mX2_ticksOf) dX6_advance_23 vX2_ticksOf ml_X6_38 sh_16 (by decide) rfl rfl rfl rfl (by simp [wtA]) (sp_X2_ticksOf_16 (by omega) (n := (h 16 0)) (by omega) hN.2 (by rw [w20, w21]; exact hq) ?_)
      rw [w20, w21, e0]
      refine r_aload_n dX6_advance_26 rfl rfl ?_
      refine r_getI dX6_advance_27 fl_X6_19 sh_48 rfl ?_
      refine r_isub dX6_advance_30 ?_
      refine r_nmI (fun te e_te => ?_)
      refine r_istore (L' := [_, _, _, _, _]) dX6_advance_31 rfl (by decide) rfl ?_
      refine r_iload dX6_advance_33 rfl ?_
      refine r_iload_n dX6_advance_35 rfl rfl ?_
      refine r_icmp_le (tgt := 64) dX6_advance_36 rfl (by omega) (by omega) (fun c_36 => ?_) (fun c_36 => ?_)
      · refine r_aload_n dX6_advance_64 rfl rfl ?_
        refine r_dup dX6_advance_65 (fun _ h => by cases h) ?_
        refine r_getI dX6_advance_66 fl_X6_22 sh_48 rfl ?_
        refine r_iload dX6_advance_69 rfl ?_
        refine r_iadd dX6_advance_71 ?_
        refine r_putI dX6_advance_72 fl_X6_22 sh_48 rfl ?_
        refine r_iload_n dX6_advance_75 rfl rfl ?_
        refine r_iload dX6_advance_76 rfl ?_
        refine r_isub dX6_advance_78 ?_
        refine r_istore_n (L' := [_, _, _, _, _]) dX6_advance_79 rfl rfl (by decide) rfl ?_
        refine r_aload_n dX6_advance_80 rfl rfl ?_
        refine r_iconst dX6_advance_81 ?_
        refine r_putI dX6_advance_82 fl_X6_19 sh_48 rfl ?_
        refine r_aload_n dX6_advance_85 rfl rfl ?_
        refine r_iload_n dX6_advance_86 rfl rfl ?_
        refine r_iconst dX6_advance_87 ?_
        refine r_iadd dX6_advance_88 ?_
        refine r_putI dX6_advance_89 fl_X6_15 sh_48 rfl ?_
        refine r_iinc (L' := [_, _, _, _, _]) dX6_advance_92 rfl rfl (by decide) rfl ?_
        refine r_goto (tgt := 7) dX6_advance_95 rfl ?_
        refine ih (m + 1) _ _ _ (by omega) ?_ ?_ rfl (by omega) ?_ (by omega)
        · intro a q z
          unfold upH
          rw [if_neg (by omega), if_neg (by omega), if_neg (by omega)]
          exact hg a q z
        · show PREN _ _ ((m + 1 : Nat) : Int) 0 (g 48 3 + te)
          refine ⟨by omega, by omega, by omega, fun _ => rfl, fun z => ?_, ?_⟩
          · rw [Int.toNat_natCast]
            exact (ok.2.2 (m + 1) z).1
          · rw [Int.toNat_natCast]
            simp only [sumN]
            omega
        · show g 48 3 + te + (rest - te) = _
          omega
      · refine r_aload_n dX6_advance_39 rfl rfl ?_
        refine r_dup dX6_advance_40 (fun _ h => by cases h) ?_
        refine r_getI dX6_advance_41 fl_X6_19 sh_48 rfl ?_
        refine r_iload_n dX6_advance_44 rfl rfl ?_
        refine r_iadd dX6_advance_45 ?_
        refine r_putI dX6_advance_46 fl_X6_19 sh_48 rfl ?_
        refine r_aload_n dX6_advance_49 rfl rfl ?_
        refine r_dup dX6_advance_50 (fun _ h => by cases h) ?_
        refine r_getI dX6_advance_51 fl_X6_22 sh_48 rfl ?_
        refine r_eqI (up_nk (by decide)) ?_
        refine r_iload_n dX6_advance_54 rfl rfl ?_
        refine r_iadd dX6_advance_55 ?_
        refine r_putI dX6_advance_56 fl_X6_22 sh_48 rfl ?_
        refine r_aload_n dX6_advance_59 rfl rfl ?_
        refine r_getI dX6_advance_60 fl_X6_22 sh_48 rfl ?_
        refine r_eqI (up_s _ _ _ _) ?_
        refine r_iret dX6_advance_63 rfl ?_
        have k := k (upH (upH g 48 2 (g 48 2 + rest)) 48 3 (g 48 3 + rest)) ⟨fun a q z => ?_, ?_, ?_⟩
        · exact ⟨_, rfl, k⟩
        · unfold upH
          rw [if_neg (by omega), if_neg (by omega)]
          exact hg a q z
        · show NORM _ _ (g 48 1) (g 48 2 + rest) (g 48 3 + rest)
          rw [h1]
          refine ⟨p1, p2, by omega, fun z => by omega, fun _ => ?_, ?_⟩
          · rw [e0]; omega
          · rw [e0]; omega
        · show g 48 3 + rest = _
          omega
set_option maxRecDepth 20000 in
set_option maxHeartbeats 400000 in
theorem sp_X6_advance {d : Nat} (hd : 3 ≤ d) {n : Int} {h : Hp}  (hn : 0 ≤ n ∧ n ≤ 100000) (hq : LR (h 20) (h 21) (h 16 0)) (hN : 0 ≤ (h 16 0) ∧ (h 16 0) ≤ 150) (hp : PREN (tkF (h 20) (h 21)) (h 16 0) (h 48 1) (h 48 2) (h 48 3)) {P : Int → Hp → Prop} (k : ∀ g : Hp, ADVC h g n → P (g 48 3) g) : Cl d mX6_advance [.inr (.inr 48), .inl n] h (pI P) := by
  refine Cl.of (L := [some (.inr (.inr 48)), some (.inl n), none, none, none]) (by decide +kernel) (Nat.le_of_ble_eq_true rfl) rfl ?_
  obtain ⟨d, rfl⟩ : ∃ q, d = q + 1 := ⟨d - 1, by omega⟩
  refine r_iload_n dX6_advance_0 rfl rfl ?_
  refine r_istore_n (L' := [_, _, _, _, _]) dX6_advance_1 rfl rfl (by decide) rfl ?_
  refine r_aload_n dX6_advance_2 rfl rfl ?_
  refine r_getI dX6_advance_3 fl_X6_15 sh_48 rfl ?_
  refine r_nmI (fun mm e_mm => ?_)
  refine r_istore_n (L' := [_, _, _, _, _]) dX6_advance_6 rfl rfl (by decide) rfl ?_
  obtain ⟨j, ej⟩ := Int.eq_ofNat_of_zero_le hp.1
  subst e_mm
  rw [ej]
  have hj := hp.2.1
  rw [ej] at hp hj
  exact lp_adv (by omega) hq hN k 151 j n h _ hj (fun _ _ _ => rfl) hp ej (by omega) rfl (by omega)
set_option maxRecDepth 20000 in
set_option maxHeartbeats 400000 in
theorem sp_X6_start {d : Nat} (hd : 4 ≤ d) {h : Hp}  (hq : LR (h 20) (h 21) (h 16 0)) (hN : 0 ≤ (h 16 0) ∧ (h 16 0) ≤ 150) {P : Hp → Prop} (k : ∀ g : Hp, ADVC (upH (upH (upH (upH h 48 0 1) 48 1 0) 48 2 0) 48 3 0) g 0 → P g) : Cl d mX6_start [.inr (.inr 48)] h (pV P) := by
  refine Cl.of (L := [some (.inr (.inr 48))]) (by decide +kernel) (Nat.le_of_ble_eq_true rfl) rfl ?_
  obtain ⟨d, rfl⟩ : ∃ q, d = q + 1 := ⟨d - 1, by omega⟩
  refine r_aload_n dX6_start_0 rfl rfl ?_
  refine r_iconst dX6_start_1 ?_
  refine r_putZ dX6_start_2 fl_X6_9 sh_48 rfl (.inr rfl) ?_
  refine r_aload_n dX6_start_5 rfl rfl ?_
  refine r_iconst dX6_start_6 ?_
  refine r_putI dX6_start_7 fl_X6_15 sh_48 rfl ?_
  refine r_aload_n dX6_start_10 rfl rfl ?_
  refine r_iconst dX6_start_11 ?_
  refine r_putI dX6_start_12 fl_X6_19 sh_48 rfl ?_
  refine r_aload_n dX6_start_15 rfl rfl ?_
  refine r_iconst dX6_start_16 ?_
  refine r_putI dX6_start_17 fl_X6_22 sh_48 rfl ?_
  refine r_aload_n dX6_start_20 rfl rfl ?_
  refine r_iconst dX6_start_21 ?_
  refine r_callVI (av := [_]) (M' := mX6_advance) dX6_start_22 vX6_advance ml_X6_29 sh_48 (by decide) rfl rfl rfl rfl (by simp [wtA]) (sp_X6_advance (h := upH (upH (upH (upH h 48 0 1) 48 1 0) 48 2 0) 48 3 0) (by omega) (by omega) hq hN ⟨show (0 : Int) ≤ 0 by decide, hN.1, show (0 : Int) ≤ 0 by decide, fun _ => rfl, fun z => ((hq.tk hN).2.2 0 z).1, rfl⟩ (fun g C => ?_))
  refine r_pop dX6_start_25 (fun _ h => by cases h) ?_
  refine r_vret dX6_start_26 rfl ?_
  exact ⟨rfl, k g C⟩
set_option maxRecDepth 20000 in
set_option maxHeartbeats 400000 in
theorem sp_X11_begin {d : Nat} (hd : 5 ≤ d) {h : Hp}  (hq : LR (h 20) (h 21) (h 16 0)) (hN : 0 ≤ (h 16 0) ∧ (h 16 0) ≤ 150) {P : Hp → Prop} (k : ∀ g : Hp, ADVC (upH (upH (upH (upH h 48 0 1) 48 1 0) 48 2 0) 48 3 0) g 0 → P g) : Cl d mX11_begin [.inr (.inr 0)] h (pV P) := by
  refine Cl.of (L := [some (.inr (.inr 0))]) (by decide +kernel) (Nat.le_of_ble_eq_true rfl) rfl ?_
  obtain ⟨d, rfl⟩ : ∃ q, d = q + 1 := ⟨d - 1, by omega⟩
  refine r_aload_n dX11_begin_0 rfl rfl ?_
  refine r_getR dX11_begin_1 fl_X11_97 sh_0 rfl ?_
  refine r_callVU (av := []) (M' := mX6_start) dX11_begin_4 vX6_start ml_X11_319 sh_48 (by decide) rfl rfl rfl rfl (by simp [wtA]) (sp_X6_start (by omega) hq hN (fun g C => ?_))
  refine r_vret dX11_begin_7 rfl ?_
  exact ⟨rfl, k g C⟩
set_option maxRecDepth 20000 in
set_option maxHeartbeats 400000 in
theorem sp_X11_tick {d : Nat} (hd : 4 ≤ d) {n : Int} {h : Hp}  (hn : R32 n) (hg : (h 48 0) = 0 ∨ (h 48 0) = 1) (hq : LR (h 20) (h 21) (h 16 0)) (hN : 0 ≤ (h 16 0) ∧ (h 16 0) ≤ 150) (hp : (h 48 0) = 1 → PREN (tkF (h 20) (h 21)) (h 16 0) (h 48 1) (h 48 2) (h 48 3)) {P : Int → Hp → Prop} (kt : ((h 48 0) = 1 ∧ 0 ≤ n ∧ n ≤ 100000) → ∀ g : Hp, ADVC h g n → P (g 48 3) g) (kf : ¬ ((h 48 0) = 1 ∧ 0 ≤ n ∧ n ≤ 100000) → P (-1) h) : Cl d mX11_tick [.inr (.inr 0), .inl n] h (pI P) := by
  refine Cl.of (L := [some (.inr (.inr 0)), some (.inl n)]) (by decide +kernel) (Nat.le_of_ble_eq_true rfl) rfl ?_
  obtain ⟨d, rfl⟩ : ∃ q, d = q + 1 := ⟨d - 1, by omega⟩
  refine r_aload_n dX11_tick_0 rfl rfl ?_
  refine r_getR dX11_tick_1 fl_X11_97 sh_0 rfl ?_
  refine r_getI dX11_tick_4 fl_X11_322 sh_48 rfl ?_
  refine r_if_eq (tgt := 32) dX11_tick_7 rfl (by omega) (fun c_7 => ?_) (fun c_7 => ?_)
  · refine r_iconst dX11_tick_32 ?_
    refine r_iret dX11_tick_33 rfl ?_
    exact ⟨_, rfl, kf (by omega)⟩
  · refine r_iload_n dX11_tick_10 rfl rfl ?_
    refine r_iconst dX11_tick_11 ?_
    refine r_ldcw (z := 100000) dX11_tick_12 kc_X11_325 (by decide +kernel) ?_
    refine r_callSI (av := [_, _, _]) (M' := mX11_isWithin) dX11_tick_15 sX11_isWithin ml_X11_116 rfl rfl (by simp [wtA]) (sp_X11_isWithin (by omega) (by omega) (by omega) (by omega) (fun b_15 => ?_) (fun b_15 => ?_))
    · refine r_if_eq (tgt := 32) dX11_tick_18 rfl ⟨by decide, by decide⟩ (fun c_18 => absurd c_18 (by decide)) (fun c_18 => ?_)
      refine r_aload_n dX11_tick_21 rfl rfl ?_
      refine r_getR dX11_tick_22 fl_X11_97 sh_0 rfl ?_
      refine r_iload_n dX11_tick_25 rfl rfl ?_
      refine r_callVI (av := [_]) (M' := mX6_advance) dX11_tick_26 vX6_advance ml_X11_326 sh_48 (by decide) rfl rfl rfl rfl (by simp [wtA]) (sp_X6_advance (by omega) (by omega) hq hN (hp (by omega)) (fun g C => ?_))
      refine r_goto (tgt := 33) dX11_tick_29 rfl ?_
      refine r_iret dX11_tick_33 rfl ?_
      exact ⟨_, rfl, kt (by omega) g C⟩
    · refine r_if_eq (tgt := 32) dX11_tick_18 rfl ⟨by decide, by decide⟩ (fun c_18 => ?_) (fun c_18 => absurd c_18 (by decide))
      refine r_iconst dX11_tick_32 ?_
      refine r_iret dX11_tick_33 rfl ?_
      exact ⟨_, rfl, kf (by omega)⟩
def PASM (h g : Hp) : Prop := (∀ a k, ¬ (a = 49 ∧ (k = 63 ∨ k = 64)) → g a k = h a k) ∧ NORM (tkF (mL (h 49 5) (h 49 6) (h 60) (h 61)) (mR (h 49 3) (h 49 5) (h 49 6) (h 60) (h 61))) (h 49 29) (g 49 63) (g 49 64) (h 49 65)
set_option maxRecDepth 20000 in
set_option maxHeartbeats 400000 in
theorem lp_pass {d : Nat} (hd : 5 ≤ d) {P : Hp → Prop} {h : Hp} (hw : MOK h) (hxy : MXY (h 49 3) (h 49 4) (h 60) (h 61) 0 (h 49 29)) (hN : 0 ≤ (h 49 29) ∧ (h 49 29) ≤ 150) (k : ∀ g : Hp, PASM h g → P g) : ∀ (nn : Nat) (m : Nat) (g : Hp), (∀ a k, ¬ (a = 49 ∧ (k = 63 ∨ k = 64)) → g a k = h a k) → (g 49 63 = m) → (PREN (tkF (mL (h 49 5) (h 49 6) (h 60) (h 61)) (mR (h 49 3) (h 49 5) (h 49 6) (h 60) (h 61))) (h 49 29) m (g 49 64) (h 49 65)) → (h 49 29).toNat - m < nn → WW mX12_passes (d + 1) (pV P) 0 [some (.inr (.inr 49))] [] g := by
  intro nn
  induction nn with
  | zero => intro m g hg h1 hp; intros; omega
  | succ nn ih =>
    intro m g hg h1 hp hmu
    have hq := hxy.lr (K := (h 49 5)) (E := (h 49 6)) (by omega) (by omega) (by omega) (by omega)
    have ok := hq.tk hN
    have e0 : ((m : Int)).toNat = m := Int.toNat_natCast m
    have w3 := hg 49 3 (by decide)
    have w4 := hg 49 4 (by decide)
    have w5 := hg 49 5 (by decide)
    have w6 := hg 49 6 (by decide)
    have w7 := hg 49 7 (by decide)
    have w8 := hg 49 8 (by decide)
    have wn := hg 49 29 (by decide)
    have w60 : g 60 = h 60 := funext fun j => hg 60 j (by omega)
    have w61 : g 61 = h 61 := funext fun j => hg 61 j (by omega)
    obtain ⟨p1, p2, p3, p4, p5, p6⟩ := hp
    rw [e0] at p5 p6
    refine r_aload_n dX12_passes_0 rfl rfl ?_
    refine r_getI dX12_passes_1 fl_X12_430 sh_49 rfl ?_
    refine r_aload_n dX12_passes_4 rfl rfl ?_
    refine r_getI dX12_passes_5 fl_X12_164 sh_49 rfl ?_
    refine r_icmp_ge (tgt := 44) dX12_passes_8 rfl (by omega) (by omega) (fun c_8 => ?_) (fun c_8 => ?_)
    · refine r_vret dX12_passes_44 rfl ?_
      refine ⟨rfl, k g ⟨hg, ?_⟩⟩
      rw [h1]
      refine ⟨p1, p2, p3, p4, fun z => ?_, by rw [e0]; exact p6⟩
      rw [e0]
      first | omega | (have := p5 z; omega)
    · have t0 := ok.2.2 m (by omega)
      have p5 := p5 (by omega)
      refine r_aload_n dX12_passes_11 rfl rfl ?_
      refine r_getI dX12_passes_12 fl_X12_433 sh_49 rfl ?_
      refine r_aload_n dX12_passes_15 rfl rfl ?_
      refine r_aload_n dX12_passes_16 rfl rfl ?_
      refine r_getI dX12_passes_17 fl_X12_430 sh_49 rfl ?_
      refine r_callVI (av := [_]) (M' := mX12_ticksOf) dX12_passes_20 vX12_ticksOf ml_X12_356 sh_49 (by decide) rfl rfl rfl rfl (by simp [wtA]) (sp_X12_ticksOf (by omega) (by omega) (by omega) (fun p hp => by have := hxy p (by omega); rw [Nat.zero_add] at this; rw [w60, w61, w3, w4]; exact this) ?_)
      rw [w3, w5, w6, w60, w61, h1, e0]
      refine r_icmp_ne (tgt := 44) dX12_passes_23 rfl (by omega) (by omega) (fun c_23 => ?_) (fun c_23 => ?_)
      · refine r_vret dX12_passes_44 rfl ?_
        refine ⟨rfl, k g ⟨hg, ?_⟩⟩
        rw [h1]
        refine ⟨p1, p2, p3, p4, fun z => ?_, by rw [e0]; exact p6⟩
        rw [e0]
        first | omega | (have := p5 z; omega)
      · refine r_aload_n dX12_passes_26 rfl rfl ?_
        refine r_dup dX12_passes_27 (fun _ h => by cases h) ?_
        refine r_getI dX12_passes_28 fl_X12_430 sh_49 rfl ?_
        refine r_iconst dX12_passes_31 ?_
        refine r_iadd dX12_passes_32 ?_
        refine r_putI dX12_passes_33 fl_X12_430 sh_49 rfl ?_
        refine r_aload_n dX12_passes_36 rfl rfl ?_
        refine r_iconst dX12_passes_37 ?_
        refine r_putI dX12_passes_38 fl_X12_433 sh_49 rfl ?_
        refine r_goto (tgt := 0) dX12_passes_41 rfl ?_
        refine ih (m + 1) _ ?_ ?_ ?_ (by omega)
        · intro a q z
          unfold upH
          rw [if_neg (by omega), if_neg (by omega)]
          exact hg a q z
        · show g 49 63 + 1 = _
          omega
        · show PREN _ _ ((m + 1 : Nat) : Int) 0 _
          refine ⟨by omega, by omega, by omega, fun _ => rfl, fun z => ?_, ?_⟩
          · rw [Int.toNat_natCast]
            exact (ok.2.2 (m + 1) z).1
          · rw [Int.toNat_natCast]
            simp only [sumN]
            omega
set_option maxRecDepth 20000 in
set_option maxHeartbeats 400000 in
theorem sp_X12_passes {d : Nat} (hd : 6 ≤ d) {h : Hp}  (hw : MOK h) (hxy : MXY (h 49 3) (h 49 4) (h 60) (h 61) 0 (h 49 29)) (hN : 0 ≤ (h 49 29) ∧ (h 49 29) ≤ 150) (hp : PREN (tkF (mL (h 49 5) (h 49 6) (h 60) (h 61)) (mR (h 49 3) (h 49 5) (h 49 6) (h 60) (h 61))) (h 49 29) (h 49 63) (h 49 64) (h 49 65)) {P : Hp → Prop} (k : ∀ g : Hp, PASM h g → P g) : Cl d mX12_passes [.inr (.inr 49)] h (pV P) := by
  refine Cl.of (L := [some (.inr (.inr 49))]) (by decide +kernel) (Nat.le_of_ble_eq_true rfl) rfl ?_
  obtain ⟨d, rfl⟩ : ∃ q, d = q + 1 := ⟨d - 1, by omega⟩
  obtain ⟨j, ej⟩ := Int.eq_ofNat_of_zero_le hp.1
  rw [ej] at hp
  exact lp_pass (by omega) hw hxy hN k 151 j h (fun _ _ _ => rfl) ej hp (by omega)
