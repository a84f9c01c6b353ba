/-! A RUN of the reference -/
noncomputable def tkM (h : Hp) : Nat → Int := tkF (mL (h 49 5) (h 49 6) (h 60) (h 61)) (mR (h 49 3) (h 49 5) (h 49 6) (h 60) (h 61))
def ADVM (h g : Hp) (n : Int) : Prop := (∀ a k, ¬ (a = 49 ∧ (k = 63 ∨ k = 64 ∨ k = 65)) → g a k = h a k) ∧ NORM (tkM h) (h 49 29) (g 49 63) (g 49 64) (g 49 65) ∧ g 49 65 = min (h 49 65 + n) (sumN (tkM h) (h 49 29).toNat)
theorem tkM_eq {h g : Hp} (e : ∀ a k, ¬ (a = 49 ∧ (k = 63 ∨ k = 64 ∨ k = 65)) → g a k = h a k) : tkM g = tkM h := by
  unfold tkM
  rw [e 49 5 (by decide), e 49 6 (by decide), e 49 3 (by decide), (show g 60 = h 60 from funext fun j => e 60 j (by omega)), (show g 61 = h 61 from funext fun j => e 61 j (by omega))]
set_option maxRecDepth 20000 in
set_option maxHeartbeats 400000 in
theorem lp_mtick {d : Nat} (hd : 6 ≤ d) {P : Int → Hp → Prop} {h : Hp} {n : Int} (hw : MOK h) (hxy : MXY (h 49 3) (h 49 4) (h 60) (h 61) 0 (h 49 29)) (hN : 0 ≤ (h 49 29) ∧ (h 49 29) ≤ 150) (k : ∀ g : Hp, ADVM h g n → P (g 49 65) g) : ∀ (nn : Nat) (left : Int) (g : Hp) (o : Option AV), (0 ≤ left ∧ left ≤ 100000) → (∀ a k, ¬ (a = 49 ∧ (k = 63 ∨ k = 64 ∨ k = 65)) → g a k = h a k) → (NORM (tkM h) (h 49 29) (g 49 63) (g 49 64) (g 49 65)) → (g 49 65 + left = h 49 65 + n) → left.toNat < nn → WW mX12_tick (d + 1) (pI P) 27 [some (.inr (.inr 49)), some (.inl n), some (.inl left), o] [] g := by
  intro nn
  induction nn with
  | zero => intro left g o hl hg hp hc; intros; omega
  | succ nn ih =>
    intro left g o hl hg hp hc hmu
    have hq := hxy.lr (K := (h 49 5)) (E := (h 49 6)) (by omega) (by omega) (by omega) (by omega)
    have ok : TKOK (tkM h) (h 49 29) := hq.tk hN
    have w3 := hg 49 3 (by decide)
    have w4 := hg 49 4 (by decide)
    have w5 := hg 49 5 (by decide)
    have w6 := hg 49 6 (by decide)
    have w7 := hg 49 7 (by decide)
    have w8 := hg 49 8 (by decide)
    have wn := hg 49 29 (by decide)
    have w60 : g 60 = h 60 := funext fun j => hg 60 j (by omega)
    have w61 : g 61 = h 61 := funext fun j => hg 61 j (by omega)
    have p := hp
    obtain ⟨p1, p2, p3, p4, p5, p6⟩ := p
    have s0 := ok.s (m := (g 49 63).toNat) (by omega)
    refine r_iload_n dX12_tick_27 rfl rfl ?_
    refine r_if_le (tgt := 98) dX12_tick_28 rfl (by omega) (fun c_28 => ?_) (fun c_28 => ?_)
    · refine r_aload_n dX12_tick_98 rfl rfl ?_
      refine r_getI dX12_tick_99 fl_X12_436 sh_49 rfl ?_
      refine r_iret dX12_tick_102 rfl ?_
      refine ⟨_, rfl, k g ⟨hg, hp, ?_⟩⟩
      by_cases z : (g 49 63) = (h 49 29)
      · have := p4 z
        rw [z] at p6 s0
        omega
      · have s1 := ok.s (m := (g 49 63).toNat + 1) (by omega)
        simp only [sumN] at s1
        have := p5 (by omega)
        omega
    · 
      refine r_aload_n dX12_tick_31 rfl rfl ?_
      refine r_getI dX12_tick_32 fl_X12_430 sh_49 rfl ?_
      refine r_aload_n dX12_tick_35 rfl rfl ?_
      refine r_getI dX12_tick_36 fl_X12_164 sh_49 rfl ?_
      refine r_icmp_ge (tgt := 98) dX12_tick_39 rfl (by omega) (by omega) (fun c_39 => ?_) (fun c_39 => ?_)
      · refine r_aload_n dX12_tick_98 rfl rfl ?_
        refine r_getI dX12_tick_99 fl_X12_436 sh_49 rfl ?_
        refine r_iret dX12_tick_102 rfl ?_
        refine ⟨_, rfl, k g ⟨hg, hp, ?_⟩⟩
        by_cases z : (g 49 63) = (h 49 29)
        · have := p4 z
          rw [z] at p6 s0
          omega
        · have s1 := ok.s (m := (g 49 63).toNat + 1) (by omega)
          simp only [sumN] at s1
          have := p5 (by omega)
          omega
      · have t0 := ok.2.2 (g 49 63).toNat (by omega)
        have p5 := p5 (by omega)
        have s1 := ok.s (m := (g 49 63).toNat + 1) (by omega)
        simp only [sumN] at s1
        refine r_aload_n dX12_tick_42 rfl rfl ?_
        refine r_aload_n dX12_tick_43 rfl rfl ?_
        refine r_getI dX12_tick_44 fl_X12_430 sh_49 rfl ?_
        refine r_callVI (av := [_]) (M' := mX12_ticksOf) dX12_tick_47 vX12_ticksOf ml_X12_356 sh_49 (by decide) rfl rfl rfl rfl (by simp [wtA]) (sp_X12_ticksOf (by omega) (by omega) (by omega) (fun p hp => by have := hxy p (by omega); rw [Nat.zero_add] at this; rw [w60, w61, w3, w4]; exact this) ?_)
        rw [w3, w5, w6, w60, w61]
        refine r_eqI (show _ = tkM h (g 49 63).toNat from rfl) ?_
        refine r_aload_n dX12_tick_50 rfl rfl ?_
        refine r_getI dX12_tick_51 fl_X12_433 sh_49 rfl ?_
        refine r_isub dX12_tick_54 ?_
        refine r_nmI (fun te e_te => ?_)
        refine r_istore_n (L' := [_, _, _, _]) dX12_tick_55 rfl rfl (by decide) rfl ?_
        refine r_iload_n dX12_tick_56 rfl rfl ?_
        refine r_iload_n dX12_tick_57 rfl rfl ?_
        refine r_icmp_ge (tgt := 65) dX12_tick_58 rfl (by omega) (by omega) (fun c_58 => ?_) (fun c_58 => ?_)
        · refine r_iload_n dX12_tick_65 rfl rfl ?_
          refine r_nmI (fun mo e_mo => ?_)
          refine r_istore_n (L' := [_, _, _, _]) dX12_tick_66 rfl rfl (by decide) rfl ?_
          refine r_aload_n dX12_tick_67 rfl rfl ?_
          refine r_dup dX12_tick_68 (fun _ h => by cases h) ?_
          refine r_getI dX12_tick_69 fl_X12_433 sh_49 rfl ?_
          refine r_iload_n dX12_tick_72 rfl rfl ?_
          refine r_iadd dX12_tick_73 ?_
          refine r_putI dX12_tick_74 fl_X12_433 sh_49 rfl ?_
          refine r_aload_n dX12_tick_77 rfl rfl ?_
          refine r_dup dX12_tick_78 (fun _ h => by cases h) ?_
          refine r_getI dX12_tick_79 fl_X12_436 sh_49 rfl ?_
          refine r_eqI (up_nk (by decide)) ?_
          refine r_iload_n dX12_tick_82 rfl rfl ?_
          refine r_iadd dX12_tick_83 ?_
          refine r_putI dX12_tick_84 fl_X12_436 sh_49 rfl ?_
          refine r_iload_n dX12_tick_87 rfl rfl ?_
          refine r_iload_n dX12_tick_88 rfl rfl ?_
          refine r_isub dX12_tick_89 ?_
          refine r_istore_n (L' := [_, _, _, _]) dX12_tick_90 rfl rfl (by decide) rfl ?_
          have hmo : 0 < mo ∧ mo ≤ te ∧ mo ≤ left := by omega
          refine r_gh (fun g2 eg2 => ?_)
          have hg2 : ∀ a k, ¬ (a = 49 ∧ (k = 63 ∨ k = 64 ∨ k = 65)) → g2 a k = h a k := fun a q z => by
            rw [eg2]
            unfold upH
            rw [if_neg (by omega), if_neg (by omega)]
            exact hg a q z
          have m2 : MOK g2 := by
            have := hg2 49 3 (by decide)
            have := hg2 49 4 (by decide)
            have := hg2 49 5 (by decide)
            have := hg2 49 6 (by decide)
            have := hg2 49 7 (by decide)
            have := hg2 49 8 (by decide)
            omega
          have n2 := hg2 49 29 (by decide)
          have x2 : MXY (g2 49 3) (g2 49 4) (g2 60) (g2 61) 0 (g2 49 29) := by
            rw [n2, hg2 49 3 (by decide), hg2 49 4 (by decide), (show g2 60 = h 60 from funext fun j => hg2 60 j (by omega)), (show g2 61 = h 61 from funext fun j => hg2 61 j (by omega))]
            exact hxy
          have a63 : g2 49 63 = g 49 63 := by rw [eg2]; rfl
          have a64 : g2 49 64 = g 49 64 + mo := by rw [eg2]; rfl
          have a65 : g2 49 65 = g 49 65 + mo := by rw [eg2]; rfl
          have tq : tkM g2 = tkM h := tkM_eq hg2
          have pp : PREN (tkM g2) (g2 49 29) (g2 49 63) (g2 49 64) (g2 49 65) := by
            rw [tq, n2, a63, a64, a65]
            exact ⟨p1, p2, by omega, fun z => by omega, fun _ => by omega, by omega⟩
          refine r_aload_n dX12_tick_91 rfl rfl ?_
          refine r_callVU (av := []) (M' := mX12_passes) dX12_tick_92 vX12_passes ml_X12_439 sh_49 (by decide) rfl rfl rfl rfl (by simp [wtA]) (sp_X12_passes (by omega) m2 x2 (by omega) pp (fun g3 C => ?_))
          refine r_goto (tgt := 27) dX12_tick_95 rfl ?_
          have C1 := C.1
          have b65 := C1 49 65 (by decide)
          refine ih _ g3 _ (by omega) ?_ ?_ (by omega) (by omega)
          · intro a q z
            rw [C1 a q (by omega)]
            exact hg2 a q z
          · have N := C.2
            have N : NORM (tkM g2) (g2 49 29) (g3 49 63) (g3 49 64) (g2 49 65) := N
            rw [tq, n2, ← b65] at N
            exact N
        · refine r_iload_n dX12_tick_61 rfl rfl ?_
          refine r_goto (tgt := 66) dX12_tick_62 rfl ?_
          refine r_nmI (fun mo e_mo => ?_)
          refine r_istore_n (L' := [_, _, _, _]) dX12_tick_66 rfl rfl (by decide) rfl ?_
          refine r_aload_n dX12_tick_67 rfl rfl ?_
          refine r_dup dX12_tick_68 (fun _ h => by cases h) ?_
          refine r_getI dX12_tick_69 fl_X12_433 sh_49 rfl ?_
          refine r_iload_n dX12_tick_72 rfl rfl ?_
          refine r_iadd dX12_tick_73 ?_
          refine r_putI dX12_tick_74 fl_X12_433 sh_49 rfl ?_
          refine r_aload_n dX12_tick_77 rfl rfl ?_
          refine r_dup dX12_tick_78 (fun _ h => by cases h) ?_
          refine r_getI dX12_tick_79 fl_X12_436 sh_49 rfl ?_
          refine r_eqI (up_nk (by decide)) ?_
          refine r_iload_n dX12_tick_82 rfl rfl ?_
          refine r_iadd dX12_tick_83 ?_
          refine r_putI dX12_tick_84 fl_X12_436 sh_49 rfl ?_
          refine r_iload_n dX12_tick_87 rfl rfl ?_
          refine r_iload_n dX12_tick_88 rfl rfl ?_
          refine r_isub dX12_tick_89 ?_
          refine r_istore_n (L' := [_, _, _, _]) dX12_tick_90 rfl rfl (by decide) rfl ?_
          have hmo : 0 < mo ∧ mo ≤ te ∧ mo ≤ left := by omega
          refine r_gh (fun g2 eg2 => ?_)
          have hg2 : ∀ a k, ¬ (a = 49 ∧ (k = 63 ∨ k = 64 ∨ k = 65)) → g2 a k = h a k := fun a q z => by
            rw [eg2]
            unfold upH
            rw [if_neg (by omega), if_neg (by omega)]
            exact hg a q z
          have m2 : MOK g2 := by
            have := hg2 49 3 (by decide)
            have := hg2 49 4 (by decide)
            have := hg2 49 5 (by decide)
            have := hg2 49 6 (by decide)
            have := hg2 49 7 (by decide)
            have := hg2 49 8 (by decide)
            omega
          have n2 := hg2 49 29 (by decide)
          have x2 : MXY (g2 49 3) (g2 49 4) (g2 60) (g2 61) 0 (g2 49 29) := by
            rw [n2, hg2 49 3 (by decide), hg2 49 4 (by decide), (show g2 60 = h 60 from funext fun j => hg2 60 j (by omega)), (show g2 61 = h 61 from funext fun j => hg2 61 j (by omega))]
            exact hxy
          have a63 : g2 49 63 = g 49 63 := by rw [eg2]; rfl
          have a64 : g2 49 64 = g 49 64 + mo := by rw [eg2]; rfl
          have a65 : g2 49 65 = g 49 65 + mo := by rw [eg2]; rfl
          have tq : tkM g2 = tkM h := tkM_eq hg2
          have pp : PREN (tkM g2) (g2 49 29) (g2 49 63) (g2 49 64) (g2 49 65) := by
            rw [tq, n2, a63, a64, a65]
            exact ⟨p1, p2, by omega, fun z => by omega, fun _ => by omega, by omega⟩
          refine r_aload_n dX12_tick_91 rfl rfl ?_
          refine r_callVU (av := []) (M' := mX12_passes) dX12_tick_92 vX12_passes ml_X12_439 sh_49 (by decide) rfl rfl rfl rfl (by simp [wtA]) (sp_X12_passes (by omega) m2 x2 (by omega) pp (fun g3 C => ?_))
          refine r_goto (tgt := 27) dX12_tick_95 rfl ?_
          have C1 := C.1
          have b65 := C1 49 65 (by decide)
          refine ih _ g3 _ (by omega) ?_ ?_ (by omega) (by omega)
          · intro a q z
            rw [C1 a q (by omega)]
            exact hg2 a q z
          · have N := C.2
            have N : NORM (tkM g2) (g2 49 29) (g3 49 63) (g3 49 64) (g2 49 65) := N
            rw [tq, n2, ← b65] at N
            exact N
set_option maxRecDepth 20000 in
set_option maxHeartbeats 400000 in
theorem sp_X12_tick {d : Nat} (hd : 7 ≤ d) {n : Int} {h : Hp}  (hw : MOK h) (hn : R32 n) (hg : (h 49 62) = 0 ∨ (h 49 62) = 1) (hxy : MXY (h 49 3) (h 49 4) (h 60) (h 61) 0 (h 49 29)) (hN : 0 ≤ (h 49 29) ∧ (h 49 29) ≤ 150) (hp : (h 49 62) = 1 → NORM (tkM h) (h 49 29) (h 49 63) (h 49 64) (h 49 65)) {P : Int → Hp → Prop} (kt : ((h 49 62) = 1 ∧ 0 ≤ n ∧ n ≤ 100000) → ∀ g : Hp, (∃ g0, FrM h g0 ∧ ADVM g0 g n) → P (g 49 65) g) (kf : ¬ ((h 49 62) = 1 ∧ 0 ≤ n ∧ n ≤ 100000) → ∀ g : Hp, FrM h g → P (-1) g) : Cl d mX12_tick [.inr (.inr 49), .inl n] h (pI P) := by
  refine Cl.of (L := [some (.inr (.inr 49)), some (.inl n), none, none]) (by decide +kernel) (Nat.le_of_ble_eq_true rfl) rfl ?_
  obtain ⟨d, rfl⟩ : ∃ q, d = q + 1 := ⟨d - 1, by omega⟩
  refine r_aload_n dX12_tick_0 rfl rfl ?_
  refine r_iconst dX12_tick_1 ?_
  refine r_putI dX12_tick_2 fl_X12_127 sh_49 rfl ?_
  refine r_gh (fun g eg => ?_)
  have f : FrM h g := by rw [eg]; exact FrM.rf.up rfl
  have e3 : g 49 3 = h 49 3 := f 49 3 rfl
  have e4 : g 49 4 = h 49 4 := f 49 4 rfl
  have e5 : g 49 5 = h 49 5 := f 49 5 rfl
  have e6 : g 49 6 = h 49 6 := f 49 6 rfl
  have e7 : g 49 7 = h 49 7 := f 49 7 rfl
  have e8 : g 49 8 = h 49 8 := f 49 8 rfl
  have e29 : g 49 29 = h 49 29 := f 49 29 rfl
  have e62 : g 49 62 = h 49 62 := f 49 62 rfl
  have e63 : g 49 63 = h 49 63 := f 49 63 rfl
  have e64 : g 49 64 = h 49 64 := f 49 64 rfl
  have e65 : g 49 65 = h 49 65 := f 49 65 rfl
  have ea60 : g 60 = h 60 := funext fun j => f 60 j rfl
  have ea61 : g 61 = h 61 := funext fun j => f 61 j rfl
  have w : MOK g := by omega
  refine r_aload_n dX12_tick_5 rfl rfl ?_
  refine r_getI dX12_tick_6 fl_X12_180 sh_49 rfl ?_
  refine r_if_eq (tgt := 23) dX12_tick_9 rfl (by omega) (fun c_9 => ?_) (fun c_9 => ?_)
  · refine r_iconst dX12_tick_23 ?_
    refine r_iret dX12_tick_24 rfl ?_
    exact ⟨_, rfl, kf (by omega) _ f⟩
  · refine r_iload_n dX12_tick_12 rfl rfl ?_
    refine r_iconst dX12_tick_13 ?_
    refine r_ldcw (z := 100000) dX12_tick_14 kc_X12_442 (by decide +kernel) ?_
    refine r_callSI (av := [_, _, _]) (M' := mX12_isIn) dX12_tick_17 sX12_isIn ml_X12_160 rfl rfl (by simp [wtA]) (sp_X12_isIn (by omega) (by omega) (by omega) (by omega) (fun b_17 => ?_) (fun b_17 => ?_))
    · refine r_if_ne (tgt := 25) dX12_tick_20 rfl ⟨by decide, by decide⟩ (fun c_20 => ?_) (fun c_20 => absurd c_20 (by decide))
      refine r_iload_n dX12_tick_25 rfl rfl ?_
      refine r_istore_n (L' := [_, _, _, _]) dX12_tick_26 rfl rfl (by decide) rfl ?_
      have hp := hp (by omega)
      refine lp_mtick (h := g) (by omega) w (by rw [e3, e4, e29, ea60, ea61]; exact hxy) (by omega) (fun g2 A => kt (by omega) g2 ⟨g, f, A⟩) 100001 n g _ (by omega) (fun _ _ _ => rfl) ?_ rfl (by omega)
      have tq : tkM g = tkM h := by
        unfold tkM
        rw [e3, e5, e6, ea60, ea61]
      rw [tq, e29, e63, e64, e65]
      exact hp
    · refine r_if_ne (tgt := 25) dX12_tick_20 rfl ⟨by decide, by decide⟩ (fun c_20 => absurd c_20 (by decide)) (fun c_20 => ?_)
      refine r_iconst dX12_tick_23 ?_
      refine r_iret dX12_tick_24 rfl ?_
      exact ⟨_, rfl, kf (by omega) _ f⟩
set_option maxRecDepth 20000 in
set_option maxHeartbeats 400000 in
theorem sp_X12_begin {d : Nat} (hd : 7 ≤ d) {h : Hp}  (hw : MOK h) (hxy : MXY (h 49 3) (h 49 4) (h 60) (h 61) 0 (h 49 29)) (hN : 0 ≤ (h 49 29) ∧ (h 49 29) ≤ 150) {P : Hp → Prop} (k : ∀ g : Hp, (∃ g0, FrM h g0 ∧ PASM (upH (upH (upH (upH g0 49 62 1) 49 63 0) 49 64 0) 49 65 0) g) → P g) : Cl d mX12_begin [.inr (.inr 49)] h (pV P) := by
  refine Cl.of (L := [some (.inr (.inr 49))]) (by decide +kernel) (Nat.le_of_ble_eq_true rfl) rfl ?_
  obtain ⟨d, rfl⟩ : ∃ q, d = q + 1 := ⟨d - 1, by omega⟩
  refine r_aload_n dX12_begin_0 rfl rfl ?_
  refine r_iconst dX12_begin_1 ?_
  refine r_putI dX12_begin_2 fl_X12_127 sh_49 rfl ?_
  refine r_gh (fun g eg => ?_)
  have f : FrM h g := by rw [eg]; exact FrM.rf.up rfl
  have e3 : g 49 3 = h 49 3 := f 49 3 rfl
  have e4 : g 49 4 = h 49 4 := f 49 4 rfl
  have e5 : g 49 5 = h 49 5 := f 49 5 rfl
  have e6 : g 49 6 = h 49 6 := f 49 6 rfl
  have e7 : g 49 7 = h 49 7 := f 49 7 rfl
  have e8 : g 49 8 = h 49 8 := f 49 8 rfl
  have e29 : g 49 29 = h 49 29 := f 49 29 rfl
  have ea60 : g 60 = h 60 := funext fun j => f 60 j rfl
  have ea61 : g 61 = h 61 := funext fun j => f 61 j rfl
  have w : MOK g := by omega
  refine r_aload_n dX12_begin_5 rfl rfl ?_
  refine r_iconst dX12_begin_6 ?_
  refine r_putZ dX12_begin_7 fl_X12_180 sh_49 rfl (.inr rfl) ?_
  refine r_aload_n dX12_begin_10 rfl rfl ?_
  refine r_iconst dX12_begin_11 ?_
  refine r_putI dX12_begin_12 fl_X12_430 sh_49 rfl ?_
  refine r_aload_n dX12_begin_15 rfl rfl ?_
  refine r_iconst dX12_begin_16 ?_
  refine r_putI dX12_begin_17 fl_X12_433 sh_49 rfl ?_
  refine r_aload_n dX12_begin_20 rfl rfl ?_
  refine r_iconst dX12_begin_21 ?_
  refine r_putI dX12_begin_22 fl_X12_436 sh_49 rfl ?_
  refine r_aload_n dX12_begin_25 rfl rfl ?_
  refine r_callVU (av := []) (M' := mX12_passes) dX12_begin_26 vX12_passes ml_X12_439 sh_49 (by decide) rfl rfl rfl rfl (by simp [wtA]) (sp_X12_passes (h := upH (upH (upH (upH g 49 62 1) 49 63 0) 49 64 0) 49 65 0) (by omega) w (show MXY (g 49 3) (g 49 4) (g 60) (g 61) 0 (g 49 29) by rw [e3, e4, e29, ea60, ea61]; exact hxy) (show 0 ≤ (g 49 29) ∧ (g 49 29) ≤ 150 by omega) ⟨show (0 : Int) ≤ 0 by decide, show (0 : Int) ≤ (g 49 29) by omega, show (0 : Int) ≤ 0 by decide, fun _ => rfl, fun z => ?_, rfl⟩ (fun g3 C => ?_))
  · have z : (0 : Int) < (g 49 29) := z
    have hq := hxy.lr (K := (h 49 5)) (E := (h 49 6)) (by omega) (by omega) (by omega) (by omega)
    have := (hq.tk hN).2.2 0 (by omega)
    show 0 ≤ tkF (mL (g 49 5) (g 49 6) (g 60) (g 61)) (mR (g 49 3) (g 49 5) (g 49 6) (g 60) (g 61)) 0
    rw [e3, e5, e6, ea60, ea61]
    exact this.1
  refine r_vret dX12_begin_29 rfl ?_
  exact ⟨rfl, k g3 ⟨g, f, C⟩⟩
theorem NORM.congr {tk tk2 : Nat → Int} {N m dn t : Int} (e : ∀ i : Nat, (i : Int) < N → tk i = tk2 i) (h : NORM tk N m dn t) : NORM tk2 N m dn t := by
  obtain ⟨a1, a2, a3, a4, a5, a6⟩ := h
  refine ⟨a1, a2, a3, a4, fun z => ?_, ?_⟩
  · rw [← e _ (by omega)]
    exact a5 z
  · rw [← sumN_congr (f := tk) (g := tk2) m.toNat (fun i hi => e i (by omega))]
    exact a6
theorem REL.tke {h : Hp} (r : REL h) : ∀ i : Nat, (i : Int) < h 16 0 → tkM h i = tkF (h 20) (h 21) i := fun i hi => by
  have t0 := r.tk (i := i) (by omega)
  have t1 := r.tk (i := i + 1) (by omega)
  unfold tkM tkF
  rw [t0.1, t0.2.1, t1.1, t1.2.1]
theorem REL.run {h g : Hp} (r : REL h) (e : ∀ a k, scrM a k = false → ¬ (a = 48 ∧ k ≤ 3) → ¬ (a = 49 ∧ 62 ≤ k ∧ k ≤ 65) → g a k = h a k) (g0 : g 48 0 = 1) (g1 : g 49 62 = 1) (n1 : NORM (tkF (h 20) (h 21)) (h 16 0) (g 48 1) (g 48 2) (g 48 3)) (n2 : NORM (tkM h) (h 49 29) (g 49 63) (g 49 64) (g 49 65)) (et : g 49 65 = g 48 3) : REL g := by
  have fr : FrM (fun a k => if (a = 48 ∧ k ≤ 3) ∨ (a = 49 ∧ 62 ≤ k ∧ k ≤ 65) then g a k else h a k) g := by
    intro a k q
    show g a k = if (a = 48 ∧ k ≤ 3) ∨ (a = 49 ∧ 62 ≤ k ∧ k ≤ 65) then g a k else h a k
    split
    · rfl
    · exact e a k q (by omega) (by omega)
  have ok := r.lr.tk ⟨r.n.1, r.n.2.1⟩
  have n3 := n2
  rw [r.n.2.2, et] at n3
  have n3 := n3.congr r.tke
  have u := n1.uniq ok n3
  have s := ok.s (m := (g 48 1).toNat) (by have := n1.1; have := n1.2.1; omega)
  obtain ⟨r1, r2, r3, r4, r5, r6, r7, r8, r9, r10⟩ := r
  refine fr.rel ⟨r1, r2, r3, r4, r5, r6, r7, r8, ?_, r10⟩
  refine ⟨show g 49 62 = g 48 0 by omega, Or.inr g0, fun _ => ?_⟩
  obtain ⟨a1, a2, a3, a4, a5, a6⟩ := n1
  exact ⟨u.1.symm, u.2.symm, et, a1, a2, a3, a4, a5, show 0 ≤ g 48 3 by omega, a6⟩
theorem REL.pren {h : Hp} (r : REL h) (g : h 48 0 = 1) : NORM (tkF (h 20) (h 21)) (h 16 0) (h 48 1) (h 48 2) (h 48 3) ∧ NORM (tkM h) (h 49 29) (h 49 63) (h 49 64) (h 49 65) := by
  have q := r.2.2.2.2.2.2.2.2.1.2.2 g
  obtain ⟨q1, q2, q3, q4, q5, q6, q7, q8, q9, q10⟩ := q
  have n : NORM (tkF (h 20) (h 21)) (h 16 0) (h 48 1) (h 48 2) (h 48 3) := ⟨q4, q5, q6, q7, q8, q10⟩
  refine ⟨n, ?_⟩
  rw [r.n.2.2, q1, q2, q3]
  exact n.congr (fun i hi => (r.tke i hi).symm)
theorem pr_tick {d : Nat} (hd : 20 ≤ d) {n : Int} (hn : R32 n) : PR d mX11_tick mX12_tick [.inl n] := by
  intro h r
  have nn := r.n
  have r9 := r.2.2.2.2.2.2.2.2.1
  have e62 := r9.1
  refine sp_X11_tick (by omega) hn r9.2.1 r.lr ⟨nn.1, nn.2.1⟩ (fun z => (r.pren z).1.pre) (fun C g A => ?_) (fun C => ?_)
  · obtain ⟨A1, A2, A3⟩ := A
    have q : ∀ a k, a ≠ 48 → g a k = h a k := fun a k z => A1 a k (by omega)
    have F : ∀ a, a ≠ 48 → g a = h a := fun a z => funext fun k => q a k z
    have m : MOK g := by
      have := q 49 3 (by decide)
      have := q 49 4 (by decide)
      have := q 49 5 (by decide)
      have := q 49 6 (by decide)
      have := q 49 7 (by decide)
      have := q 49 8 (by decide)
      have := r.1
      omega
    have tq : tkM g = tkM h := by
      unfold tkM
      rw [F 49 (by decide), F 60 (by decide), F 61 (by decide)]
    have p2 := (r.pren C.1).2
    have e3 := (r9.2.2 C.1).2.2.1
    refine sp_X12_tick (by omega) m hn (by rw [F 49 (by decide), e62]; exact r9.2.1) (by rw [F 49 (by decide), F 60 (by decide), F 61 (by decide)]; exact r.mxy) (by rw [F 49 (by decide)]; omega) (fun _ => by rw [tq, F 49 (by decide)]; exact p2) (fun D g2 ⟨g0, f, B⟩ => ?_) (fun D => absurd (show g 49 62 = 1 ∧ 0 ≤ n ∧ n ≤ 100000 by rw [F 49 (by decide), e62]; exact C) D)
    obtain ⟨B1, B2, B3⟩ := B
    have u : ∀ a k, scrM a k = false → g0 a k = g a k := f
    have t0 : tkM g0 = tkM h := by
      rw [← tq]
      unfold tkM
      rw [u 49 5 rfl, u 49 6 rfl, u 49 3 rfl, (show g0 60 = g 60 from funext fun j => u 60 j rfl), (show g0 61 = g 61 from funext fun j => u 61 j rfl)]
    have n29 : g0 49 29 = h 49 29 := by rw [u 49 29 rfl, F 49 (by decide)]
    have n65 : g0 49 65 = h 49 65 := by rw [u 49 65 rfl, F 49 (by decide)]
    rw [t0, n29] at B2 B3
    have c48 : ∀ k, g2 48 k = g 48 k := fun k => by rw [B1 48 k (by omega), u 48 k rfl]
    have et : g2 49 65 = g 48 3 := by
      rw [B3, A3, n65, e3, nn.2.2]
      congr 1
      exact sumN_congr _ (fun i hi => r.tke i (by omega))
    refine ⟨et.symm, r.run ?_ ?_ ?_ ?_ B2 ?_⟩
    · intro a k z1 z2 z3
      rw [B1 a k (by omega), u a k z1]
      by_cases z : a = 48
      · exact A1 a k (by omega)
      · exact q a k z
    · rw [c48, A1 48 0 (by decide)]; exact C.1
    · rw [B1 49 62 (by decide), u 49 62 rfl, F 49 (by decide), e62]; exact C.1
    · rw [c48, c48, c48]; exact A2
    · rw [c48]; exact et
  · exact sp_X12_tick (by omega) r.1.2.1 hn (by rw [e62]; exact r9.2.1) r.mxy (by omega) (fun z => (r.pren (by omega)).2) (fun D => absurd (show h 48 0 = 1 ∧ 0 ≤ n ∧ n ≤ 100000 by rw [← e62]; exact D) C) (fun _ g f => ⟨rfl, f.rel r⟩)
theorem pr_begin {d : Nat} (hd : 20 ≤ d) : ∀ h : Hp, REL h → Cl d mX11_begin [.inr (.inr 0)] h (pV fun h1 => Cl d mX12_begin [.inr (.inr 49)] h1 (pV fun h2 => REL h2)) := by
  intro h r
  have nn := r.n
  refine sp_X11_begin (by omega) r.lr ⟨nn.1, nn.2.1⟩ (fun g A => ?_)
  obtain ⟨A1, A2, A3⟩ := A
  have q : ∀ a k, a ≠ 48 → g a k = h a k := fun a k z => by
    rw [A1 a k (by omega)]
    unfold upH
    rw [if_neg (by omega), if_neg (by omega), if_neg (by omega), if_neg (by omega)]
  have F : ∀ a, a ≠ 48 → g a = h a := fun a z => funext fun k => q a k z
  have m : MOK g := by
    have := q 49 3 (by decide)
    have := q 49 4 (by decide)
    have := q 49 5 (by decide)
    have := q 49 6 (by decide)
    have := q 49 7 (by decide)
    have := q 49 8 (by decide)
    have := r.1
    omega
  refine sp_X12_begin (by omega) m (by rw [F 49 (by decide), F 60 (by decide), F 61 (by decide)]; exact r.mxy) (by rw [F 49 (by decide)]; omega) (fun g2 ⟨g0, f, B⟩ => ?_)
  obtain ⟨B1, B2⟩ := B
  have u : ∀ a k, scrM a k = false → g0 a k = g a k := f
  have tq : tkF (mL (g0 49 5) (g0 49 6) (g0 60) (g0 61)) (mR (g0 49 3) (g0 49 5) (g0 49 6) (g0 60) (g0 61)) = tkM h := by
    unfold tkM
    rw [u 49 5 rfl, u 49 6 rfl, u 49 3 rfl, (show g0 60 = g 60 from funext fun j => u 60 j rfl), (show g0 61 = g 61 from funext fun j => u 61 j rfl), F 49 (by decide), F 60 (by decide), F 61 (by decide)]
  have B2 : NORM (tkF (mL (g0 49 5) (g0 49 6) (g0 60) (g0 61)) (mR (g0 49 3) (g0 49 5) (g0 49 6) (g0 60) (g0 61))) (g0 49 29) (g2 49 63) (g2 49 64) 0 := B2
  have e65 : g2 49 65 = 0 := by rw [B1 49 65 (by decide)]; rfl
  rw [tq, u 49 29 rfl, F 49 (by decide)] at B2
  have c48 : ∀ k, g2 48 k = g 48 k := fun k => by
    rw [B1 48 k (by omega)]
    exact u 48 k rfl
  have s := (r.lr.tk ⟨nn.1, nn.2.1⟩).s (m := (h 16 0).toNat) (by omega)
  have A3 : g 48 3 = min (0 + 0) (sumN (tkF (h 20) (h 21)) (h 16 0).toNat) := A3
  refine r.run ?_ ?_ ?_ ?_ (by rw [e65]; exact B2) ?_
  · intro a k z1 z2 z3
    rw [B1 a k (by omega)]
    unfold upH
    rw [if_neg (by omega), if_neg (by omega), if_neg (by omega), if_neg (by omega), u a k z1]
    by_cases z : a = 48
    · rw [A1 a k (by omega)]
      unfold upH
      rw [if_neg (by omega), if_neg (by omega), if_neg (by omega), if_neg (by omega)]
    · exact q a k z
  · rw [c48, A1 48 0 (by decide)]; rfl
  · rw [B1 49 62 (by decide)]; rfl
  · rw [c48, c48, c48]; exact A2
  · rw [c48, e65]; omega
