/-! WALL -/
def keepW (a k : Nat) : Bool := decide (49 ≤ a) || a == 0 || a == 2 || a == 3 || a == 14 || a == 45 || a == 46 || a == 47 || (a == 1 && (k == 3 || k == 4 || k == 5 || k == 7))
def keepV (a k : Nat) : Bool := decide (a < 49) || a == 50 || a == 51 || a == 80 || (a == 49 && (k == 1 || k == 6 || k == 7 || k == 8 || k == 10 || k == 11 || k == 12 || k == 60))
def HOMEC (g : Hp) (w b K E : Int) (n x y dn lf rg : Nat) : Prop := g n 0 = 0 ∧ g x 0 = w.tdiv 2 ∧ g y 0 = b ∧ g dn 0 = 0 ∧ g lf 0 = stF K E (100 * w.tdiv 2) (100 * b) ∧ g rg 0 = stF K E (100 * w - 100 * w.tdiv 2) (100 * b)
def WALLC (h g : Hp) (w b kk : Int) : Prop := (∀ a k, keepW a k = true → g a k = h a k) ∧ g 1 0 = w ∧ g 1 1 = b ∧ g 1 2 = kk ∧ g 1 8 = -1 ∧ HOMEC g w b kk (h 1 3) 16 17 18 19 20 21 ∧ HOMEC g w b kk (h 1 3) 23 24 25 26 27 28 ∧ (∀ p : Nat, p < 300 → g 22 p = 0) ∧ g 33 0 = 0 ∧ g 48 0 = 0
def WALLM (h g : Hp) (w b kk : Int) : Prop := (∀ a k, keepV a k = true → g a k = h a k) ∧ g 49 3 = w ∧ g 49 4 = b ∧ g 49 5 = kk ∧ g 49 29 = 0 ∧ g 49 30 = 0 ∧ (g 60 0 = w.tdiv 2 ∧ g 61 0 = b ∧ g 62 0 = 0) ∧ (g 60 151 = w.tdiv 2 ∧ g 61 151 = b ∧ g 62 151 = 0) ∧ (∀ p : Nat, p < 300 → g 69 p = 0) ∧ g 49 48 = 0 ∧ g 49 62 = 0
theorem keepW_up {h : Hp} {a q : Nat} (hq : keepW a q = true) {z1 z2 z3 z4 z5 z6 z7 z8 z9 z10 z11 z12 z13 z14 z15 z16 : Int} : upH (upH (upH (upH (upH (upH (upH (upH (upH (upH (upH (upH (upH (upH (upH (upH h 1 0 z1) 1 1 z2) 1 2 z3) 1 8 z4) 16 0 z5) 17 0 z6) 18 0 z7) 19 0 z8) 20 0 z9) 21 0 z10) 23 0 z11) 24 0 z12) 25 0 z13) 26 0 z14) 27 0 z15) 28 0 z16 a q = h a q := by
  have n : ∀ c j, keepW c j = false → ¬ (a = c ∧ q = j) := by
    rintro c j hc ⟨rfl, rfl⟩
    rw [hc] at hq
    cases hq
  unfold upH
  rw [if_neg (n _ _ rfl), if_neg (n _ _ rfl), if_neg (n _ _ rfl), if_neg (n _ _ rfl), if_neg (n _ _ rfl), if_neg (n _ _ rfl), if_neg (n _ _ rfl), if_neg (n _ _ rfl), if_neg (n _ _ rfl), if_neg (n _ _ rfl), if_neg (n _ _ rfl), if_neg (n _ _ rfl), if_neg (n _ _ rfl), if_neg (n _ _ rfl), if_neg (n _ _ rfl), if_neg (n _ _ rfl)]
set_option maxRecDepth 20000 in
set_option maxHeartbeats 400000 in
theorem sp_X10_forgetReach {d : Nat} (hd : 1 ≤ d) {h : Hp}   {P : Hp → Prop} (k : P (upH h 1 8 (-1))) : Cl d mX10_forgetReach [.inr (.inr 1)] h (pV P) := by
  refine Cl.of (L := [some (.inr (.inr 1))]) (by decide +kernel) (Nat.le_of_ble_eq_true rfl) rfl ?_
  refine r_aload_n dX10_forgetReach_0 rfl rfl ?_
  refine r_iconst dX10_forgetReach_1 ?_
  refine r_putI dX10_forgetReach_2 fl_X10_37 sh_1 rfl ?_
  refine r_vret dX10_forgetReach_5 rfl ?_
  exact ⟨rfl, k⟩
set_option maxRecDepth 20000 in
set_option maxHeartbeats 400000 in
theorem sp_X11_dropWhatHangsOnMoves {d : Nat} (hd : 2 ≤ d) {h : Hp}   {P : Hp → Prop} (k : ∀ h' : Hp, (∀ a k, a ≠ 22 → ¬ (a = 33 ∧ k = 0) → ¬ (a = 48 ∧ k = 0) → h' a k = h a k) → (∀ p : Nat, p < 300 → h' 22 p = 0) → (h' 33 0 = 0) → (h' 48 0 = 0) → P h') : Cl d mX11_dropWhatHangsOnMoves [.inr (.inr 0)] h (pV P) := by
  refine Cl.of (L := [some (.inr (.inr 0))]) (by decide +kernel) (Nat.le_of_ble_eq_true rfl) rfl ?_
  obtain ⟨d, rfl⟩ : ∃ q, d = q + 1 := ⟨d - 1, by omega⟩
  refine r_aload_n dX11_dropWhatHangsOnMoves_0 rfl rfl ?_
  refine r_getR dX11_dropWhatHangsOnMoves_1 fl_X11_44 sh_0 rfl ?_
  refine r_callVU (av := []) (M' := mX2_dropMissed) dX11_dropWhatHangsOnMoves_4 vX2_dropMissed ml_X11_339 sh_16 (by decide) rfl rfl rfl rfl (by simp [wtA]) (sp_X2_dropMissed_16 (by omega) (fun h_4 f0_4 f1_4 => ?_))
  refine r_aload_n dX11_dropWhatHangsOnMoves_7 rfl rfl ?_
  refine r_getR dX11_dropWhatHangsOnMoves_8 fl_X11_72 sh_0 rfl ?_
  refine r_callVI (av := []) (M' := mX0_removeAll) dX11_dropWhatHangsOnMoves_11 vX0_removeAll ml_X11_257 sh_33 (by decide) rfl rfl rfl rfl (by simp [wtA]) (sp_X0_removeAll (by omega) ?_)
  refine r_pop dX11_dropWhatHangsOnMoves_14 (fun _ h => by cases h) ?_
  refine r_aload_n dX11_dropWhatHangsOnMoves_15 rfl rfl ?_
  refine r_getR dX11_dropWhatHangsOnMoves_16 fl_X11_97 sh_0 rfl ?_
  refine r_iconst dX11_dropWhatHangsOnMoves_19 ?_
  refine r_putZ dX11_dropWhatHangsOnMoves_20 fl_X11_322 sh_48 rfl (.inl rfl) ?_
  refine r_vret dX11_dropWhatHangsOnMoves_23 rfl ?_
  refine ⟨rfl, k _ (fun a q h1 h2 h3 => ?_) (fun p hp => f1_4 p hp) rfl rfl⟩
  rw [← f0_4 a q h1]
  unfold upH
  rw [if_neg h3, if_neg h2]
set_option maxRecDepth 20000 in
set_option maxHeartbeats 400000 in
theorem sp_X11_wall {d : Nat} (hd : 6 ≤ d) {w b kk : Int} {h : Hp}  (ho : WOK h) (hw : R32 w) (hb : R32 b) (hk : R32 kk) {P : Int → Hp → Prop} (kt : (20 ≤ w ∧ w ≤ 200) ∧ (20 ≤ b ∧ b ≤ 200) ∧ (2 ≤ kk ∧ kk ≤ 20) → ∀ g : Hp, WALLC h g w b kk → P 1 g) (kf : ¬ ((20 ≤ w ∧ w ≤ 200) ∧ (20 ≤ b ∧ b ≤ 200) ∧ (2 ≤ kk ∧ kk ≤ 20)) → P 0 h) : Cl d mX11_wall [.inr (.inr 0), .inl w, .inl b, .inl kk] h (pI P) := by
  refine Cl.of (L := [some (.inr (.inr 0)), some (.inl w), some (.inl b), some (.inl kk)]) (by decide +kernel) (Nat.le_of_ble_eq_true rfl) rfl ?_
  obtain ⟨d, rfl⟩ : ∃ q, d = q + 1 := ⟨d - 1, by omega⟩
  refine r_iload_n dX11_wall_0 rfl rfl ?_
  refine r_bipush dX11_wall_1 (by decide +kernel) ?_
  refine r_sipush dX11_wall_3 (by decide +kernel) ?_
  refine r_callSI (av := [_, _, _]) (M' := mX11_isWithin) dX11_wall_6 sX11_isWithin ml_X11_116 rfl rfl (by simp [wtA]) (sp_X11_isWithin (by omega) (by omega) (by omega) (by omega) (fun b_6 => ?_) (fun b_6 => ?_))
  · refine r_if_eq (tgt := 34) dX11_wall_9 rfl ⟨by decide, by decide⟩ (fun c_9 => absurd c_9 (by decide)) (fun c_9 => ?_)
    refine r_iload_n dX11_wall_12 rfl rfl ?_
    refine r_bipush dX11_wall_13 (by decide +kernel) ?_
    refine r_sipush dX11_wall_15 (by decide +kernel) ?_
    refine r_callSI (av := [_, _, _]) (M' := mX11_isWithin) dX11_wall_18 sX11_isWithin ml_X11_116 rfl rfl (by simp [wtA]) (sp_X11_isWithin (by omega) (by omega) (by omega) (by omega) (fun b_18 => ?_) (fun b_18 => ?_))
    · refine r_if_eq (tgt := 34) dX11_wall_21 rfl ⟨by decide, by decide⟩ (fun c_21 => absurd c_21 (by decide)) (fun c_21 => ?_)
      refine r_iload_n dX11_wall_24 rfl rfl ?_
      refine r_iconst dX11_wall_25 ?_
      refine r_bipush dX11_wall_26 (by decide +kernel) ?_
      refine r_callSI (av := [_, _, _]) (M' := mX11_isWithin) dX11_wall_28 sX11_isWithin ml_X11_116 rfl rfl (by simp [wtA]) (sp_X11_isWithin (by omega) (by omega) (by omega) (by omega) (fun b_28 => ?_) (fun b_28 => ?_))
      · refine r_if_ne (tgt := 36) dX11_wall_31 rfl ⟨by decide, by decide⟩ (fun c_31 => ?_) (fun c_31 => absurd c_31 (by decide))
        refine r_aload_n dX11_wall_36 rfl rfl ?_
        refine r_getR dX11_wall_37 fl_X11_10 sh_0 rfl ?_
        refine r_iload_n dX11_wall_40 rfl rfl ?_
        refine r_putI dX11_wall_41 fl_X11_120 sh_1 rfl ?_
        refine r_aload_n dX11_wall_44 rfl rfl ?_
        refine r_getR dX11_wall_45 fl_X11_10 sh_0 rfl ?_
        refine r_iload_n dX11_wall_48 rfl rfl ?_
        refine r_putI dX11_wall_49 fl_X11_123 sh_1 rfl ?_
        refine r_aload_n dX11_wall_52 rfl rfl ?_
        refine r_getR dX11_wall_53 fl_X11_10 sh_0 rfl ?_
        refine r_iload_n dX11_wall_56 rfl rfl ?_
        refine r_putI dX11_wall_57 fl_X11_126 sh_1 rfl ?_
        refine r_aload_n dX11_wall_60 rfl rfl ?_
        refine r_getR dX11_wall_61 fl_X11_10 sh_0 rfl ?_
        refine r_callVU (av := []) (M' := mX10_forgetReach) dX11_wall_64 vX10_forgetReach ml_X11_129 sh_1 (by decide) rfl rfl rfl rfl (by simp [wtA]) (sp_X10_forgetReach (by omega) ?_)
        refine r_gh (fun g eg => ?_)
        have wg : WOK g := by
          have a0 : g 1 0 = w := by rw [eg]; rfl
          have a1 : g 1 1 = b := by rw [eg]; rfl
          have a2 : g 1 2 = kk := by rw [eg]; rfl
          have a3 : g 1 3 = h 1 3 := by rw [eg]; rfl
          have a4 : g 1 4 = h 1 4 := by rw [eg]; rfl
          have a5 : g 1 5 = h 1 5 := by rw [eg]; rfl
          have a7 : g 1 7 = h 1 7 := by rw [eg]; rfl
          omega
        refine r_aload_n dX11_wall_67 rfl rfl ?_
        refine r_getR dX11_wall_68 fl_X11_44 sh_0 rfl ?_
        refine r_callVU (av := []) (M' := mX2_goHome) dX11_wall_71 vX2_goHome ml_X11_105 sh_16 (by decide) rfl rfl rfl rfl (by simp [wtA]) (sp_X2_goHome_16 (by omega) wg ?_)
        refine r_gh (fun g2 eg2 => ?_)
        have wg2 : WOK g2 := by
          have a0 : g2 1 0 = w := by rw [eg2, eg]; rfl
          have a1 : g2 1 1 = b := by rw [eg2, eg]; rfl
          have a2 : g2 1 2 = kk := by rw [eg2, eg]; rfl
          have a3 : g2 1 3 = h 1 3 := by rw [eg2, eg]; rfl
          have a4 : g2 1 4 = h 1 4 := by rw [eg2, eg]; rfl
          have a5 : g2 1 5 = h 1 5 := by rw [eg2, eg]; rfl
          have a7 : g2 1 7 = h 1 7 := by rw [eg2, eg]; rfl
          omega
        refine r_aload_n dX11_wall_74 rfl rfl ?_
        refine r_getR dX11_wall_75 fl_X11_48 sh_0 rfl ?_
        refine r_callVU (av := []) (M' := mX2_goHome) dX11_wall_78 vX2_goHome ml_X11_105 sh_23 (by decide) rfl rfl rfl rfl (by simp [wtA]) (sp_X2_goHome_23 (by omega) wg2 ?_)
        refine r_aload_n dX11_wall_81 rfl rfl ?_
        refine r_callVU (av := []) (M' := mX11_dropWhatHangsOnMoves) dX11_wall_82 vX11_dropWhatHangsOnMoves ml_X11_132 sh_0 (by decide) rfl rfl rfl rfl (by simp [wtA]) (sp_X11_dropWhatHangsOnMoves (by omega) (fun h_82 f0_82 f1_82 f2_82 f3_82 => ?_))
        refine r_iconst dX11_wall_85 ?_
        refine r_zret dX11_wall_86 rfl (.inr rfl) ?_
        refine ⟨_, rfl, kt (by omega) _ ⟨fun a q hq => ?_, ?_, ?_, ?_, ?_, ⟨?_, ?_, ?_, ?_, ?_, ?_⟩, ⟨?_, ?_, ?_, ?_, ?_, ?_⟩, f1_82, f2_82, f3_82⟩⟩
        · have n22 : a ≠ 22 := by intro z; subst z; cases hq
          have n33 : ¬ (a = 33 ∧ q = 0) := by rintro ⟨z, -⟩; subst z; cases hq
          have n48 : ¬ (a = 48 ∧ q = 0) := by rintro ⟨z, -⟩; subst z; cases hq
          rw [f0_82 a q n22 n33 n48, eg2, eg]
          exact keepW_up hq
        · rw [f0_82 _ _ (by decide) (by decide) (by decide), eg2, eg]; rfl
        · rw [f0_82 _ _ (by decide) (by decide) (by decide), eg2, eg]; rfl
        · rw [f0_82 _ _ (by decide) (by decide) (by decide), eg2, eg]; rfl
        · rw [f0_82 _ _ (by decide) (by decide) (by decide), eg2, eg]; rfl
        · rw [f0_82 _ _ (by decide) (by decide) (by decide), eg2, eg]; rfl
        · rw [f0_82 _ _ (by decide) (by decide) (by decide), eg2, eg]; rfl
        · rw [f0_82 _ _ (by decide) (by decide) (by decide), eg2, eg]; rfl
        · rw [f0_82 _ _ (by decide) (by decide) (by decide), eg2, eg]; rfl
        · rw [f0_82 _ _ (by decide) (by decide) (by decide), eg2, eg]; rfl
        · rw [f0_82 _ _ (by decide) (by decide) (by decide), eg2, eg]; rfl
        · rw [f0_82 _ _ (by decide) (by decide) (by decide), eg2, eg]; rfl
        · rw [f0_82 _ _ (by decide) (by decide) (by decide), eg2, eg]; rfl
        · rw [f0_82 _ _ (by decide) (by decide) (by decide), eg2, eg]; rfl
        · rw [f0_82 _ _ (by decide) (by decide) (by decide), eg2, eg]; rfl
        · rw [f0_82 _ _ (by decide) (by decide) (by decide), eg2, eg]; rfl
        · rw [f0_82 _ _ (by decide) (by decide) (by decide), eg2, eg]; rfl
      · refine r_if_ne (tgt := 36) dX11_wall_31 rfl ⟨by decide, by decide⟩ (fun c_31 => absurd c_31 (by decide)) (fun c_31 => ?_)
        refine r_iconst dX11_wall_34 ?_
        refine r_zret dX11_wall_35 rfl (.inl rfl) ?_
        exact ⟨_, rfl, kf (by omega)⟩
    · refine r_if_eq (tgt := 34) dX11_wall_21 rfl ⟨by decide, by decide⟩ (fun c_21 => ?_) (fun c_21 => absurd c_21 (by decide))
      refine r_iconst dX11_wall_34 ?_
      refine r_zret dX11_wall_35 rfl (.inl rfl) ?_
      exact ⟨_, rfl, kf (by omega)⟩
  · refine r_if_eq (tgt := 34) dX11_wall_9 rfl ⟨by decide, by decide⟩ (fun c_9 => ?_) (fun c_9 => absurd c_9 (by decide))
    refine r_iconst dX11_wall_34 ?_
    refine r_zret dX11_wall_35 rfl (.inl rfl) ?_
    exact ⟨_, rfl, kf (by omega)⟩
set_option maxRecDepth 20000 in
set_option maxHeartbeats 400000 in
theorem sp_X12_home {d : Nat} (hd : 1 ≤ d) {p : Int} {h : Hp}  (hw : MOK h) (hp : 0 ≤ p ∧ p ≤ 301) {P : Hp → Prop} (k : P (upH (upH (upH h 60 p.toNat ((h 49 3).tdiv 2)) 61 p.toNat (h 49 4)) 62 p.toNat 0)) : Cl d mX12_home [.inr (.inr 49), .inl p] h (pV P) := by
  refine Cl.of (L := [some (.inr (.inr 49)), some (.inl p)]) (by decide +kernel) (Nat.le_of_ble_eq_true rfl) rfl ?_
  refine r_aload_n dX12_home_0 rfl rfl ?_
  refine r_getR dX12_home_1 fl_X12_59 sh_49 rfl ?_
  refine r_iload_n dX12_home_4 rfl rfl ?_
  refine r_aload_n dX12_home_5 rfl rfl ?_
  refine r_getI dX12_home_6 fl_X12_13 sh_49 rfl ?_
  refine r_iconst dX12_home_9 ?_
  refine r_idiv dX12_home_10 (by omega) ⟨by decide, by decide⟩ (by decide) ?_
  refine r_iast dX12_home_11 sh_60 (by decide) (by omega) ?_
  refine r_aload_n dX12_home_12 rfl rfl ?_
  refine r_getR dX12_home_13 fl_X12_62 sh_49 rfl ?_
  refine r_iload_n dX12_home_16 rfl rfl ?_
  refine r_aload_n dX12_home_17 rfl rfl ?_
  refine r_getI dX12_home_18 fl_X12_17 sh_49 rfl ?_
  refine r_eqI (up_nc (by decide)) ?_
  refine r_iast dX12_home_21 sh_61 (by decide) (by omega) ?_
  refine r_aload_n dX12_home_22 rfl rfl ?_
  refine r_getR dX12_home_23 fl_X12_65 sh_49 rfl ?_
  refine r_iload_n dX12_home_26 rfl rfl ?_
  refine r_iconst dX12_home_27 ?_
  refine r_zast dX12_home_28 sh_62 (by decide) (by omega) (.inl rfl) ?_
  refine r_vret dX12_home_29 rfl ?_
  exact ⟨rfl, k⟩
set_option maxRecDepth 20000 in
set_option maxHeartbeats 400000 in
theorem lp_forgets {d : Nat} {P : Hp → Prop} {h : Hp} (k : ∀ g : Hp, (∀ a k, a ≠ 69 → ¬ (a = 49 ∧ (k = 48 ∨ k = 62)) → g a k = h a k) → (∀ p : Nat, p < 300 → g 69 p = 0) → g 49 48 = 0 → g 49 62 = 0 → P g) : ∀ (nn : Nat) (i : Nat) (g : Hp), (i ≤ 300) → (∀ a k, a ≠ 69 → g a k = h a k) → (∀ p : Nat, p < i → g 69 p = 0) → 300 - i < nn → WW mX12_forgets d (pV P) 2 [some (.inr (.inr 49)), some (.inl (i : Int))] [] g := by
  intro nn
  induction nn with
  | zero => intro i g hi hg hv; intros; omega
  | succ nn ih =>
    intro i g hi hg hv hmu
    refine r_iload_n dX12_forgets_2 rfl rfl ?_
    refine r_sipush dX12_forgets_3 (by decide +kernel) ?_
    refine r_icmp_ge (tgt := 22) dX12_forgets_6 rfl (by omega) ⟨by decide, by decide⟩ (fun c_6 => ?_) (fun c_6 => ?_)
    · refine r_aload_n dX12_forgets_22 rfl rfl ?_
      refine r_iconst dX12_forgets_23 ?_
      refine r_putI dX12_forgets_24 fl_X12_177 sh_49 rfl ?_
      refine r_aload_n dX12_forgets_27 rfl rfl ?_
      refine r_iconst dX12_forgets_28 ?_
      refine r_putZ dX12_forgets_29 fl_X12_180 sh_49 rfl (.inl rfl) ?_
      refine r_vret dX12_forgets_32 rfl ?_
      refine ⟨rfl, k _ (fun a q h1 h2 => ?_) (fun p hp => hv p (by omega)) rfl rfl⟩
      rw [← hg a q h1]
      unfold upH
      rw [if_neg (by omega), if_neg (by omega)]
    · refine r_aload_n dX12_forgets_9 rfl rfl ?_
      refine r_getR dX12_forgets_10 fl_X12_88 sh_49 rfl ?_
      refine r_iload_n dX12_forgets_13 rfl rfl ?_
      refine r_iconst dX12_forgets_14 ?_
      refine r_iast dX12_forgets_15 sh_69 (by decide) (by omega) ?_
      refine r_iinc (L' := [_, _]) dX12_forgets_16 rfl rfl (by decide) rfl ?_
      refine r_goto (tgt := 2) dX12_forgets_19 rfl ?_
      refine ih (i + 1) _ (by omega) ?_ ?_ (by omega)
      · intro a k h1
        rw [up_nc h1]
        exact hg a k h1
      · intro p hp
        rw [Int.toNat_natCast]
        by_cases q : p = i
        · subst q
          rw [up_s]
        · rw [up_nk q]
          exact hv p (by omega)
set_option maxRecDepth 20000 in
set_option maxHeartbeats 400000 in
theorem sp_X12_forgets {d : Nat} (hd : 1 ≤ d) {h : Hp}   {P : Hp → Prop} (k : ∀ h' : Hp, (∀ a k, a ≠ 69 → ¬ (a = 49 ∧ (k = 48 ∨ k = 62)) → h' a k = h a k) → (∀ p : Nat, p < 300 → h' 69 p = 0) → (h' 49 48 = 0) → (h' 49 62 = 0) → P h') : Cl d mX12_forgets [.inr (.inr 49)] h (pV P) := by
  refine Cl.of (L := [some (.inr (.inr 49)), none]) (by decide +kernel) (Nat.le_of_ble_eq_true rfl) rfl ?_
  refine r_iconst dX12_forgets_0 ?_
  refine r_istore_n (L' := [_, _]) dX12_forgets_1 rfl rfl (by decide) rfl ?_
  exact lp_forgets k 301 0 h (by omega) (fun _ _ _ => rfl) (fun p hp => absurd hp (by omega)) (by omega)
set_option maxRecDepth 20000 in
set_option maxHeartbeats 400000 in
theorem sp_X12_begins {d : Nat} (hd : 2 ≤ d) {h : Hp}  (hw : MOK h) {P : Hp → Prop} (k : ∀ h' : Hp, (∀ a k, a ≠ 69 → a ≠ 60 → a ≠ 61 → a ≠ 62 → ¬ (a = 49 ∧ (k = 48 ∨ k = 62 ∨ k = 29 ∨ k = 30)) → h' a k = h a k) → (h' 49 29 = 0 ∧ h' 49 30 = 0 ∧ h' 60 0 = (h 49 3).tdiv 2 ∧ h' 61 0 = (h 49 4) ∧ h' 62 0 = 0 ∧ h' 60 151 = (h 49 3).tdiv 2 ∧ h' 61 151 = (h 49 4) ∧ h' 62 151 = 0) → (∀ p : Nat, p < 300 → h' 69 p = 0) → (h' 49 48 = 0) → (h' 49 62 = 0) → P h') : Cl d mX12_begins [.inr (.inr 49)] h (pV P) := by
  refine Cl.of (L := [some (.inr (.inr 49))]) (by decide +kernel) (Nat.le_of_ble_eq_true rfl) rfl ?_
  obtain ⟨d, rfl⟩ : ∃ q, d = q + 1 := ⟨d - 1, by omega⟩
  refine r_aload_n dX12_begins_0 rfl rfl ?_
  refine r_iconst dX12_begins_1 ?_
  refine r_putI dX12_begins_2 fl_X12_164 sh_49 rfl ?_
  refine r_gh (fun g eg => ?_)
  have wg : MOK g := by rw [eg]; exact hw
  refine r_aload_n dX12_begins_5 rfl rfl ?_
  refine r_iconst dX12_begins_6 ?_
  refine r_callVU (av := [_]) (M' := mX12_home) dX12_begins_7 vX12_home ml_X12_167 sh_49 (by decide) rfl rfl rfl rfl (by simp [wtA]) (sp_X12_home (by omega) wg (by omega) ?_)
  refine r_aload_n dX12_begins_10 rfl rfl ?_
  refine r_iconst dX12_begins_11 ?_
  refine r_putI dX12_begins_12 fl_X12_171 sh_49 rfl ?_
  refine r_gh (fun g2 eg2 => ?_)
  have wg2 : MOK g2 := by rw [eg2, eg]; exact hw
  refine r_aload_n dX12_begins_15 rfl rfl ?_
  refine r_sipush dX12_begins_16 (by decide +kernel) ?_
  refine r_callVU (av := [_]) (M' := mX12_home) dX12_begins_19 vX12_home ml_X12_167 sh_49 (by decide) rfl rfl rfl rfl (by simp [wtA]) (sp_X12_home (by omega) wg2 (by omega) ?_)
  refine r_aload_n dX12_begins_22 rfl rfl ?_
  refine r_callVU (av := []) (M' := mX12_forgets) dX12_begins_23 vX12_forgets ml_X12_174 sh_49 (by decide) rfl rfl rfl rfl (by simp [wtA]) (sp_X12_forgets (by omega) (fun h_23 f0_23 f1_23 f2_23 f3_23 => ?_))
  refine r_vret dX12_begins_26 rfl ?_
  refine ⟨rfl, k _ (fun a q h1 h2 h3 h4 h5 => ?_) ?_ f1_23 f2_23 f3_23⟩
  · rw [f0_23 a q h1 (by omega), eg2, eg]
    unfold upH
    rw [if_neg (by omega), if_neg (by omega), if_neg (by omega), if_neg (by omega), if_neg (by omega), if_neg (by omega), if_neg (by omega), if_neg (by omega)]
  · rw [f0_23 49 29 (by decide) (by decide), f0_23 49 30 (by decide) (by decide), f0_23 60 0 (by decide) (by decide), f0_23 61 0 (by decide) (by decide), f0_23 62 0 (by decide) (by decide), f0_23 60 151 (by decide) (by decide), f0_23 61 151 (by decide) (by decide), f0_23 62 151 (by decide) (by decide), eg2, eg]
    exact ⟨rfl, rfl, rfl, rfl, rfl, rfl, rfl, rfl⟩
set_option maxRecDepth 20000 in
set_option maxHeartbeats 400000 in
theorem sp_X12_wall {d : Nat} (hd : 3 ≤ d) {w b kk : Int} {h : Hp}  (ho : MOK h) (hw : R32 w) (hb : R32 b) (hk : R32 kk) {P : Int → Hp → Prop} (kt : (20 ≤ w ∧ w ≤ 200) ∧ (20 ≤ b ∧ b ≤ 200) ∧ (2 ≤ kk ∧ kk ≤ 20) → ∀ g : Hp, (∃ g0, FrM h g0 ∧ WALLM g0 g w b kk) → P 1 g) (kf : ¬ ((20 ≤ w ∧ w ≤ 200) ∧ (20 ≤ b ∧ b ≤ 200) ∧ (2 ≤ kk ∧ kk ≤ 20)) → ∀ g : Hp, FrM h g → P 0 g) : Cl d mX12_wall [.inr (.inr 49), .inl w, .inl b, .inl kk] h (pI P) := by
  refine Cl.of (L := [some (.inr (.inr 49)), some (.inl w), some (.inl b), some (.inl kk)]) (by decide +kernel) (Nat.le_of_ble_eq_true rfl) rfl ?_
  obtain ⟨d, rfl⟩ : ∃ q, d = q + 1 := ⟨d - 1, by omega⟩
  refine r_aload_n dX12_wall_0 rfl rfl ?_
  refine r_iconst dX12_wall_1 ?_
  refine r_putI dX12_wall_2 fl_X12_127 sh_49 rfl ?_
  refine r_gh (fun g eg => ?_)
  have f : FrM h g := by rw [eg]; exact FrM.rf.up rfl
  have e3 : g 49 3 = h 49 3 := f 49 3 rfl
  have e4 : g 49 4 = h 49 4 := f 49 4 rfl
  have e5 : g 49 5 = h 49 5 := f 49 5 rfl
  have e6 : g 49 6 = h 49 6 := f 49 6 rfl
  have e7 : g 49 7 = h 49 7 := f 49 7 rfl
  have e8 : g 49 8 = h 49 8 := f 49 8 rfl
  have wo : MOK g := by omega
  refine r_iload_n dX12_wall_5 rfl rfl ?_
  refine r_bipush dX12_wall_6 (by decide +kernel) ?_
  refine r_sipush dX12_wall_8 (by decide +kernel) ?_
  refine r_callSI (av := [_, _, _]) (M' := mX12_isIn) dX12_wall_11 sX12_isIn ml_X12_160 rfl rfl (by simp [wtA]) (sp_X12_isIn (by omega) (by omega) (by omega) (by omega) (fun b_11 => ?_) (fun b_11 => ?_))
  · refine r_if_eq (tgt := 39) dX12_wall_14 rfl ⟨by decide, by decide⟩ (fun c_14 => absurd c_14 (by decide)) (fun c_14 => ?_)
    refine r_iload_n dX12_wall_17 rfl rfl ?_
    refine r_bipush dX12_wall_18 (by decide +kernel) ?_
    refine r_sipush dX12_wall_20 (by decide +kernel) ?_
    refine r_callSI (av := [_, _, _]) (M' := mX12_isIn) dX12_wall_23 sX12_isIn ml_X12_160 rfl rfl (by simp [wtA]) (sp_X12_isIn (by omega) (by omega) (by omega) (by omega) (fun b_23 => ?_) (fun b_23 => ?_))
    · refine r_if_eq (tgt := 39) dX12_wall_26 rfl ⟨by decide, by decide⟩ (fun c_26 => absurd c_26 (by decide)) (fun c_26 => ?_)
      refine r_iload_n dX12_wall_29 rfl rfl ?_
      refine r_iconst dX12_wall_30 ?_
      refine r_bipush dX12_wall_31 (by decide +kernel) ?_
      refine r_callSI (av := [_, _, _]) (M' := mX12_isIn) dX12_wall_33 sX12_isIn ml_X12_160 rfl rfl (by simp [wtA]) (sp_X12_isIn (by omega) (by omega) (by omega) (by omega) (fun b_33 => ?_) (fun b_33 => ?_))
      · refine r_if_ne (tgt := 41) dX12_wall_36 rfl ⟨by decide, by decide⟩ (fun c_36 => ?_) (fun c_36 => absurd c_36 (by decide))
        refine r_aload_n dX12_wall_41 rfl rfl ?_
        refine r_iload_n dX12_wall_42 rfl rfl ?_
        refine r_putI dX12_wall_43 fl_X12_13 sh_49 rfl ?_
        refine r_aload_n dX12_wall_46 rfl rfl ?_
        refine r_iload_n dX12_wall_47 rfl rfl ?_
        refine r_putI dX12_wall_48 fl_X12_17 sh_49 rfl ?_
        refine r_aload_n dX12_wall_51 rfl rfl ?_
        refine r_iload_n dX12_wall_52 rfl rfl ?_
        refine r_putI dX12_wall_53 fl_X12_20 sh_49 rfl ?_
        refine r_gh (fun g2 eg2 => ?_)
        have wg : MOK g2 := by
          have a0 : g2 49 3 = w := by rw [eg2]; rfl
          have a1 : g2 49 4 = b := by rw [eg2]; rfl
          have a2 : g2 49 5 = kk := by rw [eg2]; rfl
          have a3 : g2 49 6 = g 49 6 := by rw [eg2]; rfl
          have a4 : g2 49 7 = g 49 7 := by rw [eg2]; rfl
          have a5 : g2 49 8 = g 49 8 := by rw [eg2]; rfl
          omega
        refine r_aload_n dX12_wall_56 rfl rfl ?_
        refine r_callVU (av := []) (M' := mX12_begins) dX12_wall_57 vX12_begins ml_X12_124 sh_49 (by decide) rfl rfl rfl rfl (by simp [wtA]) (sp_X12_begins (by omega) wg (fun h_57 f0_57 f1_57 f2_57 f3_57 f4_57 => ?_))
        refine r_iconst dX12_wall_60 ?_
        refine r_zret dX12_wall_61 rfl (.inr rfl) ?_
        refine ⟨_, rfl, kt (by omega) _ ⟨g, f, ⟨fun a q hq => ?_, ?_, ?_, ?_, f1_57.1, f1_57.2.1, ?_, ?_, f2_57, f3_57, f4_57⟩⟩⟩
        · have n : ∀ c j, keepV c j = false → ¬ (a = c ∧ q = j) := by
            rintro c j hc ⟨rfl, rfl⟩
            rw [hc] at hq
            cases hq
          have m1 : ∀ c, (∀ j, keepV c j = false) → a ≠ c := by
            rintro c hc rfl
            rw [hc] at hq
            cases hq
          rw [f0_57 a q (m1 _ (fun _ => rfl)) (m1 _ (fun _ => rfl)) (m1 _ (fun _ => rfl)) (m1 _ (fun _ => rfl)) (by have := n 49 48 rfl; have := n 49 62 rfl; have := n 49 29 rfl; have := n 49 30 rfl; omega), eg2]
          unfold upH
          rw [if_neg (n _ _ rfl), if_neg (n _ _ rfl), if_neg (n _ _ rfl)]
        · rw [f0_57 _ _ (by decide) (by decide) (by decide) (by decide) (by decide), eg2]; rfl
        · rw [f0_57 _ _ (by decide) (by decide) (by decide) (by decide) (by decide), eg2]; rfl
        · rw [f0_57 _ _ (by decide) (by decide) (by decide) (by decide) (by decide), eg2]; rfl
        · have z := f1_57
          rw [eg2] at z
          exact ⟨z.2.2.1, z.2.2.2.1, z.2.2.2.2.1⟩
        · have z := f1_57
          rw [eg2] at z
          exact z.2.2.2.2.2
      · refine r_if_ne (tgt := 41) dX12_wall_36 rfl ⟨by decide, by decide⟩ (fun c_36 => absurd c_36 (by decide)) (fun c_36 => ?_)
        refine r_iconst dX12_wall_39 ?_
        refine r_zret dX12_wall_40 rfl (.inl rfl) ?_
        exact ⟨_, rfl, kf (by omega) _ f⟩
    · refine r_if_eq (tgt := 39) dX12_wall_26 rfl ⟨by decide, by decide⟩ (fun c_26 => ?_) (fun c_26 => absurd c_26 (by decide))
      refine r_iconst dX12_wall_39 ?_
      refine r_zret dX12_wall_40 rfl (.inl rfl) ?_
      exact ⟨_, rfl, kf (by omega) _ f⟩
  · refine r_if_eq (tgt := 39) dX12_wall_14 rfl ⟨by decide, by decide⟩ (fun c_14 => ?_) (fun c_14 => absurd c_14 (by decide))
    refine r_iconst dX12_wall_39 ?_
    refine r_zret dX12_wall_40 rfl (.inl rfl) ?_
    exact ⟨_, rfl, kf (by omega) _ f⟩
theorem HOMEC.rm {h : Hp} {w b K E : Int} {n x y dn lf rg B : Nat} (c : HOMEC h w b K E n x y dn lf rg) (hw : 20 ≤ w ∧ w ≤ 200) (hb : 20 ≤ b ∧ b ≤ 200) (m1 : h 60 B = w.tdiv 2) (m2 : h 61 B = b) (m3 : h 62 B = 0) : RMv w b K E (h n 0) (h x) (h y) (h dn) (h lf) (h rg) (h 60) (h 61) (h 62) B := by
  obtain ⟨c1, c2, c3, c4, c5, c6⟩ := c
  have t1 := tdivNN (a := w) (b := 2) (by omega) (by omega)
  rw [c1]
  refine ⟨by decide, by decide, fun p hp => ?_⟩
  have e : p = 0 := by omega
  subst e
  rw [Nat.add_zero, c2, c3, c4, c5, c6, m1, m2, m3]
  refine ⟨t1.1, t1.2, by omega, by omega, Or.inl rfl, rfl, rfl, rfl, rfl, rfl⟩
theorem REL.wall {h g g0 g2 : Hp} (r : REL h) {w b kk : Int} (hc : (20 ≤ w ∧ w ≤ 200) ∧ (20 ≤ b ∧ b ≤ 200) ∧ (2 ≤ kk ∧ kk ≤ 20)) (C : WALLC h g w b kk) (f : FrM g g0) (D : WALLM g0 g2 w b kk) : REL g2 := by
  obtain ⟨c1, c2, c3, c4, c5, c6, c7, c8, c9, c10⟩ := C
  obtain ⟨d1, d2, d3, d4, d5, d6, d7, d8, d9, d10, d11⟩ := D
  have L : ∀ a k, a < 49 → g2 a k = g a k := fun a k ha => by
    rw [d1 a k (by simp [keepV, ha])]
    exact f a k (by simp [scrM]; omega)
  have K : ∀ a k, keepW a k = true → keepV a k = true → scrM a k = false → g2 a k = h a k := fun a k h1 h2 h3 => by rw [d1 a k h2, f a k h3, c1 a k h1]
  have J : ∀ a k, a < 49 → keepW a k = true → g2 a k = h a k := fun a k h1 h2 => by rw [L a k h1, c1 a k h2]
  obtain ⟨r1, r2, r3, r4, r5, r6, r7, r8, r9, r10⟩ := r
  have F : ∀ a, a < 49 → g2 a = g a := fun a ha => funext fun k => L a k ha
  refine ⟨?_, ?_, ?_, ?_, ?_, ?_, ?_, ?_, ?_, ?_⟩
  · have := L 1 0 (by decide)
    have := L 1 1 (by decide)
    have := L 1 2 (by decide)
    have := J 1 3 (by decide) rfl
    have := J 1 4 (by decide) rfl
    have := J 1 5 (by decide) rfl
    have := J 1 7 (by decide) rfl
    have := K 49 6 rfl rfl rfl
    have := K 49 7 rfl rfl rfl
    have := K 49 8 rfl rfl rfl
    omega
  · simp only [RT, J 2 0 (by decide) rfl, K 49 1 rfl rfl rfl, (show g2 3 = h 3 from funext fun j => J 3 j (by decide) rfl), (show g2 50 = h 50 from funext fun j => K 50 j rfl rfl rfl)]
    exact r2
  · simp only [RF, J 14 2 (by decide) rfl, J 14 3 (by decide) rfl, J 0 12 (by decide) rfl, K 49 10 rfl rfl rfl, K 49 11 rfl rfl rfl, K 49 12 rfl rfl rfl]
    exact r3
  · refine ⟨by rw [d5, L 16 0 (by decide), c6.1], ?_⟩
    rw [L 1 0 (by decide), L 1 1 (by decide), L 1 2 (by decide), J 1 3 (by decide) rfl, c2, c3, c4]
    refine HOMEC.rm (h := g2) ?_ hc.1 hc.2.1 d7.1 d7.2.1 d7.2.2
    unfold HOMEC
    rw [F 16 (by decide), F 17 (by decide), F 18 (by decide), F 19 (by decide), F 20 (by decide), F 21 (by decide)]
    exact c6
  · refine ⟨by rw [d6, L 23 0 (by decide), c7.1], ?_⟩
    rw [L 1 0 (by decide), L 1 1 (by decide), L 1 2 (by decide), J 1 3 (by decide) rfl, c2, c3, c4]
    refine HOMEC.rm (h := g2) ?_ hc.1 hc.2.1 d8.1 d8.2.1 d8.2.2
    unfold HOMEC
    rw [F 23 (by decide), F 24 (by decide), F 25 (by decide), F 26 (by decide), F 27 (by decide), F 28 (by decide)]
    exact c7
  · intro j hj
    rw [d9 j hj, L 22 j (by decide), c8 j hj]
    omega
  · have e0 : g2 33 0 = 0 := by rw [L 33 0 (by decide), c9]
    refine ⟨by rw [d10, e0], by omega, by omega, ?_, ?_⟩
    · intro k hk
      omega
    · intro k hk
      omega
  · simp only [RP, J 45 0 (by decide) rfl, K 49 60 rfl rfl rfl, (show g2 46 = h 46 from funext fun j => J 46 j (by decide) rfl), (show g2 47 = h 47 from funext fun j => J 47 j (by decide) rfl), (show g2 80 = h 80 from funext fun j => K 80 j rfl rfl rfl)]
    exact r8
  · have e0 : g2 48 0 = 0 := by rw [L 48 0 (by decide), c10]
    refine ⟨by rw [d11, e0], Or.inl e0, fun z => ?_⟩
    omega
  · refine ⟨Or.inl (by rw [L 1 8 (by decide), c5]), fun j hj => ?_⟩
    rw [K 51 j rfl rfl rfl]
    exact r10.2 j hj
theorem pr_wall {d : Nat} (hd : 20 ≤ d) {w b kk : Int} (hw : R32 w) (hb : R32 b) (hk : R32 kk) : PR d mX11_wall mX12_wall [.inl w, .inl b, .inl kk] := by
  intro h r
  refine sp_X11_wall (by omega) r.1.1 hw hb hk (fun C g W => ?_) (fun C => ?_)
  · have m : MOK g := by
      have q := W.1
      have := q 49 3 rfl
      have := q 49 4 rfl
      have := q 49 5 rfl
      have := q 49 6 rfl
      have := q 49 7 rfl
      have := q 49 8 rfl
      have := r.1
      omega
    exact sp_X12_wall (by omega) m hw hb hk (fun _ g2 ⟨g0, f, D⟩ => ⟨rfl, r.wall C W f D⟩) (fun D => absurd C D)
  · exact sp_X12_wall (by omega) r.1.2.1 hw hb hk (fun D => absurd D C) (fun _ g f => ⟨rfl, f.rel r⟩)
