/-! PUT and AGAIN, THE CLASS -/
def arS (b : Nat → Int) (n : Nat) (s : Sg) : Nat → Sg
  | 0 => s
  | 1 => nuS b n 0 99 s
  | 2 => sdS b n (nuS b n 0 99 s)
  | _ => sdS b n (sdS b n (nuS b n 0 99 s))
def arV (b : Nat → Int) (n : Nat) (s : Sg) : Nat → Int
  | 0 => nuV b n 0 99 s
  | 1 => sdV b n (nuS b n 0 99 s)
  | _ => sdV b n (sdS b n (nuS b n 0 99 s))
def aoS (b : Nat → Int) (n : Nat) (op : Int) (s : Sg) : Sg := if tK b n s.1 = 40 ∧ 5 ≤ op then flS b n 2 s else s
def agS (b : Nat → Int) (n : Nat) (op : Int) (s : Sg) : Sg := siS b n 40 (aoS b n op (arS b n s 3))
noncomputable def puS (b : Nat → Int) (n : Nat) (fi : Int) (s : Sg) : Sg := nuS b n 0 99 (nkS b n (fpS b n fi s) 2)
set_option maxRecDepth 20000 in
set_option maxHeartbeats 400000 in
theorem sp_rnPut {d : Nat} (hd : 8 ≤ d) {h : Hp} {n i F : Nat} {s : Sg} (hx : TX h n) (hp : PS h n s) (hi : i < 60) (hF : NF h F) {P : Hp → Prop} (k : ∀ h' : Hp, (FrS i h h') → (PS h' n (puS (h 3) n (fiH h n s.1 F) s)) → ((fpS (h 3) n (fiH h n s.1 F) s).2.1 = 0 → h' 7 i = fiH h n s.1 F) → (h' 8 (5 * i + 0) = nuV (h 3) n 0 999 (fpS (h 3) n (fiH h n s.1 F) s)) → (h' 8 (5 * i + 1) = nuV (h 3) n 0 999 (nkS (h 3) n (fpS (h 3) n (fiH h n s.1 F) s) 1)) → (h' 8 (5 * i + 2) = nuV (h 3) n 0 99 (nkS (h 3) n (fpS (h 3) n (fiH h n s.1 F) s) 2)) → P h') : Cl d mX3_readNumbers [.inr (.inr 14), .inl (i : Int), .inl 1] h (pV P) := by
  refine Cl.of (L := [some (.inr (.inr 14)), some (.inl (i : Int)), some (.inl 1), none, none]) (by decide +kernel) (Nat.le_of_ble_eq_true rfl) rfl ?_
  obtain ⟨d, rfl⟩ : ∃ q, d = q + 1 := ⟨d - 1, by omega⟩
  refine r_iload_n dX3_readNumbers_0 rfl rfl ?_
  refine r_lookup (off := 42) (tgt := 43) dX3_readNumbers_1 (by decide +kernel) ⟨by decide, by decide⟩ (by decide +kernel) rfl ?_
  refine r_aload_n dX3_readNumbers_43 rfl rfl ?_
  refine r_iload_n dX3_readNumbers_44 rfl rfl ?_
  refine r_callVU (av := [_]) (M' := mX3_readFormName) dX3_readNumbers_45 vX3_readFormName ml_X3_100 sh_14 (by decide) rfl rfl rfl rfl (by simp [wtA]) (sp_X3_readFormName (by omega) hx hp hF (by omega) (fun h_45 f0_45 f1_45 f2_45 f3_45 => ?_) (fun h_45 f0_45 f1_45 f2_45 => ?_))
  · have fg0 : FrS i h h_45 := fun a q z1 z2 z3 z4 => f0_45 a q z1 z2 (by rw [Int.toNat_natCast]; exact z4)
    have og0 : (fpS (h 3) n (fiH h n s.1 F) s).2.1 = 0 → h_45 7 i = fiH h n s.1 F := fun _ => by rw [Int.toNat_natCast] at f2_45; exact f2_45
    refine r_gh (fun g0 eg0 => ?_)
    rw [← eg0] at fg0 og0 f1_45
    clear f0_45 eg0
    refine r_aload_n dX3_readNumbers_48 rfl rfl ?_
    refine r_getR dX3_readNumbers_49 fl_X3_29 sh_14 rfl ?_
    refine r_iload_n dX3_readNumbers_52 rfl rfl ?_
    refine r_iconst dX3_readNumbers_53 ?_
    refine r_aload_n dX3_readNumbers_54 rfl rfl ?_
    refine r_iconst dX3_readNumbers_55 ?_
    refine r_sipush dX3_readNumbers_56 (by decide +kernel) ?_
    refine r_callVI (av := [_, _]) (M' := mX3_takeNumber) dX3_readNumbers_59 vX3_takeNumber ml_X3_103 sh_14 (by decide) rfl rfl rfl rfl (by simp [wtA]) (sp_X3_takeNumber (by omega) (fg0.tx hx) f1_45 (by omega) (by omega) (fun h_59 f0_59 f1_59 => ?_))
    refine r_callVU (av := [_, _, _]) (M' := mX7_put) dX3_readNumbers_62 vX7_put ml_X3_107 sh_4 (by decide) rfl rfl rfl rfl (by simp [wtA]) (sp_X7_put (by omega) (by omega) (by omega) ?_)
    refine r_gh (fun g1 eg1 => ?_)
    rw [show (5 * (i : Int) + 0).toNat = 5 * i + 0 by omega] at eg1
    have fg1 : FrS i h g1 := by rw [eg1]; exact FrS.up (fg0.tr (FrS.of f0_59)) (by decide)
    rw [fg0.b] at f1_59
    have pg1 : PS g1 n (nuS (h 3) n 0 999 (fpS (h 3) n (fiH h n s.1 F) s)) := by rw [eg1]; exact f1_59.up (by decide) (by decide) (by omega)
    have xg1 : g1 8 (5 * i + 0) = nuV (h 3) n 0 999 (fpS (h 3) n (fiH h n s.1 F) s) := by rw [eg1, up_s, fg0.b]
    refine r_aload_n dX3_readNumbers_65 rfl rfl ?_
    refine r_getR dX3_readNumbers_66 fl_X3_29 sh_14 rfl ?_
    refine r_iload_n dX3_readNumbers_69 rfl rfl ?_
    refine r_iconst dX3_readNumbers_70 ?_
    refine r_aload_n dX3_readNumbers_71 rfl rfl ?_
    refine r_iconst dX3_readNumbers_72 ?_
    refine r_sipush dX3_readNumbers_73 (by decide +kernel) ?_
    refine r_callVI (av := [_, _]) (M' := mX3_takeNumber) dX3_readNumbers_76 vX3_takeNumber ml_X3_103 sh_14 (by decide) rfl rfl rfl rfl (by simp [wtA]) (sp_X3_takeNumber (by omega) (fg1.tx hx) pg1 (by omega) (by omega) (fun h_76 f0_76 f1_76 => ?_))
    refine r_callVU (av := [_, _, _]) (M' := mX7_put) dX3_readNumbers_79 vX7_put ml_X3_107 sh_4 (by decide) rfl rfl rfl rfl (by simp [wtA]) (sp_X7_put (by omega) (by omega) (by omega) ?_)
    refine r_gh (fun g2 eg2 => ?_)
    rw [show (5 * (i : Int) + 1).toNat = 5 * i + 1 by omega] at eg2
    have fg2 : FrS i h g2 := by rw [eg2]; exact FrS.up (fg1.tr (FrS.of f0_76)) (by decide)
    rw [fg1.b] at f1_76
    have pg2 : PS g2 n (nuS (h 3) n 0 999 (nuS (h 3) n 0 999 (fpS (h 3) n (fiH h n s.1 F) s))) := by rw [eg2]; exact f1_76.up (by decide) (by decide) (by omega)
    have xg2 : g2 8 (5 * i + 1) = nuV (h 3) n 0 999 (nuS (h 3) n 0 999 (fpS (h 3) n (fiH h n s.1 F) s)) := by rw [eg2, up_s, fg1.b]
    have xg2_0 : g2 8 (5 * i + 0) = g1 8 (5 * i + 0) := by rw [eg2, up_nk (by omega), f0_76 8 _ (by omega) (by omega)]
    refine r_aload_n dX3_readNumbers_82 rfl rfl ?_
    refine r_getR dX3_readNumbers_83 fl_X3_29 sh_14 rfl ?_
    refine r_iload_n dX3_readNumbers_86 rfl rfl ?_
    refine r_iconst dX3_readNumbers_87 ?_
    refine r_aload_n dX3_readNumbers_88 rfl rfl ?_
    refine r_iconst dX3_readNumbers_89 ?_
    refine r_bipush dX3_readNumbers_90 (by decide +kernel) ?_
    refine r_callVI (av := [_, _]) (M' := mX3_takeNumber) dX3_readNumbers_92 vX3_takeNumber ml_X3_103 sh_14 (by decide) rfl rfl rfl rfl (by simp [wtA]) (sp_X3_takeNumber (by omega) (fg2.tx hx) pg2 (by omega) (by omega) (fun h_92 f0_92 f1_92 => ?_))
    refine r_callVU (av := [_, _, _]) (M' := mX7_put) dX3_readNumbers_95 vX7_put ml_X3_107 sh_4 (by decide) rfl rfl rfl rfl (by simp [wtA]) (sp_X7_put (by omega) (by omega) (by omega) ?_)
    refine r_goto (tgt := 263) dX3_readNumbers_98 rfl ?_
    refine r_vret dX3_readNumbers_263 rfl ?_
    rw [show (5 * (i : Int) + 2).toNat = 5 * i + 2 by omega]
    rw [fg2.b] at f1_92 ⊢
    refine ⟨rfl, k _ (FrS.up (fg2.tr (FrS.of f0_92)) (by decide)) (f1_92.up (by decide) (by decide) (by omega)) (fun z => ?_) ?_ ?_ (up_s _ _ _ _)⟩
    · rw [up_nc (by decide), f0_92 7 _ (by omega) (by omega), eg2, up_nc (by decide), f0_76 7 _ (by omega) (by omega), eg1, up_nc (by decide), f0_59 7 _ (by omega) (by omega)]
      exact og0 z
    · rw [up_nk (by omega), f0_92 8 _ (by omega) (by omega), xg2_0, xg1]
      all_goals rfl
    · rw [up_nk (by omega), f0_92 8 _ (by omega) (by omega), xg2]
      all_goals rfl
  · have fg0 : FrS i h h_45 := FrS.of f0_45
    have og0 : (fpS (h 3) n (fiH h n s.1 F) s).2.1 = 0 → h_45 7 i = fiH h n s.1 F := fun z => absurd z f2_45
    refine r_gh (fun g0 eg0 => ?_)
    rw [← eg0] at fg0 og0 f1_45
    clear f0_45 eg0
    refine r_aload_n dX3_readNumbers_48 rfl rfl ?_
    refine r_getR dX3_readNumbers_49 fl_X3_29 sh_14 rfl ?_
    refine r_iload_n dX3_readNumbers_52 rfl rfl ?_
    refine r_iconst dX3_readNumbers_53 ?_
    refine r_aload_n dX3_readNumbers_54 rfl rfl ?_
    refine r_iconst dX3_readNumbers_55 ?_
    refine r_sipush dX3_readNumbers_56 (by decide +kernel) ?_
    refine r_callVI (av := [_, _]) (M' := mX3_takeNumber) dX3_readNumbers_59 vX3_takeNumber ml_X3_103 sh_14 (by decide) rfl rfl rfl rfl (by simp [wtA]) (sp_X3_takeNumber (by omega) (fg0.tx hx) f1_45 (by omega) (by omega) (fun h_59 f0_59 f1_59 => ?_))
    refine r_callVU (av := [_, _, _]) (M' := mX7_put) dX3_readNumbers_62 vX7_put ml_X3_107 sh_4 (by decide) rfl rfl rfl rfl (by simp [wtA]) (sp_X7_put (by omega) (by omega) (by omega) ?_)
    refine r_gh (fun g1 eg1 => ?_)
    rw [show (5 * (i : Int) + 0).toNat = 5 * i + 0 by omega] at eg1
    have fg1 : FrS i h g1 := by rw [eg1]; exact FrS.up (fg0.tr (FrS.of f0_59)) (by decide)
    rw [fg0.b] at f1_59
    have pg1 : PS g1 n (nuS (h 3) n 0 999 (fpS (h 3) n (fiH h n s.1 F) s)) := by rw [eg1]; exact f1_59.up (by decide) (by decide) (by omega)
    have xg1 : g1 8 (5 * i + 0) = nuV (h 3) n 0 999 (fpS (h 3) n (fiH h n s.1 F) s) := by rw [eg1, up_s, fg0.b]
    refine r_aload_n dX3_readNumbers_65 rfl rfl ?_
    refine r_getR dX3_readNumbers_66 fl_X3_29 sh_14 rfl ?_
    refine r_iload_n dX3_readNumbers_69 rfl rfl ?_
    refine r_iconst dX3_readNumbers_70 ?_
    refine r_aload_n dX3_readNumbers_71 rfl rfl ?_
    refine r_iconst dX3_readNumbers_72 ?_
    refine r_sipush dX3_readNumbers_73 (by decide +kernel) ?_
    refine r_callVI (av := [_, _]) (M' := mX3_takeNumber) dX3_readNumbers_76 vX3_takeNumber ml_X3_103 sh_14 (by decide) rfl rfl rfl rfl (by simp [wtA]) (sp_X3_takeNumber (by omega) (fg1.tx hx) pg1 (by omega) (by omega) (fun h_76 f0_76 f1_76 => ?_))
    refine r_callVU (av := [_, _, _]) (M' := mX7_put) dX3_readNumbers_79 vX7_put ml_X3_107 sh_4 (by decide) rfl rfl rfl rfl (by simp [wtA]) (sp_X7_put (by omega) (by omega) (by omega) ?_)
    refine r_gh (fun g2 eg2 => ?_)
    rw [show (5 * (i : Int) + 1).toNat = 5 * i + 1 by omega] at eg2
    have fg2 : FrS i h g2 := by rw [eg2]; exact FrS.up (fg1.tr (FrS.of f0_76)) (by decide)
    rw [fg1.b] at f1_76
    have pg2 : PS g2 n (nuS (h 3) n 0 999 (nuS (h 3) n 0 999 (fpS (h 3) n (fiH h n s.1 F) s))) := by rw [eg2]; exact f1_76.up (by decide) (by decide) (by omega)
    have xg2 : g2 8 (5 * i + 1) = nuV (h 3) n 0 999 (nuS (h 3) n 0 999 (fpS (h 3) n (fiH h n s.1 F) s)) := by rw [eg2, up_s, fg1.b]
    have xg2_0 : g2 8 (5 * i + 0) = g1 8 (5 * i + 0) := by rw [eg2, up_nk (by omega), f0_76 8 _ (by omega) (by omega)]
    refine r_aload_n dX3_readNumbers_82 rfl rfl ?_
    refine r_getR dX3_readNumbers_83 fl_X3_29 sh_14 rfl ?_
    refine r_iload_n dX3_readNumbers_86 rfl rfl ?_
    refine r_iconst dX3_readNumbers_87 ?_
    refine r_aload_n dX3_readNumbers_88 rfl rfl ?_
    refine r_iconst dX3_readNumbers_89 ?_
    refine r_bipush dX3_readNumbers_90 (by decide +kernel) ?_
    refine r_callVI (av := [_, _]) (M' := mX3_takeNumber) dX3_readNumbers_92 vX3_takeNumber ml_X3_103 sh_14 (by decide) rfl rfl rfl rfl (by simp [wtA]) (sp_X3_takeNumber (by omega) (fg2.tx hx) pg2 (by omega) (by omega) (fun h_92 f0_92 f1_92 => ?_))
    refine r_callVU (av := [_, _, _]) (M' := mX7_put) dX3_readNumbers_95 vX7_put ml_X3_107 sh_4 (by decide) rfl rfl rfl rfl (by simp [wtA]) (sp_X7_put (by omega) (by omega) (by omega) ?_)
    refine r_goto (tgt := 263) dX3_readNumbers_98 rfl ?_
    refine r_vret dX3_readNumbers_263 rfl ?_
    rw [show (5 * (i : Int) + 2).toNat = 5 * i + 2 by omega]
    rw [fg2.b] at f1_92 ⊢
    refine ⟨rfl, k _ (FrS.up (fg2.tr (FrS.of f0_92)) (by decide)) (f1_92.up (by decide) (by decide) (by omega)) (fun z => ?_) ?_ ?_ (up_s _ _ _ _)⟩
    · rw [up_nc (by decide), f0_92 7 _ (by omega) (by omega), eg2, up_nc (by decide), f0_76 7 _ (by omega) (by omega), eg1, up_nc (by decide), f0_59 7 _ (by omega) (by omega)]
      exact og0 z
    · rw [up_nk (by omega), f0_92 8 _ (by omega) (by omega), xg2_0, xg1]
      all_goals rfl
    · rw [up_nk (by omega), f0_92 8 _ (by omega) (by omega), xg2]
      all_goals rfl
set_option maxRecDepth 20000 in
set_option maxHeartbeats 400000 in
theorem sp_X3_readAgain {d : Nat} (hd : 6 ≤ d) {h : Hp} {n i : Nat} {s : Sg} (hx : TX h n) (hp : PS h n s) (hi : i < 60) (ho : 0 ≤ h 14 4 ∧ h 14 4 ≤ 5) {P : Hp → Prop} (k0 : ∀ h' : Hp, (∀ a k, ¬ (a = 2 ∧ (k = 1 ∨ k = 2 ∨ k = 3 ∨ k = 4)) → ¬ (a = 14 ∧ (k = 2 ∨ k = 3)) → ¬ (a = 8 ∧ 5 * i ≤ k ∧ k < 5 * i + 5) → ¬ (a = 7 ∧ k = i) → ¬ (a = 14 ∧ k = 4) → ¬ (a = 15 ∧ k = (h 14 4).toNat) → h' a k = h a k) → (PS h' n (agS (h 3) n (h 14 4) s)) → (∀ q : Nat, q < 3 → h' 8 (5 * i + q) = arV (h 3) n s q) → ((agS (h 3) n (h 14 4) s).2.1 = 0) → (h' 15 (h 14 4).toNat = i) → (h' 14 4 = h 14 4 + 1) → (h 14 4 < 5) → P h') (k1 : ∀ h' : Hp, (FrS i h h') → (PS h' n (agS (h 3) n (h 14 4) s)) → (¬ (agS (h 3) n (h 14 4) s).2.1 = 0) → P h') : Cl d mX3_readAgain [.inr (.inr 14), .inl (i : Int)] h (pV P) := by
  refine Cl.of (L := [some (.inr (.inr 14)), some (.inl (i : Int))]) (by decide +kernel) (Nat.le_of_ble_eq_true rfl) rfl ?_
  obtain ⟨d, rfl⟩ : ∃ q, d = q + 1 := ⟨d - 1, by omega⟩
  refine r_aload_n dX3_readAgain_0 rfl rfl ?_
  refine r_getR dX3_readAgain_1 fl_X3_29 sh_14 rfl ?_
  refine r_iload_n dX3_readAgain_4 rfl rfl ?_
  refine r_iconst dX3_readAgain_5 ?_
  refine r_aload_n dX3_readAgain_6 rfl rfl ?_
  refine r_iconst dX3_readAgain_7 ?_
  refine r_bipush dX3_readAgain_8 (by decide +kernel) ?_
  refine r_callVI (av := [_, _]) (M' := mX3_takeNumber) dX3_readAgain_10 vX3_takeNumber ml_X3_103 sh_14 (by decide) rfl rfl rfl rfl (by simp [wtA]) (sp_X3_takeNumber (by omega) hx hp (by omega) (by omega) (fun h_10 f0_10 f1_10 => ?_))
  refine r_callVU (av := [_, _, _]) (M' := mX7_put) dX3_readAgain_13 vX7_put ml_X3_107 sh_4 (by decide) rfl rfl rfl rfl (by simp [wtA]) (sp_X7_put (by omega) (by omega) (by omega) ?_)
  refine r_gh (fun g1 eg1 => ?_)
  rw [show (5 * (i : Int) + 0).toNat = 5 * i + 0 by omega] at eg1
  have fg1 : FrS i h g1 := by rw [eg1]; exact FrS.up (FrS.of f0_10) (by decide)
  have pg1 : PS g1 n (nuS (h 3) n 0 99 s) := by rw [eg1]; exact f1_10.up (by decide) (by decide) (by omega)
  have xg1 : g1 8 (5 * i + 0) = nuV (h 3) n 0 99 s := by rw [eg1, up_s]
  refine r_aload_n dX3_readAgain_16 rfl rfl ?_
  refine r_getR dX3_readAgain_17 fl_X3_29 sh_14 rfl ?_
  refine r_iload_n dX3_readAgain_20 rfl rfl ?_
  refine r_iconst dX3_readAgain_21 ?_
  refine r_aload_n dX3_readAgain_22 rfl rfl ?_
  refine r_callVI (av := []) (M' := mX3_takeSigned) dX3_readAgain_23 vX3_takeSigned ml_X3_136 sh_14 (by decide) rfl rfl rfl rfl (by simp [wtA]) (sp_X3_takeSigned (by omega) (fg1.tx hx) pg1 (fun h_23 f0_23 f1_23 => ?_))
  refine r_callVU (av := [_, _, _]) (M' := mX7_put) dX3_readAgain_26 vX7_put ml_X3_107 sh_4 (by decide) rfl rfl rfl rfl (by simp [wtA]) (sp_X7_put (by omega) (by omega) (by omega) ?_)
  refine r_gh (fun g2 eg2 => ?_)
  rw [show (5 * (i : Int) + 1).toNat = 5 * i + 1 by omega] at eg2
  have fg2 : FrS i h g2 := by rw [eg2]; exact FrS.up (fg1.tr (FrS.of f0_23)) (by decide)
  rw [fg1.b] at f1_23
  have pg2 : PS g2 n (sdS (h 3) n (nuS (h 3) n 0 99 s)) := by rw [eg2]; exact f1_23.up (by decide) (by decide) (by omega)
  have xg2 : g2 8 (5 * i + 1) = sdV (h 3) n (nuS (h 3) n 0 99 s) := by rw [eg2, up_s, fg1.b]
  have xg2_0 : g2 8 (5 * i + 0) = g1 8 (5 * i + 0) := by rw [eg2, up_nk (by omega), f0_23 8 _ (by omega) (by omega)]
  refine r_aload_n dX3_readAgain_29 rfl rfl ?_
  refine r_getR dX3_readAgain_30 fl_X3_29 sh_14 rfl ?_
  refine r_iload_n dX3_readAgain_33 rfl rfl ?_
  refine r_iconst dX3_readAgain_34 ?_
  refine r_aload_n dX3_readAgain_35 rfl rfl ?_
  refine r_callVI (av := []) (M' := mX3_takeSigned) dX3_readAgain_36 vX3_takeSigned ml_X3_136 sh_14 (by decide) rfl rfl rfl rfl (by simp [wtA]) (sp_X3_takeSigned (by omega) (fg2.tx hx) pg2 (fun h_36 f0_36 f1_36 => ?_))
  refine r_callVU (av := [_, _, _]) (M' := mX7_put) dX3_readAgain_39 vX7_put ml_X3_107 sh_4 (by decide) rfl rfl rfl rfl (by simp [wtA]) (sp_X7_put (by omega) (by omega) (by omega) ?_)
  refine r_gh (fun g3 eg3 => ?_)
  rw [show (5 * (i : Int) + 2).toNat = 5 * i + 2 by omega] at eg3
  have fg3 : FrS i h g3 := by rw [eg3]; exact FrS.up (fg2.tr (FrS.of f0_36)) (by decide)
  rw [fg2.b] at f1_36
  have pg3 : PS g3 n (sdS (h 3) n (sdS (h 3) n (nuS (h 3) n 0 99 s))) := by rw [eg3]; exact f1_36.up (by decide) (by decide) (by omega)
  have xg3 : g3 8 (5 * i + 2) = sdV (h 3) n (sdS (h 3) n (nuS (h 3) n 0 99 s)) := by rw [eg3, up_s, fg2.b]
  have xg3_0 : g3 8 (5 * i + 0) = g2 8 (5 * i + 0) := by rw [eg3, up_nk (by omega), f0_36 8 _ (by omega) (by omega)]
  have xg3_1 : g3 8 (5 * i + 1) = g2 8 (5 * i + 1) := by rw [eg3, up_nk (by omega), f0_36 8 _ (by omega) (by omega)]
  have vg : ∀ q : Nat, q < 3 → g3 8 (5 * i + q) = arV (h 3) n s q := fun q hq => by
    match q, hq with
    | 0, _ => rw [xg3_0, xg2_0, xg1]; rfl
    | 1, _ => rw [xg3_1, xg2]; rfl
    | 2, _ => rw [xg3]; rfl
  have pr := pg3.r
  have tk := pg3.1.1
  rw [fg3.b] at tk
  have og := fg3 14 4 (by decide) (by decide) (by omega) (by omega)
  refine r_aload_n dX3_readAgain_42 rfl rfl ?_
  refine r_getR dX3_readAgain_43 fl_X3_25 sh_14 rfl ?_
  refine r_getI dX3_readAgain_46 fl_X3_46 sh_2 rfl ?_
  refine r_bipush dX3_readAgain_49 (by decide +kernel) ?_
  refine r_icmp_ne (tgt := 67) dX3_readAgain_51 rfl (by omega) ⟨by decide, by decide⟩ (fun c_51 => ?_) (fun c_51 => ?_)
  · have pz := pg3
    have fz := fg3
    have ez : aoS (h 3) n (h 14 4) (sdS (h 3) n (sdS (h 3) n (nuS (h 3) n 0 99 s))) = sdS (h 3) n (sdS (h 3) n (nuS (h 3) n 0 99 s)) := if_neg (by omega)
    rw [← ez] at pz
    have vz := vg
    refine r_aload_n dX3_readAgain_67 rfl rfl ?_
    refine r_bipush dX3_readAgain_68 (by decide +kernel) ?_
    refine r_callVU (av := [_]) (M' := mX3_takeSign) dX3_readAgain_70 vX3_takeSign ml_X3_76 sh_14 (by decide) rfl rfl rfl rfl (by simp [wtA]) (sp_X3_takeSign (by omega) (fz.tx hx) pz (by omega) (fun h_70 f0_70 f1_70 => ?_))
    rw [fz.b] at f1_70
    have fy := fz.tr (FrS.of f0_70)
    have o70 := fy 14 4 (by decide) (by decide) (by omega) (by omega)
    have r70 := f1_70.r
    have q70 := f1_70.2.1
    have vy : ∀ q : Nat, q < 3 → h_70 8 (5 * i + q) = arV (h 3) n s q := fun q hq => by rw [f0_70 8 _ (by omega) (by omega)]; exact vz q hq
    have hag : agS (h 3) n (h 14 4) s = siS (h 3) n 40 (aoS (h 3) n (h 14 4) (sdS (h 3) n (sdS (h 3) n (nuS (h 3) n 0 99 s)))) := rfl
    refine r_aload_n dX3_readAgain_73 rfl rfl ?_
    refine r_getI dX3_readAgain_74 fl_X3_9 sh_14 rfl ?_
    refine r_if_ne (tgt := 100) dX3_readAgain_77 rfl (by omega) (fun c_77 => ?_) (fun c_77 => ?_)
    · refine r_vret dX3_readAgain_100 rfl ?_
      refine ⟨rfl, k1 _ fy f1_70 (by rw [hag]; omega)⟩
    · have lt5 : h 14 4 < 5 := by
        rcases ilg (h 14 4) 5 with z | z
        · exact z
        · exfalso
          have s0 : (siS (h 3) n 40 (aoS (h 3) n (h 14 4) (sdS (h 3) n (sdS (h 3) n (nuS (h 3) n 0 99 s))))).2.1 = 0 := by omega
          unfold siS at s0
          by_cases y : (aoS (h 3) n (h 14 4) (sdS (h 3) n (sdS (h 3) n (nuS (h 3) n 0 99 s)))).2.1 = 0
          · rw [if_pos y] at s0
            by_cases x : tK (h 3) n (aoS (h 3) n (h 14 4) (sdS (h 3) n (sdS (h 3) n (nuS (h 3) n 0 99 s)))).1 = 40
            · unfold aoS at x y
              by_cases u : tK (h 3) n (sdS (h 3) n (sdS (h 3) n (nuS (h 3) n 0 99 s))).1 = 40
              · rw [if_pos ⟨u, z⟩] at y
                exact flS_n (by decide) y
              · rw [if_neg (fun t => u t.1)] at x
                exact u x
            · rw [if_neg x] at s0
              exact absurd (show (1 : Int) = 0 from s0) (by decide)
          · rw [if_neg y] at s0
            exact y s0
      refine r_aload_n dX3_readAgain_80 rfl rfl ?_
      refine r_getR dX3_readAgain_81 fl_X3_21 sh_14 rfl ?_
      refine r_aload_n dX3_readAgain_84 rfl rfl ?_
      refine r_getI dX3_readAgain_85 fl_X3_18 sh_14 rfl ?_
      refine r_iload_n dX3_readAgain_88 rfl rfl ?_
      refine r_iast dX3_readAgain_89 sh_15 (by decide) (by omega) ?_
      refine r_aload_n dX3_readAgain_90 rfl rfl ?_
      refine r_dup dX3_readAgain_91 (fun _ h => by cases h) ?_
      refine r_getI dX3_readAgain_92 fl_X3_18 sh_14 rfl ?_
      refine r_eqI (up_nc (by decide)) ?_
      refine r_iconst dX3_readAgain_95 ?_
      refine r_iadd dX3_readAgain_96 ?_
      refine r_putI dX3_readAgain_97 fl_X3_18 sh_14 rfl ?_
      refine r_vret dX3_readAgain_100 rfl ?_
      refine ⟨rfl, k0 _ (fun a q z1 z2 z3 z4 z5 z6 => ?_) ?_ ?_ (by rw [hag]; omega) ?_ ?_ lt5⟩
      · unfold upH
        rw [if_neg (by omega), if_neg (by omega)]
        exact fy a q z1 z2 z3 z4
      · exact (f1_70.up (by decide) (by decide) (by omega)).up (by decide) (by decide) (by decide)
      · intro q hq
        rw [up_nc (by decide), up_nc (by decide)]
        exact vy q hq
      · rw [up_nc (by decide), o70, up_s]
      · rw [up_s, o70]
  · refine r_aload_n dX3_readAgain_54 rfl rfl ?_
    refine r_getI dX3_readAgain_55 fl_X3_18 sh_14 rfl ?_
    refine r_iconst dX3_readAgain_58 ?_
    refine r_icmp_lt (tgt := 67) dX3_readAgain_59 rfl (by omega) ⟨by decide, by decide⟩ (fun c_59 => ?_) (fun c_59 => ?_)
    · have pz := pg3
      have fz := fg3
      have ez : aoS (h 3) n (h 14 4) (sdS (h 3) n (sdS (h 3) n (nuS (h 3) n 0 99 s))) = sdS (h 3) n (sdS (h 3) n (nuS (h 3) n 0 99 s)) := if_neg (by omega)
      rw [← ez] at pz
      have vz := vg
      refine r_aload_n dX3_readAgain_67 rfl rfl ?_
      refine r_bipush dX3_readAgain_68 (by decide +kernel) ?_
      refine r_callVU (av := [_]) (M' := mX3_takeSign) dX3_readAgain_70 vX3_takeSign ml_X3_76 sh_14 (by decide) rfl rfl rfl rfl (by simp [wtA]) (sp_X3_takeSign (by omega) (fz.tx hx) pz (by omega) (fun h_70 f0_70 f1_70 => ?_))
      rw [fz.b] at f1_70
      have fy := fz.tr (FrS.of f0_70)
      have o70 := fy 14 4 (by decide) (by decide) (by omega) (by omega)
      have r70 := f1_70.r
      have q70 := f1_70.2.1
      have vy : ∀ q : Nat, q < 3 → h_70 8 (5 * i + q) = arV (h 3) n s q := fun q hq => by rw [f0_70 8 _ (by omega) (by omega)]; exact vz q hq
      have hag : agS (h 3) n (h 14 4) s = siS (h 3) n 40 (aoS (h 3) n (h 14 4) (sdS (h 3) n (sdS (h 3) n (nuS (h 3) n 0 99 s)))) := rfl
      refine r_aload_n dX3_readAgain_73 rfl rfl ?_
      refine r_getI dX3_readAgain_74 fl_X3_9 sh_14 rfl ?_
      refine r_if_ne (tgt := 100) dX3_readAgain_77 rfl (by omega) (fun c_77 => ?_) (fun c_77 => ?_)
      · refine r_vret dX3_readAgain_100 rfl ?_
        refine ⟨rfl, k1 _ fy f1_70 (by rw [hag]; omega)⟩
      · have lt5 : h 14 4 < 5 := by
          rcases ilg (h 14 4) 5 with z | z
          · exact z
          · exfalso
            have s0 : (siS (h 3) n 40 (aoS (h 3) n (h 14 4) (sdS (h 3) n (sdS (h 3) n (nuS (h 3) n 0 99 s))))).2.1 = 0 := by omega
            unfold siS at s0
            by_cases y : (aoS (h 3) n (h 14 4) (sdS (h 3) n (sdS (h 3) n (nuS (h 3) n 0 99 s)))).2.1 = 0
            · rw [if_pos y] at s0
              by_cases x : tK (h 3) n (aoS (h 3) n (h 14 4) (sdS (h 3) n (sdS (h 3) n (nuS (h 3) n 0 99 s)))).1 = 40
              · unfold aoS at x y
                by_cases u : tK (h 3) n (sdS (h 3) n (sdS (h 3) n (nuS (h 3) n 0 99 s))).1 = 40
                · rw [if_pos ⟨u, z⟩] at y
                  exact flS_n (by decide) y
                · rw [if_neg (fun t => u t.1)] at x
                  exact u x
              · rw [if_neg x] at s0
                exact absurd (show (1 : Int) = 0 from s0) (by decide)
            · rw [if_neg y] at s0
              exact y s0
        refine r_aload_n dX3_readAgain_80 rfl rfl ?_
        refine r_getR dX3_readAgain_81 fl_X3_21 sh_14 rfl ?_
        refine r_aload_n dX3_readAgain_84 rfl rfl ?_
        refine r_getI dX3_readAgain_85 fl_X3_18 sh_14 rfl ?_
        refine r_iload_n dX3_readAgain_88 rfl rfl ?_
        refine r_iast dX3_readAgain_89 sh_15 (by decide) (by omega) ?_
        refine r_aload_n dX3_readAgain_90 rfl rfl ?_
        refine r_dup dX3_readAgain_91 (fun _ h => by cases h) ?_
        refine r_getI dX3_readAgain_92 fl_X3_18 sh_14 rfl ?_
        refine r_eqI (up_nc (by decide)) ?_
        refine r_iconst dX3_readAgain_95 ?_
        refine r_iadd dX3_readAgain_96 ?_
        refine r_putI dX3_readAgain_97 fl_X3_18 sh_14 rfl ?_
        refine r_vret dX3_readAgain_100 rfl ?_
        refine ⟨rfl, k0 _ (fun a q z1 z2 z3 z4 z5 z6 => ?_) ?_ ?_ (by rw [hag]; omega) ?_ ?_ lt5⟩
        · unfold upH
          rw [if_neg (by omega), if_neg (by omega)]
          exact fy a q z1 z2 z3 z4
        · exact (f1_70.up (by decide) (by decide) (by omega)).up (by decide) (by decide) (by decide)
        · intro q hq
          rw [up_nc (by decide), up_nc (by decide)]
          exact vy q hq
        · rw [up_nc (by decide), o70, up_s]
        · rw [up_s, o70]
    · refine r_aload_n dX3_readAgain_62 rfl rfl ?_
      refine r_iconst dX3_readAgain_63 ?_
      refine r_callVU (av := [_]) (M' := mX3_fail) dX3_readAgain_64 vX3_fail ml_X3_58 sh_14 (by decide) rfl rfl rfl rfl (by simp [wtA]) (sp_X3_fail (by omega) (fg3.tx hx) pg3 (by omega) (fun h_64 f0_64 f1_64 => ?_))
      rw [fg3.b] at f1_64
      have pz := f1_64
      have fz := fg3.tr (FrS.of f0_64)
      have ez : aoS (h 3) n (h 14 4) (sdS (h 3) n (sdS (h 3) n (nuS (h 3) n 0 99 s))) = flS (h 3) n 2 (sdS (h 3) n (sdS (h 3) n (nuS (h 3) n 0 99 s))) := if_pos (by omega)
      rw [← ez] at pz
      have vz : ∀ q : Nat, q < 3 → h_64 8 (5 * i + q) = arV (h 3) n s q := fun q hq => by rw [f0_64 8 _ (by omega) (by omega)]; exact vg q hq
      refine r_aload_n dX3_readAgain_67 rfl rfl ?_
      refine r_bipush dX3_readAgain_68 (by decide +kernel) ?_
      refine r_callVU (av := [_]) (M' := mX3_takeSign) dX3_readAgain_70 vX3_takeSign ml_X3_76 sh_14 (by decide) rfl rfl rfl rfl (by simp [wtA]) (sp_X3_takeSign (by omega) (fz.tx hx) pz (by omega) (fun h_70 f0_70 f1_70 => ?_))
      rw [fz.b] at f1_70
      have fy := fz.tr (FrS.of f0_70)
      have o70 := fy 14 4 (by decide) (by decide) (by omega) (by omega)
      have r70 := f1_70.r
      have q70 := f1_70.2.1
      have vy : ∀ q : Nat, q < 3 → h_70 8 (5 * i + q) = arV (h 3) n s q := fun q hq => by rw [f0_70 8 _ (by omega) (by omega)]; exact vz q hq
      have hag : agS (h 3) n (h 14 4) s = siS (h 3) n 40 (aoS (h 3) n (h 14 4) (sdS (h 3) n (sdS (h 3) n (nuS (h 3) n 0 99 s)))) := rfl
      refine r_aload_n dX3_readAgain_73 rfl rfl ?_
      refine r_getI dX3_readAgain_74 fl_X3_9 sh_14 rfl ?_
      refine r_if_ne (tgt := 100) dX3_readAgain_77 rfl (by omega) (fun c_77 => ?_) (fun c_77 => ?_)
      · refine r_vret dX3_readAgain_100 rfl ?_
        refine ⟨rfl, k1 _ fy f1_70 (by rw [hag]; omega)⟩
      · have lt5 : h 14 4 < 5 := by
          rcases ilg (h 14 4) 5 with z | z
          · exact z
          · exfalso
            have s0 : (siS (h 3) n 40 (aoS (h 3) n (h 14 4) (sdS (h 3) n (sdS (h 3) n (nuS (h 3) n 0 99 s))))).2.1 = 0 := by omega
            unfold siS at s0
            by_cases y : (aoS (h 3) n (h 14 4) (sdS (h 3) n (sdS (h 3) n (nuS (h 3) n 0 99 s)))).2.1 = 0
            · rw [if_pos y] at s0
              by_cases x : tK (h 3) n (aoS (h 3) n (h 14 4) (sdS (h 3) n (sdS (h 3) n (nuS (h 3) n 0 99 s)))).1 = 40
              · unfold aoS at x y
                by_cases u : tK (h 3) n (sdS (h 3) n (sdS (h 3) n (nuS (h 3) n 0 99 s))).1 = 40
                · rw [if_pos ⟨u, z⟩] at y
                  exact flS_n (by decide) y
                · rw [if_neg (fun t => u t.1)] at x
                  exact u x
              · rw [if_neg x] at s0
                exact absurd (show (1 : Int) = 0 from s0) (by decide)
            · rw [if_neg y] at s0
              exact y s0
        refine r_aload_n dX3_readAgain_80 rfl rfl ?_
        refine r_getR dX3_readAgain_81 fl_X3_21 sh_14 rfl ?_
        refine r_aload_n dX3_readAgain_84 rfl rfl ?_
        refine r_getI dX3_readAgain_85 fl_X3_18 sh_14 rfl ?_
        refine r_iload_n dX3_readAgain_88 rfl rfl ?_
        refine r_iast dX3_readAgain_89 sh_15 (by decide) (by omega) ?_
        refine r_aload_n dX3_readAgain_90 rfl rfl ?_
        refine r_dup dX3_readAgain_91 (fun _ h => by cases h) ?_
        refine r_getI dX3_readAgain_92 fl_X3_18 sh_14 rfl ?_
        refine r_eqI (up_nc (by decide)) ?_
        refine r_iconst dX3_readAgain_95 ?_
        refine r_iadd dX3_readAgain_96 ?_
        refine r_putI dX3_readAgain_97 fl_X3_18 sh_14 rfl ?_
        refine r_vret dX3_readAgain_100 rfl ?_
        refine ⟨rfl, k0 _ (fun a q z1 z2 z3 z4 z5 z6 => ?_) ?_ ?_ (by rw [hag]; omega) ?_ ?_ lt5⟩
        · unfold upH
          rw [if_neg (by omega), if_neg (by omega)]
          exact fy a q z1 z2 z3 z4
        · exact (f1_70.up (by decide) (by decide) (by omega)).up (by decide) (by decide) (by decide)
        · intro q hq
          rw [up_nc (by decide), up_nc (by decide)]
          exact vy q hq
        · rw [up_nc (by decide), o70, up_s]
        · rw [up_s, o70]
