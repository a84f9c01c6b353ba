/-! A STATEMENT OF THE CLASS -/
noncomputable def vbF (b : Nat → Int) (n p : Nat) : Int := if tK b n p = 1 then kwI b (tS b n p) (tE b n p) else -1
def tE3 (b : Nat → Int) (n : Nat) (s : Sg) : Sg := (tE b n s.1, s.2.1, s.2.2)
/-- the state behind a statement of verb v whose first token behind the verb is at hand in t -/
noncomputable def stS (b : Nat → Int) (n : Nat) (fi op v : Int) (t : Sg) : Sg := if v = 0 then siS b n 59 (foS b n fi t) else if v = 1 then siS b n 59 (puS b n fi t) else if v = 2 then siS b n 59 (nkS b n t 4) else if v = 3 then siS b n 59 (nkS b n t 2) else if v = 4 then siS b n 59 (nuS b n 1 99 (nkS b n t 4)) else if v = 5 then siS b n 59 (clS b n t 4) else agS b n op t
abbrev FrB (h g : Hp) : Prop := ∀ a k, (a = 0 ∨ a = 1 ∨ a = 3 ∨ 16 ≤ a ∨ (a = 2 ∧ (k = 0 ∨ k = 5))) → g a k = h a k
abbrev GdA (h g : Hp) (i : Nat) (v : Int) : Prop := g 4 0 = h 4 0 + 1 ∧ (∀ k : Nat, k ≠ i → g 5 k = h 5 k ∧ g 6 k = h 6 k ∧ g 7 k = h 7 k) ∧ (∀ k : Nat, k < 5 * i ∨ 5 * i + 5 ≤ k → g 8 k = h 8 k) ∧ g 5 i = v ∧ g 6 i = i
abbrev GdF (h g : Hp) : Prop := g 4 1 = h 4 1 ∧ ∀ a k : Nat, 9 ≤ a → a ≤ 13 → g a k = h a k
abbrev GdO (h g : Hp) : Prop := g 14 4 = h 14 4 ∧ ∀ k : Nat, g 15 k = h 15 k
abbrev Gd0 (h g : Hp) (n F : Nat) (t : Sg) : Prop := (g 4 1 = F + 1 ∧ g 9 F = tS (h 3) n t.1 ∧ g 10 F = tE (h 3) n t.1) ∧ FoK h g n F (ffS (h 3) n (fiH h n t.1 F) t) 12 ∧ (∀ k : Nat, k ≠ F → g 9 k = h 9 k ∧ g 10 k = h 10 k ∧ g 11 k = h 11 k) ∧ ∀ k : Nat, k < 12 * F ∨ 12 * F + 12 ≤ k → g 12 k = h 12 k ∧ g 13 k = h 13 k
abbrev GdV (h g : Hp) (n F i : Nat) (v : Int) (t : Sg) : Prop :=
  (v = 1 → g 7 i = fiH h n t.1 F ∧ g 8 (5 * i) = nuV (h 3) n 0 999 (fpS (h 3) n (fiH h n t.1 F) t) ∧ g 8 (5 * i + 1) = nuV (h 3) n 0 999 (nkS (h 3) n (fpS (h 3) n (fiH h n t.1 F) t) 1) ∧ g 8 (5 * i + 2) = nuV (h 3) n 0 99 (nkS (h 3) n (fpS (h 3) n (fiH h n t.1 F) t) 2)) ∧
  (v = 2 → ∀ q : Nat, q < 4 → g 8 (5 * i + q) = nuV (h 3) n 0 999 (nkS (h 3) n t q)) ∧ (v = 3 → ∀ q : Nat, q < 2 → g 8 (5 * i + q) = nuV (h 3) n 0 999 (nkS (h 3) n t q)) ∧
  (v = 4 → (∀ q : Nat, q < 4 → g 8 (5 * i + q) = nuV (h 3) n 0 999 (nkS (h 3) n t q)) ∧ g 8 (5 * i + 4) = nuV (h 3) n 1 99 (nkS (h 3) n t 4)) ∧
  (v = 5 → ∀ q : Nat, q < 4 → g 8 (5 * i + q) = clV (h 3) n t q) ∧
  (v = 6 → (∀ q : Nat, q < 3 → g 8 (5 * i + q) = arV (h 3) n t q) ∧ g 15 (h 14 4).toNat = i ∧ g 14 4 = h 14 4 + 1 ∧ ∀ k : Nat, k ≠ (h 14 4).toNat → g 15 k = h 15 k)
abbrev StG (h g : Hp) (n F i : Nat) (v : Int) (t : Sg) : Prop := GdA h g i v ∧ (v = 0 → Gd0 h g n F t) ∧ (v ≠ 0 → GdF h g) ∧ (v ≠ 6 → GdO h g) ∧ GdV h g n F i v t
/-- what a statement of the class does, from the state s on -/
def StC (h g : Hp) (n F i : Nat) (s : Sg) : Prop := FrB h g ∧ (0 ≤ g 14 4 ∧ g 14 4 ≤ 5) ∧ ((vbF (h 3) n s.1 < 0 ∧ PS g n (flS (h 3) n 1 s)) ∨ (0 ≤ vbF (h 3) n s.1 ∧ (60 ≤ i ∨ (vbF (h 3) n s.1 = 0 ∧ 8 ≤ F)) ∧ PS g n (flS (h 3) n 2 s)) ∨ (0 ≤ vbF (h 3) n s.1 ∧ ¬ (60 ≤ i ∨ (vbF (h 3) n s.1 = 0 ∧ 8 ≤ F)) ∧ PS g n (stS (h 3) n (fiH h n (tE (h 3) n s.1) F) (h 14 4) (vbF (h 3) n s.1) (tE3 (h 3) n s)) ∧ ((stS (h 3) n (fiH h n (tE (h 3) n s.1) F) (h 14 4) (vbF (h 3) n s.1) (tE3 (h 3) n s)).2.1 = 0 → StG h g n F i (vbF (h 3) n s.1) (tE3 (h 3) n s))))
theorem fiH_cg {h g : Hp} {n p F : Nat} (e3 : g 3 = h 3) (e9 : ∀ k : Nat, g 9 k = h 9 k) (e10 : ∀ k : Nat, g 10 k = h 10 k) : fiH g n p F = fiH h n p F := by
  unfold fiH
  have : nmF g = nmF h := by
    funext k
    unfold nmF
    rw [e3, e9, e10]
  rw [this, e3]
theorem NF_cg {h g : Hp} {F : Nat} (e3 : g 3 = h 3) (e4 : g 4 1 = h 4 1) (e9 : ∀ k : Nat, g 9 k = h 9 k) (e10 : ∀ k : Nat, g 10 k = h 10 k) (t : NF h F) : NF g F := ⟨e4.trans t.1, t.2.1, fun k hk => by rw [e3, e9, e10]; exact t.2.2 k hk⟩
theorem siS_0 {b : Nat → Int} {n : Nat} {c : Int} {s : Sg} (h : (siS b n c s).2.1 = 0) : s.2.1 = 0 := by
  by_cases z : s.2.1 = 0
  · exact z
  · rw [siS_f z] at h
    exact h
theorem nuS_0 {b : Nat → Int} {n : Nat} {lo hi : Int} {s : Sg} (h : (nuS b n lo hi s).2.1 = 0) : s.2.1 = 0 := by
  by_cases z : s.2.1 = 0
  · exact z
  · rw [nuS_f z] at h
    exact h
theorem nkS_0 {b : Nat → Int} {n : Nat} {s : Sg} {j : Nat} (h : (nkS b n s j).2.1 = 0) : s.2.1 = 0 := by
  by_cases z : s.2.1 = 0
  · exact z
  · rw [nkS_f z] at h
    exact h
theorem FrF.b {F : Nat} {h g : Hp} (f : FrF F h g) : g 3 = h 3 := funext fun j => f 3 j (by omega) (by omega) (by omega) (by omega) (by omega)
theorem FrF.tx {F n : Nat} {h g : Hp} (f : FrF F h g) (t : TX h n) : TX g n := ⟨(f 2 5 (by decide) (by decide) (by decide) (by omega) (by omega)).trans t.1, t.2.1, by rw [f.b]; exact t.2.2⟩
set_option maxRecDepth 20000 in
set_option maxHeartbeats 400000 in
theorem sp_rnForm {d : Nat} (hd : 8 ≤ d) {h : Hp} {n i F : Nat} {s : Sg} (hx : TX h n) (hp : PS h n s) (hF : NF h F) (hF2 : F < 8) {P : Hp → Prop} (bad : ∀ h' : Hp, FrP h h' → PS h' n (ffS (h 3) n (fiH h n s.1 F) s) → ¬ (ffS (h 3) n (fiH h n s.1 F) s).2.1 = 0 → P h') (good : ∀ h' : Hp, PS h' n (foS (h 3) n (fiH h n s.1 F) s) → FrF F h h' → (h' 4 1 = F + 1 ∧ h' 9 F = tS (h 3) n s.1 ∧ h' 10 F = tE (h 3) n s.1) → FoK h h' n F (ffS (h 3) n (fiH h n s.1 F) s) 12 → P h') : Cl d mX3_readNumbers [.inr (.inr 14), .inl (i : Int), .inl 0] h (pV P) := by
  refine Cl.of (L := [some (.inr (.inr 14)), some (.inl (i : Int)), some (.inl 0), none, none]) (by decide +kernel) (Nat.le_of_ble_eq_true rfl) rfl ?_
  obtain ⟨d, rfl⟩ : ∃ q, d = q + 1 := ⟨d - 1, by omega⟩
  refine r_iload_n dX3_readNumbers_0 rfl rfl ?_
  refine r_lookup (off := 35) (tgt := 36) dX3_readNumbers_1 (by decide +kernel) ⟨by decide, by decide⟩ (by decide +kernel) rfl ?_
  refine r_aload_n dX3_readNumbers_36 rfl rfl ?_
  refine r_callVU (av := []) (M' := mX3_readForm) dX3_readNumbers_37 vX3_readForm ml_X3_97 sh_14 (by decide) rfl rfl rfl rfl (by simp [wtA]) (sp_X3_readForm (by omega) hx hp hF hF2 (fun g y0 y1 y2 => ?_) (fun g y0 y1 y2 y3 => ?_))
  · refine r_goto (tgt := 263) dX3_readNumbers_40 rfl ?_
    refine r_vret dX3_readNumbers_263 rfl ?_
    first
      | exact ⟨rfl, bad g y0 y1 y2⟩
      | exact ⟨rfl, good g y0 y1 y2 y3⟩
  · refine r_goto (tgt := 263) dX3_readNumbers_40 rfl ?_
    refine r_vret dX3_readNumbers_263 rfl ?_
    first
      | exact ⟨rfl, bad g y0 y1 y2⟩
      | exact ⟨rfl, good g y0 y1 y2 y3⟩
set_option maxRecDepth 20000 in
set_option maxHeartbeats 400000 in
set_option maxHeartbeats 4000000 in
theorem sp_X3_readStatement {d : Nat} (hd : 9 ≤ d) {h : Hp} {n F i : Nat} {s : Sg} (hx : TX h n) (hp : PS h n s) (hF : NF h F) (hi : h 4 0 = i ∧ i ≤ 60) (ho : 0 ≤ h 14 4 ∧ h 14 4 ≤ 5) {P : Hp → Prop} (k : ∀ h' : Hp, (StC h h' n F i s) → P h') : Cl d mX3_readStatement [.inr (.inr 14)] h (pV P) := by
  refine Cl.of (L := [some (.inr (.inr 14)), none, none, none]) (by decide +kernel) (Nat.le_of_ble_eq_true rfl) rfl ?_
  obtain ⟨d, rfl⟩ : ∃ q, d = q + 1 := ⟨d - 1, by omega⟩
  have pr := hp.r
  have tk := hp.1.1
  have e2 : (h 2 2).toNat = tS (h 3) n s.1 := by have := hp.1.2.1; omega
  have e3 : (h 2 3).toNat = tE (h 3) n s.1 := by have := hp.1.2.2.1; omega
  have nn := hx.2.1
  have hF1 := hF.1
  refine r_aload_n dX3_readStatement_0 rfl rfl ?_
  refine r_callVI (av := []) (M' := mX3_verbAtHand) dX3_readStatement_1 vX3_verbAtHand ml_X3_61 sh_14 (by decide) rfl rfl rfl rfl (by simp [wtA]) (sp_X3_verbAtHand (by omega) (by omega) (by omega) hx.2.2 ?_)
  refine r_nmI (fun x1 e_x1 => ?_)
  refine r_istore_n (L' := [_, _, _, _]) dX3_readStatement_4 rfl rfl (by decide) rfl ?_
  have vr : -1 ≤ x1 ∧ x1 ≤ 6 := by
    rw [e_x1]
    split
    · exact kwI_r _ _ _
    · decide
  have vb : x1 = vbF (h 3) n s.1 := by
    rw [e_x1]
    unfold vbF
    rw [tk, e2, e3]
  rcases (show x1 = -1 ∨ x1 = 0 ∨ x1 = 1 ∨ x1 = 2 ∨ x1 = 3 ∨ x1 = 4 ∨ x1 = 5 ∨ x1 = 6 by omega) with e | e | e | e | e | e | e | e
  · subst e
    refine r_iload_n dX3_readStatement_5 rfl rfl ?_
    refine r_iconst dX3_readStatement_6 ?_
    refine r_icmp_ne (tgt := 16) dX3_readStatement_7 rfl ⟨by decide, by decide⟩ ⟨by decide, by decide⟩ (fun c_7 => absurd c_7 (by decide)) (fun c_7 => ?_)
    refine r_aload_n dX3_readStatement_10 rfl rfl ?_
    refine r_iconst dX3_readStatement_11 ?_
    refine r_callVU (av := [_]) (M' := mX3_fail) dX3_readStatement_12 vX3_fail ml_X3_58 sh_14 (by decide) rfl rfl rfl rfl (by simp [wtA]) (sp_X3_fail (by omega) hx hp (by omega) (fun h_12 f0_12 f1_12 => ?_))
    refine r_vret dX3_readStatement_15 rfl ?_
    exact ⟨rfl, k _ ⟨fun a q z => f0_12 a q (by omega) (by omega), by rw [f0_12 14 4 (by decide) (by decide)]; exact ho, Or.inl ⟨by omega, f1_12⟩⟩⟩
  · subst e
    refine r_iload_n dX3_readStatement_5 rfl rfl ?_
    refine r_iconst dX3_readStatement_6 ?_
    refine r_icmp_ne (tgt := 16) dX3_readStatement_7 rfl ⟨by decide, by decide⟩ ⟨by decide, by decide⟩ (fun c_7 => ?_) (fun c_7 => absurd c_7 (by decide))
    refine r_iload_n dX3_readStatement_16 rfl rfl ?_
    refine r_if_ne (tgt := 36) dX3_readStatement_17 rfl ⟨by decide, by decide⟩ (fun c_17 => absurd c_17 (by decide)) (fun c_17 => ?_)
    refine r_aload_n dX3_readStatement_20 rfl rfl ?_
    refine r_getR dX3_readStatement_21 fl_X3_29 sh_14 rfl ?_
    refine r_getI dX3_readStatement_24 fl_X3_38 sh_4 rfl ?_
    refine r_bipush dX3_readStatement_27 (by decide +kernel) ?_
    refine r_icmp_lt (tgt := 36) dX3_readStatement_29 rfl (by omega) ⟨by decide, by decide⟩ (fun c_29 => ?_) (fun c_29 => ?_)
    · refine r_iconst dX3_readStatement_36 ?_
      refine r_istore_n (L' := [_, _, _, _]) dX3_readStatement_37 rfl rfl (by decide) rfl ?_
      refine r_aload_n dX3_readStatement_38 rfl rfl ?_
      refine r_getR dX3_readStatement_39 fl_X3_29 sh_14 rfl ?_
      refine r_getI dX3_readStatement_42 fl_X3_33 sh_4 rfl ?_
      refine r_bipush dX3_readStatement_45 (by decide +kernel) ?_
      refine r_icmp_ge (tgt := 54) dX3_readStatement_47 rfl (by omega) ⟨by decide, by decide⟩ (fun c_47 => ?_) (fun c_47 => ?_)
      · refine r_aload_n dX3_readStatement_54 rfl rfl ?_
        refine r_iconst dX3_readStatement_55 ?_
        refine r_callVU (av := [_]) (M' := mX3_fail) dX3_readStatement_56 vX3_fail ml_X3_58 sh_14 (by decide) rfl rfl rfl rfl (by simp [wtA]) (sp_X3_fail (by omega) hx hp (by omega) (fun h_56 f0_56 f1_56 => ?_))
        refine r_vret dX3_readStatement_59 rfl ?_
        refine ⟨rfl, k _ ⟨fun a q z => f0_56 a q (by omega) (by omega), by rw [f0_56 14 4 (by decide) (by decide)]; exact ho, Or.inr (Or.inl ⟨by omega, ?_, f1_56⟩)⟩⟩
        first
          | exact Or.inl (by omega)
          | exact Or.inr ⟨by omega, by omega⟩
      · refine r_iload_n dX3_readStatement_50 rfl rfl ?_
        refine r_if_eq (tgt := 60) dX3_readStatement_51 rfl ⟨by decide, by decide⟩ (fun c_51 => ?_) (fun c_51 => absurd c_51 (by decide))
        refine r_aload_n dX3_readStatement_60 rfl rfl ?_
        refine r_getR dX3_readStatement_61 fl_X3_25 sh_14 rfl ?_
        refine r_callVU (av := []) (M' := mX8_step) dX3_readStatement_64 vX8_step ml_X3_52 sh_2 (by decide) rfl rfl rfl rfl (by simp [wtA]) (sp_X8_step (n := n) (p := tE (h 3) n s.1) (by omega) ⟨hx.1, hx.2.1⟩ ⟨hp.1.2.2.1, (tE_r hp.2.2.2.1).2.1⟩ hx.2.2 (fun h_64 f0_64 f1_64 => ?_))
        have nb : ¬ (60 ≤ i ∨ (vbF (h 3) n s.1 = 0 ∧ 8 ≤ F)) := by omega
        have st := hp.step f0_64 f1_64
        have s4 := st.2 4 0 (by decide) (by decide)
        have eI : (h_64 4 0).toNat = i := by omega
        refine r_aload_n dX3_readStatement_67 rfl rfl ?_
        refine r_getR dX3_readStatement_68 fl_X3_29 sh_14 rfl ?_
        refine r_iload_n dX3_readStatement_71 rfl rfl ?_
        refine r_callVI (av := [_]) (M' := mX7_add) dX3_readStatement_72 vX7_add ml_X3_65 sh_4 (by decide) rfl rfl rfl rfl (by simp [wtA]) (sp_X7_add (by omega) (by omega) ?_)
        rw [eI, show h_64 4 0 = (i : Int) by omega]
        refine r_gh (fun g eg => ?_)
        have gp : PS g n (tE3 (h 3) n s) := by
          rw [eg]
          exact (((st.1.up (by decide) (by decide) (by omega)).up (by decide) (by decide) (by omega)).up (by decide) (by decide) (by omega)).up (by decide) (by decide) (by decide)
        have gx : TX g n := by rw [eg]; exact ((((st.2.tx hx).up (by decide) (by decide)).up (by decide) (by decide)).up (by decide) (by decide)).up (by decide) (by decide)
        have gs : g 4 0 = h 4 0 + 1 := by rw [eg, up_s]; omega
        have g5 : g 5 i = 0 := by rw [eg, up_nc (by decide), up_nc (by decide), up_nc (by decide), up_s]
        have g6 : g 6 i = i := by rw [eg, up_nc (by decide), up_nc (by decide), up_s]
        have gf : ∀ a k, ¬ (a = 2 ∧ (k = 1 ∨ k = 2 ∨ k = 3 ∨ k = 4)) → ¬ (a = 14 ∧ (k = 2 ∨ k = 3)) → ¬ (a = 4 ∧ k = 0) → ¬ ((a = 5 ∨ a = 6 ∨ a = 7) ∧ k = i) → g a k = h a k := fun a q z1 z2 z3 z4 => by
          rw [eg]
          unfold upH
          rw [if_neg (by omega), if_neg (by omega), if_neg (by omega), if_neg (by omega)]
          exact st.2 a q z1 z2
        have g3 : g 3 = h 3 := funext fun j => gf 3 j (by omega) (by omega) (by omega) (by omega)
        have gi : fiH g n (tE3 (h 3) n s).1 F = fiH h n (tE (h 3) n s.1) F := fiH_cg g3 (fun q => gf 9 q (by omega) (by omega) (by omega) (by omega)) (fun q => gf 10 q (by omega) (by omega) (by omega) (by omega))
        have gF : NF g F := NF_cg g3 (gf 4 1 (by decide) (by decide) (by decide) (by omega)) (fun q => gf 9 q (by omega) (by omega) (by omega) (by omega)) (fun q => gf 10 q (by omega) (by omega) (by omega) (by omega)) hF
        have go := gf 14 4 (by decide) (by decide) (by decide) (by omega)
        clear eg
        refine r_istore_n (L' := [_, _, _, _]) dX3_readStatement_75 rfl rfl (by decide) rfl ?_
        refine r_iload_n dX3_readStatement_76 rfl rfl ?_
        refine r_bipush dX3_readStatement_77 (by decide +kernel) ?_
        refine r_icmp_ne (tgt := 90) dX3_readStatement_79 rfl ⟨by decide, by decide⟩ ⟨by decide, by decide⟩ (fun c_79 => ?_) (fun c_79 => absurd c_79 (by decide))
        refine r_aload_n dX3_readStatement_90 rfl rfl ?_
        refine r_iload_n dX3_readStatement_91 rfl rfl ?_
        refine r_iload_n dX3_readStatement_92 rfl rfl ?_
        refine r_callVU (av := [_, _]) (M' := mX3_readNumbers) dX3_readStatement_93 vX3_readNumbers ml_X3_72 sh_14 (by decide) rfl rfl rfl rfl (by simp [wtA]) (sp_rnForm (n := n) (i := i) (F := F) (s := tE3 (h 3) n s) (by omega) gx gp gF (by omega) (fun h_93 f0_93 f1_93 f2_93 => ?_) (fun h_93 f1_93 f0_93 f2_93 f3_93 => ?_))
        · refine r_aload_n dX3_readStatement_96 rfl rfl ?_
          refine r_bipush dX3_readStatement_97 (by decide +kernel) ?_
          refine r_callVU (av := [_]) (M' := mX3_takeSign) dX3_readStatement_99 vX3_takeSign ml_X3_76 sh_14 (by decide) rfl rfl rfl rfl (by simp [wtA]) (sp_X3_takeSign (by omega) (by first | exact f0_93.tx gx | exact f0_93.tx gx) f1_93 (by omega) (fun h_99 f0_99 f1_99 => ?_))
          refine r_vret dX3_readStatement_102 rfl ?_
          rw [g3, gi] at f1_93 f2_93
          rw [f0_93.b, g3, gi, siS_f f2_93] at f1_99
          have fu : FrP g h_99 := f0_93.tr f0_99
          have eo : foS (h 3) n (fiH h n (tE (h 3) n s.1) F) (tE3 (h 3) n s) = ffS (h 3) n (fiH h n (tE (h 3) n s.1) F) (tE3 (h 3) n s) := by
            unfold foS
            rw [sq_f f2_93, flS_f f2_93]
            split <;> rfl
          have es : stS (h 3) n (fiH h n (tE (h 3) n s.1) F) (h 14 4) 0 (tE3 (h 3) n s) = ffS (h 3) n (fiH h n (tE (h 3) n s.1) F) (tE3 (h 3) n s) := by
            show siS (h 3) n 59 (foS _ _ _ _) = _
            rw [eo, siS_f f2_93]
          refine ⟨rfl, k _ ⟨fun a q z => ?_, by rw [fu 14 4 (by decide) (by decide), go]; exact ho, Or.inr (Or.inr ⟨by omega, nb, ?_, fun z => ?_⟩)⟩⟩
          · rw [fu a q (by omega) (by omega)]
            exact gf a q (by omega) (by omega) (by omega) (by omega)
          · rw [← vb, es]; exact f1_99
          · rw [← vb, es] at z
            exact absurd z f2_93
        · refine r_aload_n dX3_readStatement_96 rfl rfl ?_
          refine r_bipush dX3_readStatement_97 (by decide +kernel) ?_
          refine r_callVU (av := [_]) (M' := mX3_takeSign) dX3_readStatement_99 vX3_takeSign ml_X3_76 sh_14 (by decide) rfl rfl rfl rfl (by simp [wtA]) (sp_X3_takeSign (by omega) (by first | exact f0_93.tx gx | exact f0_93.tx gx) f1_93 (by omega) (fun h_99 f0_99 f1_99 => ?_))
          refine r_vret dX3_readStatement_102 rfl ?_
          have b93 : h_93 3 = h 3 := (f0_93.b).trans g3
          rw [g3, gi] at f1_93
          rw [b93, g3, gi] at f1_99
          have fo : FoK h h_93 n F (ffS (h 3) n (fiH h n (tE3 (h 3) n s).1 F) (tE3 (h 3) n s)) 12 := by
            have := f3_93
            unfold FoK at this ⊢
            rw [g3, gi] at this
            exact this
          have nm := f2_93
          rw [g3] at nm
          refine ⟨rfl, k _ ⟨fun a q z => ?_, by rw [f0_99 14 4 (by decide) (by decide), f0_93 14 4 (by decide) (by decide) (by decide) (by omega) (by omega), go]; exact ho, Or.inr (Or.inr ⟨by omega, nb, ?_, fun z => ?_⟩)⟩⟩
          · rw [f0_99 a q (by omega) (by omega), f0_93 a q (by omega) (by omega) (by omega) (by omega) (by omega)]
            exact gf a q (by omega) (by omega) (by omega) (by omega)
          · rw [← vb]; exact f1_99
          · rw [← vb]
            have fu : ∀ a q, ¬ (a = 2 ∧ (q = 1 ∨ q = 2 ∨ q = 3 ∨ q = 4)) → ¬ (a = 14 ∧ (q = 2 ∨ q = 3)) → ¬ (a = 4 ∧ q = 1) → ¬ ((a = 9 ∨ a = 10 ∨ a = 11) ∧ q = F) → ¬ ((a = 12 ∨ a = 13) ∧ 12 * F ≤ q ∧ q < 12 * F + 12) → h_99 a q = g a q := fun a q z1 z2 z3 z4 z5 => (f0_99 a q z1 z2).trans (f0_93 a q z1 z2 z3 z4 z5)
            have fw : ∀ a q, ¬ (a = 2 ∧ (q = 1 ∨ q = 2 ∨ q = 3 ∨ q = 4)) → ¬ (a = 14 ∧ (q = 2 ∨ q = 3)) → ¬ (a = 4 ∧ (q = 0 ∨ q = 1)) → ¬ ((a = 9 ∨ a = 10 ∨ a = 11) ∧ q = F) → ¬ ((a = 12 ∨ a = 13) ∧ 12 * F ≤ q ∧ q < 12 * F + 12) → ¬ ((a = 5 ∨ a = 6 ∨ a = 7) ∧ q = i) → h_99 a q = h a q := fun a q z1 z2 z3 z4 z5 z6 => (fu a q z1 z2 (by omega) z4 z5).trans (gf a q z1 z2 (by omega) z6)
            refine ⟨⟨?_, fun q hq => ⟨?_, ?_, ?_⟩, fun q hq => ?_, ?_, ?_⟩, fun _ => ⟨⟨?_, ?_, ?_⟩, ⟨?_, fun q hq => ⟨?_, ?_⟩⟩, fun q hq => ⟨?_, ?_, ?_⟩, fun q hq => ⟨?_, ?_⟩⟩, fun y => absurd rfl y, fun _ => ⟨?_, fun q => ?_⟩, fun y => absurd y (by decide), fun y => absurd y (by decide), fun y => absurd y (by decide), fun y => absurd y (by decide), fun y => absurd y (by decide), fun y => absurd y (by decide)⟩
            · rw [fu 4 0 (by decide) (by decide) (by decide) (by omega) (by omega)]; exact gs
            · exact fw 5 q (by omega) (by omega) (by omega) (by omega) (by omega) (by omega)
            · exact fw 6 q (by omega) (by omega) (by omega) (by omega) (by omega) (by omega)
            · exact fw 7 q (by omega) (by omega) (by omega) (by omega) (by omega) (by omega)
            · exact fw 8 q (by omega) (by omega) (by omega) (by omega) (by omega) (by omega)
            · rw [fu 5 i (by omega) (by omega) (by omega) (by omega) (by omega)]; exact g5
            · rw [fu 6 i (by omega) (by omega) (by omega) (by omega) (by omega)]; exact g6
            · rw [f0_99 4 1 (by decide) (by decide)]; exact nm.1
            · rw [f0_99 9 F (by omega) (by omega)]; exact nm.2.1
            · rw [f0_99 10 F (by omega) (by omega)]; exact nm.2.2
            · rw [f0_99 11 F (by omega) (by omega)]; exact fo.1
            · rw [f0_99 12 _ (by omega) (by omega)]; exact (fo.2 q hq).1
            · rw [f0_99 13 _ (by omega) (by omega)]; exact (fo.2 q hq).2
            · exact fw 9 q (by omega) (by omega) (by omega) (by omega) (by omega) (by omega)
            · exact fw 10 q (by omega) (by omega) (by omega) (by omega) (by omega) (by omega)
            · exact fw 11 q (by omega) (by omega) (by omega) (by omega) (by omega) (by omega)
            · exact fw 12 q (by omega) (by omega) (by omega) (by omega) (by omega) (by omega)
            · exact fw 13 q (by omega) (by omega) (by omega) (by omega) (by omega) (by omega)
            · exact fw 14 4 (by decide) (by decide) (by decide) (by omega) (by omega) (by omega)
            · exact fw 15 q (by omega) (by omega) (by omega) (by omega) (by omega) (by omega)
    · refine r_iconst dX3_readStatement_32 ?_
      refine r_goto (tgt := 37) dX3_readStatement_33 rfl ?_
      refine r_istore_n (L' := [_, _, _, _]) dX3_readStatement_37 rfl rfl (by decide) rfl ?_
      refine r_aload_n dX3_readStatement_38 rfl rfl ?_
      refine r_getR dX3_readStatement_39 fl_X3_29 sh_14 rfl ?_
      refine r_getI dX3_readStatement_42 fl_X3_33 sh_4 rfl ?_
      refine r_bipush dX3_readStatement_45 (by decide +kernel) ?_
      refine r_icmp_ge (tgt := 54) dX3_readStatement_47 rfl (by omega) ⟨by decide, by decide⟩ (fun c_47 => ?_) (fun c_47 => ?_)
      · refine r_aload_n dX3_readStatement_54 rfl rfl ?_
        refine r_iconst dX3_readStatement_55 ?_
        refine r_callVU (av := [_]) (M' := mX3_fail) dX3_readStatement_56 vX3_fail ml_X3_58 sh_14 (by decide) rfl rfl rfl rfl (by simp [wtA]) (sp_X3_fail (by omega) hx hp (by omega) (fun h_56 f0_56 f1_56 => ?_))
        refine r_vret dX3_readStatement_59 rfl ?_
        refine ⟨rfl, k _ ⟨fun a q z => f0_56 a q (by omega) (by omega), by rw [f0_56 14 4 (by decide) (by decide)]; exact ho, Or.inr (Or.inl ⟨by omega, ?_, f1_56⟩)⟩⟩
        first
          | exact Or.inl (by omega)
          | exact Or.inr ⟨by omega, by omega⟩
      · refine r_iload_n dX3_readStatement_50 rfl rfl ?_
        refine r_if_eq (tgt := 60) dX3_readStatement_51 rfl ⟨by decide, by decide⟩ (fun c_51 => absurd c_51 (by decide)) (fun c_51 => ?_)
        refine r_aload_n dX3_readStatement_54 rfl rfl ?_
        refine r_iconst dX3_readStatement_55 ?_
        refine r_callVU (av := [_]) (M' := mX3_fail) dX3_readStatement_56 vX3_fail ml_X3_58 sh_14 (by decide) rfl rfl rfl rfl (by simp [wtA]) (sp_X3_fail (by omega) hx hp (by omega) (fun h_56 f0_56 f1_56 => ?_))
        refine r_vret dX3_readStatement_59 rfl ?_
        refine ⟨rfl, k _ ⟨fun a q z => f0_56 a q (by omega) (by omega), by rw [f0_56 14 4 (by decide) (by decide)]; exact ho, Or.inr (Or.inl ⟨by omega, ?_, f1_56⟩)⟩⟩
        first
          | exact Or.inl (by omega)
          | exact Or.inr ⟨by omega, by omega⟩
  · subst e
    refine r_iload_n dX3_readStatement_5 rfl rfl ?_
    refine r_iconst dX3_readStatement_6 ?_
    refine r_icmp_ne (tgt := 16) dX3_readStatement_7 rfl ⟨by decide, by decide⟩ ⟨by decide, by decide⟩ (fun c_7 => ?_) (fun c_7 => absurd c_7 (by decide))
    refine r_iload_n dX3_readStatement_16 rfl rfl ?_
    refine r_if_ne (tgt := 36) dX3_readStatement_17 rfl ⟨by decide, by decide⟩ (fun c_17 => ?_) (fun c_17 => absurd c_17 (by decide))
    refine r_iconst dX3_readStatement_36 ?_
    refine r_istore_n (L' := [_, _, _, _]) dX3_readStatement_37 rfl rfl (by decide) rfl ?_
    refine r_aload_n dX3_readStatement_38 rfl rfl ?_
    refine r_getR dX3_readStatement_39 fl_X3_29 sh_14 rfl ?_
    refine r_getI dX3_readStatement_42 fl_X3_33 sh_4 rfl ?_
    refine r_bipush dX3_readStatement_45 (by decide +kernel) ?_
    refine r_icmp_ge (tgt := 54) dX3_readStatement_47 rfl (by omega) ⟨by decide, by decide⟩ (fun c_47 => ?_) (fun c_47 => ?_)
    · refine r_aload_n dX3_readStatement_54 rfl rfl ?_
      refine r_iconst dX3_readStatement_55 ?_
      refine r_callVU (av := [_]) (M' := mX3_fail) dX3_readStatement_56 vX3_fail ml_X3_58 sh_14 (by decide) rfl rfl rfl rfl (by simp [wtA]) (sp_X3_fail (by omega) hx hp (by omega) (fun h_56 f0_56 f1_56 => ?_))
      refine r_vret dX3_readStatement_59 rfl ?_
      refine ⟨rfl, k _ ⟨fun a q z => f0_56 a q (by omega) (by omega), by rw [f0_56 14 4 (by decide) (by decide)]; exact ho, Or.inr (Or.inl ⟨by omega, ?_, f1_56⟩)⟩⟩
      first
        | exact Or.inl (by omega)
        | exact Or.inr ⟨by omega, by omega⟩
    · refine r_iload_n dX3_readStatement_50 rfl rfl ?_
      refine r_if_eq (tgt := 60) dX3_readStatement_51 rfl ⟨by decide, by decide⟩ (fun c_51 => ?_) (fun c_51 => absurd c_51 (by decide))
      refine r_aload_n dX3_readStatement_60 rfl rfl ?_
      refine r_getR dX3_readStatement_61 fl_X3_25 sh_14 rfl ?_
      refine r_callVU (av := []) (M' := mX8_step) dX3_readStatement_64 vX8_step ml_X3_52 sh_2 (by decide) rfl rfl rfl rfl (by simp [wtA]) (sp_X8_step (n := n) (p := tE (h 3) n s.1) (by omega) ⟨hx.1, hx.2.1⟩ ⟨hp.1.2.2.1, (tE_r hp.2.2.2.1).2.1⟩ hx.2.2 (fun h_64 f0_64 f1_64 => ?_))
      have nb : ¬ (60 ≤ i ∨ (vbF (h 3) n s.1 = 0 ∧ 8 ≤ F)) := by omega
      have st := hp.step f0_64 f1_64
      have s4 := st.2 4 0 (by decide) (by decide)
      have eI : (h_64 4 0).toNat = i := by omega
      refine r_aload_n dX3_readStatement_67 rfl rfl ?_
      refine r_getR dX3_readStatement_68 fl_X3_29 sh_14 rfl ?_
      refine r_iload_n dX3_readStatement_71 rfl rfl ?_
      refine r_callVI (av := [_]) (M' := mX7_add) dX3_readStatement_72 vX7_add ml_X3_65 sh_4 (by decide) rfl rfl rfl rfl (by simp [wtA]) (sp_X7_add (by omega) (by omega) ?_)
      rw [eI, show h_64 4 0 = (i : Int) by omega]
      refine r_gh (fun g eg => ?_)
      have gp : PS g n (tE3 (h 3) n s) := by
        rw [eg]
        exact (((st.1.up (by decide) (by decide) (by omega)).up (by decide) (by decide) (by omega)).up (by decide) (by decide) (by omega)).up (by decide) (by decide) (by decide)
      have gx : TX g n := by rw [eg]; exact ((((st.2.tx hx).up (by decide) (by decide)).up (by decide) (by decide)).up (by decide) (by decide)).up (by decide) (by decide)
      have gs : g 4 0 = h 4 0 + 1 := by rw [eg, up_s]; omega
      have g5 : g 5 i = 1 := by rw [eg, up_nc (by decide), up_nc (by decide), up_nc (by decide), up_s]
      have g6 : g 6 i = i := by rw [eg, up_nc (by decide), up_nc (by decide), up_s]
      have gf : ∀ a k, ¬ (a = 2 ∧ (k = 1 ∨ k = 2 ∨ k = 3 ∨ k = 4)) → ¬ (a = 14 ∧ (k = 2 ∨ k = 3)) → ¬ (a = 4 ∧ k = 0) → ¬ ((a = 5 ∨ a = 6 ∨ a = 7) ∧ k = i) → g a k = h a k := fun a q z1 z2 z3 z4 => by
        rw [eg]
        unfold upH
        rw [if_neg (by omega), if_neg (by omega), if_neg (by omega), if_neg (by omega)]
        exact st.2 a q z1 z2
      have g3 : g 3 = h 3 := funext fun j => gf 3 j (by omega) (by omega) (by omega) (by omega)
      have gi : fiH g n (tE3 (h 3) n s).1 F = fiH h n (tE (h 3) n s.1) F := fiH_cg g3 (fun q => gf 9 q (by omega) (by omega) (by omega) (by omega)) (fun q => gf 10 q (by omega) (by omega) (by omega) (by omega))
      have gF : NF g F := NF_cg g3 (gf 4 1 (by decide) (by decide) (by decide) (by omega)) (fun q => gf 9 q (by omega) (by omega) (by omega) (by omega)) (fun q => gf 10 q (by omega) (by omega) (by omega) (by omega)) hF
      have go := gf 14 4 (by decide) (by decide) (by decide) (by omega)
      clear eg
      refine r_istore_n (L' := [_, _, _, _]) dX3_readStatement_75 rfl rfl (by decide) rfl ?_
      refine r_iload_n dX3_readStatement_76 rfl rfl ?_
      refine r_bipush dX3_readStatement_77 (by decide +kernel) ?_
      refine r_icmp_ne (tgt := 90) dX3_readStatement_79 rfl ⟨by decide, by decide⟩ ⟨by decide, by decide⟩ (fun c_79 => ?_) (fun c_79 => absurd c_79 (by decide))
      refine r_aload_n dX3_readStatement_90 rfl rfl ?_
      refine r_iload_n dX3_readStatement_91 rfl rfl ?_
      refine r_iload_n dX3_readStatement_92 rfl rfl ?_
      refine r_callVU (av := [_, _]) (M' := mX3_readNumbers) dX3_readStatement_93 vX3_readNumbers ml_X3_72 sh_14 (by decide) rfl rfl rfl rfl (by simp [wtA]) (sp_rnPut (n := n) (i := i) (s := tE3 (h 3) n s) (by omega) gx gp (by omega) gF (fun h_93 f0_93 f1_93 f2_93 f3_93 f4_93 f5_93 => ?_))
      rw [g3, gi] at f1_93 f2_93 f3_93 f4_93 f5_93
      refine r_aload_n dX3_readStatement_96 rfl rfl ?_
      refine r_bipush dX3_readStatement_97 (by decide +kernel) ?_
      refine r_callVU (av := [_]) (M' := mX3_takeSign) dX3_readStatement_99 vX3_takeSign ml_X3_76 sh_14 (by decide) rfl rfl rfl rfl (by simp [wtA]) (sp_X3_takeSign (by omega) (f0_93.tx gx) f1_93 (by omega) (fun h_99 f0_99 f1_99 => ?_))
      refine r_vret dX3_readStatement_102 rfl ?_
      rw [f0_93.b, g3] at f1_99
      have fu : FrS i g h_99 := f0_93.tr (FrS.of f0_99)
      refine ⟨rfl, k _ ⟨fun a q z => ?_, by rw [fu 14 4 (by decide) (by decide) (by omega) (by omega), go]; exact ho, Or.inr (Or.inr ⟨by omega, nb, ?_, fun z => ?_⟩)⟩⟩
      · rw [fu a q (by omega) (by omega) (by omega) (by omega)]
        exact gf a q (by omega) (by omega) (by omega) (by omega)
      · rw [← vb]; exact f1_99
      · rw [← vb] at z ⊢
        exact ⟨⟨by rw [fu 4 0 (by omega) (by omega) (by omega) (by omega)]; exact gs, fun q hq => ⟨by rw [fu 5 q (by omega) (by omega) (by omega) (by omega)]; exact gf 5 q (by omega) (by omega) (by omega) (by omega), by rw [fu 6 q (by omega) (by omega) (by omega) (by omega)]; exact gf 6 q (by omega) (by omega) (by omega) (by omega), by rw [fu 7 q (by omega) (by omega) (by omega) (by omega)]; exact gf 7 q (by omega) (by omega) (by omega) (by omega)⟩, fun q hq => by rw [fu 8 q (by omega) (by omega) (by omega) (by omega)]; exact gf 8 q (by omega) (by omega) (by omega) (by omega), by rw [fu 5 i (by omega) (by omega) (by omega) (by omega)]; exact g5, by rw [fu 6 i (by omega) (by omega) (by omega) (by omega)]; exact g6⟩, fun y => absurd y (by decide), fun _ => ⟨by rw [fu 4 1 (by omega) (by omega) (by omega) (by omega)]; exact gf 4 1 (by decide) (by decide) (by decide) (by omega), fun a q y1 y2 => by rw [fu a q (by omega) (by omega) (by omega) (by omega)]; exact gf a q (by omega) (by omega) (by omega) (by omega)⟩, fun _ => ⟨by rw [fu 14 4 (by omega) (by omega) (by omega) (by omega)]; exact go, fun q => by rw [fu 15 q (by omega) (by omega) (by omega) (by omega)]; exact gf 15 q (by omega) (by omega) (by omega) (by omega)⟩, ⟨fun _ => ⟨by rw [f0_99 7 _ (by omega) (by omega)]; exact f2_93 (nkS_0 (nuS_0 (siS_0 z))), by rw [f0_99 8 _ (by omega) (by omega)]; exact f3_93, by rw [f0_99 8 _ (by omega) (by omega)]; exact f4_93, by rw [f0_99 8 _ (by omega) (by omega)]; exact f5_93⟩, fun y => absurd y (by decide), fun y => absurd y (by decide), fun y => absurd y (by decide), fun y => absurd y (by decide), fun y => absurd y (by decide)⟩⟩
  · subst e
    refine r_iload_n dX3_readStatement_5 rfl rfl ?_
    refine r_iconst dX3_readStatement_6 ?_
    refine r_icmp_ne (tgt := 16) dX3_readStatement_7 rfl ⟨by decide, by decide⟩ ⟨by decide, by decide⟩ (fun c_7 => ?_) (fun c_7 => absurd c_7 (by decide))
    refine r_iload_n dX3_readStatement_16 rfl rfl ?_
    refine r_if_ne (tgt := 36) dX3_readStatement_17 rfl ⟨by decide, by decide⟩ (fun c_17 => ?_) (fun c_17 => absurd c_17 (by decide))
    refine r_iconst dX3_readStatement_36 ?_
    refine r_istore_n (L' := [_, _, _, _]) dX3_readStatement_37 rfl rfl (by decide) rfl ?_
    refine r_aload_n dX3_readStatement_38 rfl rfl ?_
    refine r_getR dX3_readStatement_39 fl_X3_29 sh_14 rfl ?_
    refine r_getI dX3_readStatement_42 fl_X3_33 sh_4 rfl ?_
    refine r_bipush dX3_readStatement_45 (by decide +kernel) ?_
    refine r_icmp_ge (tgt := 54) dX3_readStatement_47 rfl (by omega) ⟨by decide, by decide⟩ (fun c_47 => ?_) (fun c_47 => ?_)
    · refine r_aload_n dX3_readStatement_54 rfl rfl ?_
      refine r_iconst dX3_readStatement_55 ?_
      refine r_callVU (av := [_]) (M' := mX3_fail) dX3_readStatement_56 vX3_fail ml_X3_58 sh_14 (by decide) rfl rfl rfl rfl (by simp [wtA]) (sp_X3_fail (by omega) hx hp (by omega) (fun h_56 f0_56 f1_56 => ?_))
      refine r_vret dX3_readStatement_59 rfl ?_
      refine ⟨rfl, k _ ⟨fun a q z => f0_56 a q (by omega) (by omega), by rw [f0_56 14 4 (by decide) (by decide)]; exact ho, Or.inr (Or.inl ⟨by omega, ?_, f1_56⟩)⟩⟩
      first
        | exact Or.inl (by omega)
        | exact Or.inr ⟨by omega, by omega⟩
    · refine r_iload_n dX3_readStatement_50 rfl rfl ?_
      refine r_if_eq (tgt := 60) dX3_readStatement_51 rfl ⟨by decide, by decide⟩ (fun c_51 => ?_) (fun c_51 => absurd c_51 (by decide))
      refine r_aload_n dX3_readStatement_60 rfl rfl ?_
      refine r_getR dX3_readStatement_61 fl_X3_25 sh_14 rfl ?_
      refine r_callVU (av := []) (M' := mX8_step) dX3_readStatement_64 vX8_step ml_X3_52 sh_2 (by decide) rfl rfl rfl rfl (by simp [wtA]) (sp_X8_step (n := n) (p := tE (h 3) n s.1) (by omega) ⟨hx.1, hx.2.1⟩ ⟨hp.1.2.2.1, (tE_r hp.2.2.2.1).2.1⟩ hx.2.2 (fun h_64 f0_64 f1_64 => ?_))
      have nb : ¬ (60 ≤ i ∨ (vbF (h 3) n s.1 = 0 ∧ 8 ≤ F)) := by omega
      have st := hp.step f0_64 f1_64
      have s4 := st.2 4 0 (by decide) (by decide)
      have eI : (h_64 4 0).toNat = i := by omega
      refine r_aload_n dX3_readStatement_67 rfl rfl ?_
      refine r_getR dX3_readStatement_68 fl_X3_29 sh_14 rfl ?_
      refine r_iload_n dX3_readStatement_71 rfl rfl ?_
      refine r_callVI (av := [_]) (M' := mX7_add) dX3_readStatement_72 vX7_add ml_X3_65 sh_4 (by decide) rfl rfl rfl rfl (by simp [wtA]) (sp_X7_add (by omega) (by omega) ?_)
      rw [eI, show h_64 4 0 = (i : Int) by omega]
      refine r_gh (fun g eg => ?_)
      have gp : PS g n (tE3 (h 3) n s) := by
        rw [eg]
        exact (((st.1.up (by decide) (by decide) (by omega)).up (by decide) (by decide) (by omega)).up (by decide) (by decide) (by omega)).up (by decide) (by decide) (by decide)
      have gx : TX g n := by rw [eg]; exact ((((st.2.tx hx).up (by decide) (by decide)).up (by decide) (by decide)).up (by decide) (by decide)).up (by decide) (by decide)
      have gs : g 4 0 = h 4 0 + 1 := by rw [eg, up_s]; omega
      have g5 : g 5 i = 2 := by rw [eg, up_nc (by decide), up_nc (by decide), up_nc (by decide), up_s]
      have g6 : g 6 i = i := by rw [eg, up_nc (by decide), up_nc (by decide), up_s]
      have gf : ∀ a k, ¬ (a = 2 ∧ (k = 1 ∨ k = 2 ∨ k = 3 ∨ k = 4)) → ¬ (a = 14 ∧ (k = 2 ∨ k = 3)) → ¬ (a = 4 ∧ k = 0) → ¬ ((a = 5 ∨ a = 6 ∨ a = 7) ∧ k = i) → g a k = h a k := fun a q z1 z2 z3 z4 => by
        rw [eg]
        unfold upH
        rw [if_neg (by omega), if_neg (by omega), if_neg (by omega), if_neg (by omega)]
        exact st.2 a q z1 z2
      have g3 : g 3 = h 3 := funext fun j => gf 3 j (by omega) (by omega) (by omega) (by omega)
      have gi : fiH g n (tE3 (h 3) n s).1 F = fiH h n (tE (h 3) n s.1) F := fiH_cg g3 (fun q => gf 9 q (by omega) (by omega) (by omega) (by omega)) (fun q => gf 10 q (by omega) (by omega) (by omega) (by omega))
      have gF : NF g F := NF_cg g3 (gf 4 1 (by decide) (by decide) (by decide) (by omega)) (fun q => gf 9 q (by omega) (by omega) (by omega) (by omega)) (fun q => gf 10 q (by omega) (by omega) (by omega) (by omega)) hF
      have go := gf 14 4 (by decide) (by decide) (by decide) (by omega)
      clear eg
      refine r_istore_n (L' := [_, _, _, _]) dX3_readStatement_75 rfl rfl (by decide) rfl ?_
      refine r_iload_n dX3_readStatement_76 rfl rfl ?_
      refine r_bipush dX3_readStatement_77 (by decide +kernel) ?_
      refine r_icmp_ne (tgt := 90) dX3_readStatement_79 rfl ⟨by decide, by decide⟩ ⟨by decide, by decide⟩ (fun c_79 => ?_) (fun c_79 => absurd c_79 (by decide))
      refine r_aload_n dX3_readStatement_90 rfl rfl ?_
      refine r_iload_n dX3_readStatement_91 rfl rfl ?_
      refine r_iload_n dX3_readStatement_92 rfl rfl ?_
      refine r_callVU (av := [_, _]) (M' := mX3_readNumbers) dX3_readStatement_93 vX3_readNumbers ml_X3_72 sh_14 (by decide) rfl rfl rfl rfl (by simp [wtA]) (sp_rnLine (n := n) (i := i) (s := tE3 (h 3) n s) (by omega) gx gp (by omega) (fun h_93 f0_93 f1_93 f2_93 => ?_))
      rw [g3] at f1_93 f2_93
      refine r_aload_n dX3_readStatement_96 rfl rfl ?_
      refine r_bipush dX3_readStatement_97 (by decide +kernel) ?_
      refine r_callVU (av := [_]) (M' := mX3_takeSign) dX3_readStatement_99 vX3_takeSign ml_X3_76 sh_14 (by decide) rfl rfl rfl rfl (by simp [wtA]) (sp_X3_takeSign (by omega) (f0_93.tx gx) f1_93 (by omega) (fun h_99 f0_99 f1_99 => ?_))
      refine r_vret dX3_readStatement_102 rfl ?_
      rw [f0_93.b, g3] at f1_99
      have fu : FrS i g h_99 := f0_93.tr (FrS.of f0_99)
      refine ⟨rfl, k _ ⟨fun a q z => ?_, by rw [fu 14 4 (by decide) (by decide) (by omega) (by omega), go]; exact ho, Or.inr (Or.inr ⟨by omega, nb, ?_, fun z => ?_⟩)⟩⟩
      · rw [fu a q (by omega) (by omega) (by omega) (by omega)]
        exact gf a q (by omega) (by omega) (by omega) (by omega)
      · rw [← vb]; exact f1_99
      · rw [← vb] at z ⊢
        exact ⟨⟨by rw [fu 4 0 (by omega) (by omega) (by omega) (by omega)]; exact gs, fun q hq => ⟨by rw [fu 5 q (by omega) (by omega) (by omega) (by omega)]; exact gf 5 q (by omega) (by omega) (by omega) (by omega), by rw [fu 6 q (by omega) (by omega) (by omega) (by omega)]; exact gf 6 q (by omega) (by omega) (by omega) (by omega), by rw [fu 7 q (by omega) (by omega) (by omega) (by omega)]; exact gf 7 q (by omega) (by omega) (by omega) (by omega)⟩, fun q hq => by rw [fu 8 q (by omega) (by omega) (by omega) (by omega)]; exact gf 8 q (by omega) (by omega) (by omega) (by omega), by rw [fu 5 i (by omega) (by omega) (by omega) (by omega)]; exact g5, by rw [fu 6 i (by omega) (by omega) (by omega) (by omega)]; exact g6⟩, fun y => absurd y (by decide), fun _ => ⟨by rw [fu 4 1 (by omega) (by omega) (by omega) (by omega)]; exact gf 4 1 (by decide) (by decide) (by decide) (by omega), fun a q y1 y2 => by rw [fu a q (by omega) (by omega) (by omega) (by omega)]; exact gf a q (by omega) (by omega) (by omega) (by omega)⟩, fun _ => ⟨by rw [fu 14 4 (by omega) (by omega) (by omega) (by omega)]; exact go, fun q => by rw [fu 15 q (by omega) (by omega) (by omega) (by omega)]; exact gf 15 q (by omega) (by omega) (by omega) (by omega)⟩, ⟨fun y => absurd y (by decide), fun _ q hq => by rw [f0_99 8 _ (by omega) (by omega)]; exact f2_93 q hq, fun y => absurd y (by decide), fun y => absurd y (by decide), fun y => absurd y (by decide), fun y => absurd y (by decide)⟩⟩
  · subst e
    refine r_iload_n dX3_readStatement_5 rfl rfl ?_
    refine r_iconst dX3_readStatement_6 ?_
    refine r_icmp_ne (tgt := 16) dX3_readStatement_7 rfl ⟨by decide, by decide⟩ ⟨by decide, by decide⟩ (fun c_7 => ?_) (fun c_7 => absurd c_7 (by decide))
    refine r_iload_n dX3_readStatement_16 rfl rfl ?_
    refine r_if_ne (tgt := 36) dX3_readStatement_17 rfl ⟨by decide, by decide⟩ (fun c_17 => ?_) (fun c_17 => absurd c_17 (by decide))
    refine r_iconst dX3_readStatement_36 ?_
    refine r_istore_n (L' := [_, _, _, _]) dX3_readStatement_37 rfl rfl (by decide) rfl ?_
    refine r_aload_n dX3_readStatement_38 rfl rfl ?_
    refine r_getR dX3_readStatement_39 fl_X3_29 sh_14 rfl ?_
    refine r_getI dX3_readStatement_42 fl_X3_33 sh_4 rfl ?_
    refine r_bipush dX3_readStatement_45 (by decide +kernel) ?_
    refine r_icmp_ge (tgt := 54) dX3_readStatement_47 rfl (by omega) ⟨by decide, by decide⟩ (fun c_47 => ?_) (fun c_47 => ?_)
    · refine r_aload_n dX3_readStatement_54 rfl rfl ?_
      refine r_iconst dX3_readStatement_55 ?_
      refine r_callVU (av := [_]) (M' := mX3_fail) dX3_readStatement_56 vX3_fail ml_X3_58 sh_14 (by decide) rfl rfl rfl rfl (by simp [wtA]) (sp_X3_fail (by omega) hx hp (by omega) (fun h_56 f0_56 f1_56 => ?_))
      refine r_vret dX3_readStatement_59 rfl ?_
      refine ⟨rfl, k _ ⟨fun a q z => f0_56 a q (by omega) (by omega), by rw [f0_56 14 4 (by decide) (by decide)]; exact ho, Or.inr (Or.inl ⟨by omega, ?_, f1_56⟩)⟩⟩
      first
        | exact Or.inl (by omega)
        | exact Or.inr ⟨by omega, by omega⟩
    · refine r_iload_n dX3_readStatement_50 rfl rfl ?_
      refine r_if_eq (tgt := 60) dX3_readStatement_51 rfl ⟨by decide, by decide⟩ (fun c_51 => ?_) (fun c_51 => absurd c_51 (by decide))
      refine r_aload_n dX3_readStatement_60 rfl rfl ?_
      refine r_getR dX3_readStatement_61 fl_X3_25 sh_14 rfl ?_
      refine r_callVU (av := []) (M' := mX8_step) dX3_readStatement_64 vX8_step ml_X3_52 sh_2 (by decide) rfl rfl rfl rfl (by simp [wtA]) (sp_X8_step (n := n) (p := tE (h 3) n s.1) (by omega) ⟨hx.1, hx.2.1⟩ ⟨hp.1.2.2.1, (tE_r hp.2.2.2.1).2.1⟩ hx.2.2 (fun h_64 f0_64 f1_64 => ?_))
      have nb : ¬ (60 ≤ i ∨ (vbF (h 3) n s.1 = 0 ∧ 8 ≤ F)) := by omega
      have st := hp.step f0_64 f1_64
      have s4 := st.2 4 0 (by decide) (by decide)
      have eI : (h_64 4 0).toNat = i := by omega
      refine r_aload_n dX3_readStatement_67 rfl rfl ?_
      refine r_getR dX3_readStatement_68 fl_X3_29 sh_14 rfl ?_
      refine r_iload_n dX3_readStatement_71 rfl rfl ?_
      refine r_callVI (av := [_]) (M' := mX7_add) dX3_readStatement_72 vX7_add ml_X3_65 sh_4 (by decide) rfl rfl rfl rfl (by simp [wtA]) (sp_X7_add (by omega) (by omega) ?_)
      rw [eI, show h_64 4 0 = (i : Int) by omega]
      refine r_gh (fun g eg => ?_)
      have gp : PS g n (tE3 (h 3) n s) := by
        rw [eg]
        exact (((st.1.up (by decide) (by decide) (by omega)).up (by decide) (by decide) (by omega)).up (by decide) (by decide) (by omega)).up (by decide) (by decide) (by decide)
      have gx : TX g n := by rw [eg]; exact ((((st.2.tx hx).up (by decide) (by decide)).up (by decide) (by decide)).up (by decide) (by decide)).up (by decide) (by decide)
      have gs : g 4 0 = h 4 0 + 1 := by rw [eg, up_s]; omega
      have g5 : g 5 i = 3 := by rw [eg, up_nc (by decide), up_nc (by decide), up_nc (by decide), up_s]
      have g6 : g 6 i = i := by rw [eg, up_nc (by decide), up_nc (by decide), up_s]
      have gf : ∀ a k, ¬ (a = 2 ∧ (k = 1 ∨ k = 2 ∨ k = 3 ∨ k = 4)) → ¬ (a = 14 ∧ (k = 2 ∨ k = 3)) → ¬ (a = 4 ∧ k = 0) → ¬ ((a = 5 ∨ a = 6 ∨ a = 7) ∧ k = i) → g a k = h a k := fun a q z1 z2 z3 z4 => by
        rw [eg]
        unfold upH
        rw [if_neg (by omega), if_neg (by omega), if_neg (by omega), if_neg (by omega)]
        exact st.2 a q z1 z2
      have g3 : g 3 = h 3 := funext fun j => gf 3 j (by omega) (by omega) (by omega) (by omega)
      have gi : fiH g n (tE3 (h 3) n s).1 F = fiH h n (tE (h 3) n s.1) F := fiH_cg g3 (fun q => gf 9 q (by omega) (by omega) (by omega) (by omega)) (fun q => gf 10 q (by omega) (by omega) (by omega) (by omega))
      have gF : NF g F := NF_cg g3 (gf 4 1 (by decide) (by decide) (by decide) (by omega)) (fun q => gf 9 q (by omega) (by omega) (by omega) (by omega)) (fun q => gf 10 q (by omega) (by omega) (by omega) (by omega)) hF
      have go := gf 14 4 (by decide) (by decide) (by decide) (by omega)
      clear eg
      refine r_istore_n (L' := [_, _, _, _]) dX3_readStatement_75 rfl rfl (by decide) rfl ?_
      refine r_iload_n dX3_readStatement_76 rfl rfl ?_
      refine r_bipush dX3_readStatement_77 (by decide +kernel) ?_
      refine r_icmp_ne (tgt := 90) dX3_readStatement_79 rfl ⟨by decide, by decide⟩ ⟨by decide, by decide⟩ (fun c_79 => ?_) (fun c_79 => absurd c_79 (by decide))
      refine r_aload_n dX3_readStatement_90 rfl rfl ?_
      refine r_iload_n dX3_readStatement_91 rfl rfl ?_
      refine r_iload_n dX3_readStatement_92 rfl rfl ?_
      refine r_callVU (av := [_, _]) (M' := mX3_readNumbers) dX3_readStatement_93 vX3_readNumbers ml_X3_72 sh_14 (by decide) rfl rfl rfl rfl (by simp [wtA]) (sp_rnTo (n := n) (i := i) (s := tE3 (h 3) n s) (by omega) gx gp (by omega) (fun h_93 f0_93 f1_93 f2_93 => ?_))
      rw [g3] at f1_93 f2_93
      refine r_aload_n dX3_readStatement_96 rfl rfl ?_
      refine r_bipush dX3_readStatement_97 (by decide +kernel) ?_
      refine r_callVU (av := [_]) (M' := mX3_takeSign) dX3_readStatement_99 vX3_takeSign ml_X3_76 sh_14 (by decide) rfl rfl rfl rfl (by simp [wtA]) (sp_X3_takeSign (by omega) (f0_93.tx gx) f1_93 (by omega) (fun h_99 f0_99 f1_99 => ?_))
      refine r_vret dX3_readStatement_102 rfl ?_
      rw [f0_93.b, g3] at f1_99
      have fu : FrS i g h_99 := f0_93.tr (FrS.of f0_99)
      refine ⟨rfl, k _ ⟨fun a q z => ?_, by rw [fu 14 4 (by decide) (by decide) (by omega) (by omega), go]; exact ho, Or.inr (Or.inr ⟨by omega, nb, ?_, fun z => ?_⟩)⟩⟩
      · rw [fu a q (by omega) (by omega) (by omega) (by omega)]
        exact gf a q (by omega) (by omega) (by omega) (by omega)
      · rw [← vb]; exact f1_99
      · rw [← vb] at z ⊢
        exact ⟨⟨by rw [fu 4 0 (by omega) (by omega) (by omega) (by omega)]; exact gs, fun q hq => ⟨by rw [fu 5 q (by omega) (by omega) (by omega) (by omega)]; exact gf 5 q (by omega) (by omega) (by omega) (by omega), by rw [fu 6 q (by omega) (by omega) (by omega) (by omega)]; exact gf 6 q (by omega) (by omega) (by omega) (by omega), by rw [fu 7 q (by omega) (by omega) (by omega) (by omega)]; exact gf 7 q (by omega) (by omega) (by omega) (by omega)⟩, fun q hq => by rw [fu 8 q (by omega) (by omega) (by omega) (by omega)]; exact gf 8 q (by omega) (by omega) (by omega) (by omega), by rw [fu 5 i (by omega) (by omega) (by omega) (by omega)]; exact g5, by rw [fu 6 i (by omega) (by omega) (by omega) (by omega)]; exact g6⟩, fun y => absurd y (by decide), fun _ => ⟨by rw [fu 4 1 (by omega) (by omega) (by omega) (by omega)]; exact gf 4 1 (by decide) (by decide) (by decide) (by omega), fun a q y1 y2 => by rw [fu a q (by omega) (by omega) (by omega) (by omega)]; exact gf a q (by omega) (by omega) (by omega) (by omega)⟩, fun _ => ⟨by rw [fu 14 4 (by omega) (by omega) (by omega) (by omega)]; exact go, fun q => by rw [fu 15 q (by omega) (by omega) (by omega) (by omega)]; exact gf 15 q (by omega) (by omega) (by omega) (by omega)⟩, ⟨fun y => absurd y (by decide), fun y => absurd y (by decide), fun _ q hq => by rw [f0_99 8 _ (by omega) (by omega)]; exact f2_93 q hq, fun y => absurd y (by decide), fun y => absurd y (by decide), fun y => absurd y (by decide)⟩⟩
  · subst e
    refine r_iload_n dX3_readStatement_5 rfl rfl ?_
    refine r_iconst dX3_readStatement_6 ?_
    refine r_icmp_ne (tgt := 16) dX3_readStatement_7 rfl ⟨by decide, by decide⟩ ⟨by decide, by decide⟩ (fun c_7 => ?_) (fun c_7 => absurd c_7 (by decide))
    refine r_iload_n dX3_readStatement_16 rfl rfl ?_
    refine r_if_ne (tgt := 36) dX3_readStatement_17 rfl ⟨by decide, by decide⟩ (fun c_17 => ?_) (fun c_17 => absurd c_17 (by decide))
    refine r_iconst dX3_readStatement_36 ?_
    refine r_istore_n (L' := [_, _, _, _]) dX3_readStatement_37 rfl rfl (by decide) rfl ?_
    refine r_aload_n dX3_readStatement_38 rfl rfl ?_
    refine r_getR dX3_readStatement_39 fl_X3_29 sh_14 rfl ?_
    refine r_getI dX3_readStatement_42 fl_X3_33 sh_4 rfl ?_
    refine r_bipush dX3_readStatement_45 (by decide +kernel) ?_
    refine r_icmp_ge (tgt := 54) dX3_readStatement_47 rfl (by omega) ⟨by decide, by decide⟩ (fun c_47 => ?_) (fun c_47 => ?_)
    · refine r_aload_n dX3_readStatement_54 rfl rfl ?_
      refine r_iconst dX3_readStatement_55 ?_
      refine r_callVU (av := [_]) (M' := mX3_fail) dX3_readStatement_56 vX3_fail ml_X3_58 sh_14 (by decide) rfl rfl rfl rfl (by simp [wtA]) (sp_X3_fail (by omega) hx hp (by omega) (fun h_56 f0_56 f1_56 => ?_))
      refine r_vret dX3_readStatement_59 rfl ?_
      refine ⟨rfl, k _ ⟨fun a q z => f0_56 a q (by omega) (by omega), by rw [f0_56 14 4 (by decide) (by decide)]; exact ho, Or.inr (Or.inl ⟨by omega, ?_, f1_56⟩)⟩⟩
      first
        | exact Or.inl (by omega)
        | exact Or.inr ⟨by omega, by omega⟩
    · refine r_iload_n dX3_readStatement_50 rfl rfl ?_
      refine r_if_eq (tgt := 60) dX3_readStatement_51 rfl ⟨by decide, by decide⟩ (fun c_51 => ?_) (fun c_51 => absurd c_51 (by decide))
      refine r_aload_n dX3_readStatement_60 rfl rfl ?_
      refine r_getR dX3_readStatement_61 fl_X3_25 sh_14 rfl ?_
      refine r_callVU (av := []) (M' := mX8_step) dX3_readStatement_64 vX8_step ml_X3_52 sh_2 (by decide) rfl rfl rfl rfl (by simp [wtA]) (sp_X8_step (n := n) (p := tE (h 3) n s.1) (by omega) ⟨hx.1, hx.2.1⟩ ⟨hp.1.2.2.1, (tE_r hp.2.2.2.1).2.1⟩ hx.2.2 (fun h_64 f0_64 f1_64 => ?_))
      have nb : ¬ (60 ≤ i ∨ (vbF (h 3) n s.1 = 0 ∧ 8 ≤ F)) := by omega
      have st := hp.step f0_64 f1_64
      have s4 := st.2 4 0 (by decide) (by decide)
      have eI : (h_64 4 0).toNat = i := by omega
      refine r_aload_n dX3_readStatement_67 rfl rfl ?_
      refine r_getR dX3_readStatement_68 fl_X3_29 sh_14 rfl ?_
      refine r_iload_n dX3_readStatement_71 rfl rfl ?_
      refine r_callVI (av := [_]) (M' := mX7_add) dX3_readStatement_72 vX7_add ml_X3_65 sh_4 (by decide) rfl rfl rfl rfl (by simp [wtA]) (sp_X7_add (by omega) (by omega) ?_)
      rw [eI, show h_64 4 0 = (i : Int) by omega]
      refine r_gh (fun g eg => ?_)
      have gp : PS g n (tE3 (h 3) n s) := by
        rw [eg]
        exact (((st.1.up (by decide) (by decide) (by omega)).up (by decide) (by decide) (by omega)).up (by decide) (by decide) (by omega)).up (by decide) (by decide) (by decide)
      have gx : TX g n := by rw [eg]; exact ((((st.2.tx hx).up (by decide) (by decide)).up (by decide) (by decide)).up (by decide) (by decide)).up (by decide) (by decide)
      have gs : g 4 0 = h 4 0 + 1 := by rw [eg, up_s]; omega
      have g5 : g 5 i = 4 := by rw [eg, up_nc (by decide), up_nc (by decide), up_nc (by decide), up_s]
      have g6 : g 6 i = i := by rw [eg, up_nc (by decide), up_nc (by decide), up_s]
      have gf : ∀ a k, ¬ (a = 2 ∧ (k = 1 ∨ k = 2 ∨ k = 3 ∨ k = 4)) → ¬ (a = 14 ∧ (k = 2 ∨ k = 3)) → ¬ (a = 4 ∧ k = 0) → ¬ ((a = 5 ∨ a = 6 ∨ a = 7) ∧ k = i) → g a k = h a k := fun a q z1 z2 z3 z4 => by
        rw [eg]
        unfold upH
        rw [if_neg (by omega), if_neg (by omega), if_neg (by omega), if_neg (by omega)]
        exact st.2 a q z1 z2
      have g3 : g 3 = h 3 := funext fun j => gf 3 j (by omega) (by omega) (by omega) (by omega)
      have gi : fiH g n (tE3 (h 3) n s).1 F = fiH h n (tE (h 3) n s.1) F := fiH_cg g3 (fun q => gf 9 q (by omega) (by omega) (by omega) (by omega)) (fun q => gf 10 q (by omega) (by omega) (by omega) (by omega))
      have gF : NF g F := NF_cg g3 (gf 4 1 (by decide) (by decide) (by decide) (by omega)) (fun q => gf 9 q (by omega) (by omega) (by omega) (by omega)) (fun q => gf 10 q (by omega) (by omega) (by omega) (by omega)) hF
      have go := gf 14 4 (by decide) (by decide) (by decide) (by omega)
      clear eg
      refine r_istore_n (L' := [_, _, _, _]) dX3_readStatement_75 rfl rfl (by decide) rfl ?_
      refine r_iload_n dX3_readStatement_76 rfl rfl ?_
      refine r_bipush dX3_readStatement_77 (by decide +kernel) ?_
      refine r_icmp_ne (tgt := 90) dX3_readStatement_79 rfl ⟨by decide, by decide⟩ ⟨by decide, by decide⟩ (fun c_79 => ?_) (fun c_79 => absurd c_79 (by decide))
      refine r_aload_n dX3_readStatement_90 rfl rfl ?_
      refine r_iload_n dX3_readStatement_91 rfl rfl ?_
      refine r_iload_n dX3_readStatement_92 rfl rfl ?_
      refine r_callVU (av := [_, _]) (M' := mX3_readNumbers) dX3_readStatement_93 vX3_readNumbers ml_X3_72 sh_14 (by decide) rfl rfl rfl rfl (by simp [wtA]) (sp_rnHatch (n := n) (i := i) (s := tE3 (h 3) n s) (by omega) gx gp (by omega) (fun h_93 f0_93 f1_93 f2_93 f3_93 => ?_))
      rw [g3] at f1_93 f2_93 f3_93
      refine r_aload_n dX3_readStatement_96 rfl rfl ?_
      refine r_bipush dX3_readStatement_97 (by decide +kernel) ?_
      refine r_callVU (av := [_]) (M' := mX3_takeSign) dX3_readStatement_99 vX3_takeSign ml_X3_76 sh_14 (by decide) rfl rfl rfl rfl (by simp [wtA]) (sp_X3_takeSign (by omega) (f0_93.tx gx) f1_93 (by omega) (fun h_99 f0_99 f1_99 => ?_))
      refine r_vret dX3_readStatement_102 rfl ?_
      rw [f0_93.b, g3] at f1_99
      have fu : FrS i g h_99 := f0_93.tr (FrS.of f0_99)
      refine ⟨rfl, k _ ⟨fun a q z => ?_, by rw [fu 14 4 (by decide) (by decide) (by omega) (by omega), go]; exact ho, Or.inr (Or.inr ⟨by omega, nb, ?_, fun z => ?_⟩)⟩⟩
      · rw [fu a q (by omega) (by omega) (by omega) (by omega)]
        exact gf a q (by omega) (by omega) (by omega) (by omega)
      · rw [← vb]; exact f1_99
      · rw [← vb] at z ⊢
        exact ⟨⟨by rw [fu 4 0 (by omega) (by omega) (by omega) (by omega)]; exact gs, fun q hq => ⟨by rw [fu 5 q (by omega) (by omega) (by omega) (by omega)]; exact gf 5 q (by omega) (by omega) (by omega) (by omega), by rw [fu 6 q (by omega) (by omega) (by omega) (by omega)]; exact gf 6 q (by omega) (by omega) (by omega) (by omega), by rw [fu 7 q (by omega) (by omega) (by omega) (by omega)]; exact gf 7 q (by omega) (by omega) (by omega) (by omega)⟩, fun q hq => by rw [fu 8 q (by omega) (by omega) (by omega) (by omega)]; exact gf 8 q (by omega) (by omega) (by omega) (by omega), by rw [fu 5 i (by omega) (by omega) (by omega) (by omega)]; exact g5, by rw [fu 6 i (by omega) (by omega) (by omega) (by omega)]; exact g6⟩, fun y => absurd y (by decide), fun _ => ⟨by rw [fu 4 1 (by omega) (by omega) (by omega) (by omega)]; exact gf 4 1 (by decide) (by decide) (by decide) (by omega), fun a q y1 y2 => by rw [fu a q (by omega) (by omega) (by omega) (by omega)]; exact gf a q (by omega) (by omega) (by omega) (by omega)⟩, fun _ => ⟨by rw [fu 14 4 (by omega) (by omega) (by omega) (by omega)]; exact go, fun q => by rw [fu 15 q (by omega) (by omega) (by omega) (by omega)]; exact gf 15 q (by omega) (by omega) (by omega) (by omega)⟩, ⟨fun y => absurd y (by decide), fun y => absurd y (by decide), fun y => absurd y (by decide), fun _ => ⟨fun q hq => by rw [f0_99 8 _ (by omega) (by omega)]; exact f2_93 q hq, by rw [f0_99 8 _ (by omega) (by omega)]; exact f3_93⟩, fun y => absurd y (by decide), fun y => absurd y (by decide)⟩⟩
  · subst e
    refine r_iload_n dX3_readStatement_5 rfl rfl ?_
    refine r_iconst dX3_readStatement_6 ?_
    refine r_icmp_ne (tgt := 16) dX3_readStatement_7 rfl ⟨by decide, by decide⟩ ⟨by decide, by decide⟩ (fun c_7 => ?_) (fun c_7 => absurd c_7 (by decide))
    refine r_iload_n dX3_readStatement_16 rfl rfl ?_
    refine r_if_ne (tgt := 36) dX3_readStatement_17 rfl ⟨by decide, by decide⟩ (fun c_17 => ?_) (fun c_17 => absurd c_17 (by decide))
    refine r_iconst dX3_readStatement_36 ?_
    refine r_istore_n (L' := [_, _, _, _]) dX3_readStatement_37 rfl rfl (by decide) rfl ?_
    refine r_aload_n dX3_readStatement_38 rfl rfl ?_
    refine r_getR dX3_readStatement_39 fl_X3_29 sh_14 rfl ?_
    refine r_getI dX3_readStatement_42 fl_X3_33 sh_4 rfl ?_
    refine r_bipush dX3_readStatement_45 (by decide +kernel) ?_
    refine r_icmp_ge (tgt := 54) dX3_readStatement_47 rfl (by omega) ⟨by decide, by decide⟩ (fun c_47 => ?_) (fun c_47 => ?_)
    · refine r_aload_n dX3_readStatement_54 rfl rfl ?_
      refine r_iconst dX3_readStatement_55 ?_
      refine r_callVU (av := [_]) (M' := mX3_fail) dX3_readStatement_56 vX3_fail ml_X3_58 sh_14 (by decide) rfl rfl rfl rfl (by simp [wtA]) (sp_X3_fail (by omega) hx hp (by omega) (fun h_56 f0_56 f1_56 => ?_))
      refine r_vret dX3_readStatement_59 rfl ?_
      refine ⟨rfl, k _ ⟨fun a q z => f0_56 a q (by omega) (by omega), by rw [f0_56 14 4 (by decide) (by decide)]; exact ho, Or.inr (Or.inl ⟨by omega, ?_, f1_56⟩)⟩⟩
      first
        | exact Or.inl (by omega)
        | exact Or.inr ⟨by omega, by omega⟩
    · refine r_iload_n dX3_readStatement_50 rfl rfl ?_
      refine r_if_eq (tgt := 60) dX3_readStatement_51 rfl ⟨by decide, by decide⟩ (fun c_51 => ?_) (fun c_51 => absurd c_51 (by decide))
      refine r_aload_n dX3_readStatement_60 rfl rfl ?_
      refine r_getR dX3_readStatement_61 fl_X3_25 sh_14 rfl ?_
      refine r_callVU (av := []) (M' := mX8_step) dX3_readStatement_64 vX8_step ml_X3_52 sh_2 (by decide) rfl rfl rfl rfl (by simp [wtA]) (sp_X8_step (n := n) (p := tE (h 3) n s.1) (by omega) ⟨hx.1, hx.2.1⟩ ⟨hp.1.2.2.1, (tE_r hp.2.2.2.1).2.1⟩ hx.2.2 (fun h_64 f0_64 f1_64 => ?_))
      have nb : ¬ (60 ≤ i ∨ (vbF (h 3) n s.1 = 0 ∧ 8 ≤ F)) := by omega
      have st := hp.step f0_64 f1_64
      have s4 := st.2 4 0 (by decide) (by decide)
      have eI : (h_64 4 0).toNat = i := by omega
      refine r_aload_n dX3_readStatement_67 rfl rfl ?_
      refine r_getR dX3_readStatement_68 fl_X3_29 sh_14 rfl ?_
      refine r_iload_n dX3_readStatement_71 rfl rfl ?_
      refine r_callVI (av := [_]) (M' := mX7_add) dX3_readStatement_72 vX7_add ml_X3_65 sh_4 (by decide) rfl rfl rfl rfl (by simp [wtA]) (sp_X7_add (by omega) (by omega) ?_)
      rw [eI, show h_64 4 0 = (i : Int) by omega]
      refine r_gh (fun g eg => ?_)
      have gp : PS g n (tE3 (h 3) n s) := by
        rw [eg]
        exact (((st.1.up (by decide) (by decide) (by omega)).up (by decide) (by decide) (by omega)).up (by decide) (by decide) (by omega)).up (by decide) (by decide) (by decide)
      have gx : TX g n := by rw [eg]; exact ((((st.2.tx hx).up (by decide) (by decide)).up (by decide) (by decide)).up (by decide) (by decide)).up (by decide) (by decide)
      have gs : g 4 0 = h 4 0 + 1 := by rw [eg, up_s]; omega
      have g5 : g 5 i = 5 := by rw [eg, up_nc (by decide), up_nc (by decide), up_nc (by decide), up_s]
      have g6 : g 6 i = i := by rw [eg, up_nc (by decide), up_nc (by decide), up_s]
      have gf : ∀ a k, ¬ (a = 2 ∧ (k = 1 ∨ k = 2 ∨ k = 3 ∨ k = 4)) → ¬ (a = 14 ∧ (k = 2 ∨ k = 3)) → ¬ (a = 4 ∧ k = 0) → ¬ ((a = 5 ∨ a = 6 ∨ a = 7) ∧ k = i) → g a k = h a k := fun a q z1 z2 z3 z4 => by
        rw [eg]
        unfold upH
        rw [if_neg (by omega), if_neg (by omega), if_neg (by omega), if_neg (by omega)]
        exact st.2 a q z1 z2
      have g3 : g 3 = h 3 := funext fun j => gf 3 j (by omega) (by omega) (by omega) (by omega)
      have gi : fiH g n (tE3 (h 3) n s).1 F = fiH h n (tE (h 3) n s.1) F := fiH_cg g3 (fun q => gf 9 q (by omega) (by omega) (by omega) (by omega)) (fun q => gf 10 q (by omega) (by omega) (by omega) (by omega))
      have gF : NF g F := NF_cg g3 (gf 4 1 (by decide) (by decide) (by decide) (by omega)) (fun q => gf 9 q (by omega) (by omega) (by omega) (by omega)) (fun q => gf 10 q (by omega) (by omega) (by omega) (by omega)) hF
      have go := gf 14 4 (by decide) (by decide) (by decide) (by omega)
      clear eg
      refine r_istore_n (L' := [_, _, _, _]) dX3_readStatement_75 rfl rfl (by decide) rfl ?_
      refine r_iload_n dX3_readStatement_76 rfl rfl ?_
      refine r_bipush dX3_readStatement_77 (by decide +kernel) ?_
      refine r_icmp_ne (tgt := 90) dX3_readStatement_79 rfl ⟨by decide, by decide⟩ ⟨by decide, by decide⟩ (fun c_79 => ?_) (fun c_79 => absurd c_79 (by decide))
      refine r_aload_n dX3_readStatement_90 rfl rfl ?_
      refine r_iload_n dX3_readStatement_91 rfl rfl ?_
      refine r_iload_n dX3_readStatement_92 rfl rfl ?_
      refine r_callVU (av := [_, _]) (M' := mX3_readNumbers) dX3_readStatement_93 vX3_readNumbers ml_X3_72 sh_14 (by decide) rfl rfl rfl rfl (by simp [wtA]) (sp_rnClip (n := n) (i := i) (s := tE3 (h 3) n s) (by omega) gx gp (by omega) (fun h_93 f0_93 f1_93 f2_93 f3_93 f4_93 f5_93 => ?_))
      rw [g3] at f1_93 f2_93 f3_93 f4_93 f5_93
      refine r_aload_n dX3_readStatement_96 rfl rfl ?_
      refine r_bipush dX3_readStatement_97 (by decide +kernel) ?_
      refine r_callVU (av := [_]) (M' := mX3_takeSign) dX3_readStatement_99 vX3_takeSign ml_X3_76 sh_14 (by decide) rfl rfl rfl rfl (by simp [wtA]) (sp_X3_takeSign (by omega) (f0_93.tx gx) f1_93 (by omega) (fun h_99 f0_99 f1_99 => ?_))
      refine r_vret dX3_readStatement_102 rfl ?_
      rw [f0_93.b, g3] at f1_99
      have fu : FrS i g h_99 := f0_93.tr (FrS.of f0_99)
      refine ⟨rfl, k _ ⟨fun a q z => ?_, by rw [fu 14 4 (by decide) (by decide) (by omega) (by omega), go]; exact ho, Or.inr (Or.inr ⟨by omega, nb, ?_, fun z => ?_⟩)⟩⟩
      · rw [fu a q (by omega) (by omega) (by omega) (by omega)]
        exact gf a q (by omega) (by omega) (by omega) (by omega)
      · rw [← vb]; exact f1_99
      · rw [← vb] at z ⊢
        exact ⟨⟨by rw [fu 4 0 (by omega) (by omega) (by omega) (by omega)]; exact gs, fun q hq => ⟨by rw [fu 5 q (by omega) (by omega) (by omega) (by omega)]; exact gf 5 q (by omega) (by omega) (by omega) (by omega), by rw [fu 6 q (by omega) (by omega) (by omega) (by omega)]; exact gf 6 q (by omega) (by omega) (by omega) (by omega), by rw [fu 7 q (by omega) (by omega) (by omega) (by omega)]; exact gf 7 q (by omega) (by omega) (by omega) (by omega)⟩, fun q hq => by rw [fu 8 q (by omega) (by omega) (by omega) (by omega)]; exact gf 8 q (by omega) (by omega) (by omega) (by omega), by rw [fu 5 i (by omega) (by omega) (by omega) (by omega)]; exact g5, by rw [fu 6 i (by omega) (by omega) (by omega) (by omega)]; exact g6⟩, fun y => absurd y (by decide), fun _ => ⟨by rw [fu 4 1 (by omega) (by omega) (by omega) (by omega)]; exact gf 4 1 (by decide) (by decide) (by decide) (by omega), fun a q y1 y2 => by rw [fu a q (by omega) (by omega) (by omega) (by omega)]; exact gf a q (by omega) (by omega) (by omega) (by omega)⟩, fun _ => ⟨by rw [fu 14 4 (by omega) (by omega) (by omega) (by omega)]; exact go, fun q => by rw [fu 15 q (by omega) (by omega) (by omega) (by omega)]; exact gf 15 q (by omega) (by omega) (by omega) (by omega)⟩, ⟨fun y => absurd y (by decide), fun y => absurd y (by decide), fun y => absurd y (by decide), fun y => absurd y (by decide), fun _ q hq => by
          rw [f0_99 8 _ (by omega) (by omega)]
          match q, hq with
          | 0, _ => exact f2_93
          | 1, _ => exact f3_93
          | 2, _ => exact f4_93
          | 3, _ => exact f5_93, fun y => absurd y (by decide)⟩⟩
  · subst e
    refine r_iload_n dX3_readStatement_5 rfl rfl ?_
    refine r_iconst dX3_readStatement_6 ?_
    refine r_icmp_ne (tgt := 16) dX3_readStatement_7 rfl ⟨by decide, by decide⟩ ⟨by decide, by decide⟩ (fun c_7 => ?_) (fun c_7 => absurd c_7 (by decide))
    refine r_iload_n dX3_readStatement_16 rfl rfl ?_
    refine r_if_ne (tgt := 36) dX3_readStatement_17 rfl ⟨by decide, by decide⟩ (fun c_17 => ?_) (fun c_17 => absurd c_17 (by decide))
    refine r_iconst dX3_readStatement_36 ?_
    refine r_istore_n (L' := [_, _, _, _]) dX3_readStatement_37 rfl rfl (by decide) rfl ?_
    refine r_aload_n dX3_readStatement_38 rfl rfl ?_
    refine r_getR dX3_readStatement_39 fl_X3_29 sh_14 rfl ?_
    refine r_getI dX3_readStatement_42 fl_X3_33 sh_4 rfl ?_
    refine r_bipush dX3_readStatement_45 (by decide +kernel) ?_
    refine r_icmp_ge (tgt := 54) dX3_readStatement_47 rfl (by omega) ⟨by decide, by decide⟩ (fun c_47 => ?_) (fun c_47 => ?_)
    · refine r_aload_n dX3_readStatement_54 rfl rfl ?_
      refine r_iconst dX3_readStatement_55 ?_
      refine r_callVU (av := [_]) (M' := mX3_fail) dX3_readStatement_56 vX3_fail ml_X3_58 sh_14 (by decide) rfl rfl rfl rfl (by simp [wtA]) (sp_X3_fail (by omega) hx hp (by omega) (fun h_56 f0_56 f1_56 => ?_))
      refine r_vret dX3_readStatement_59 rfl ?_
      refine ⟨rfl, k _ ⟨fun a q z => f0_56 a q (by omega) (by omega), by rw [f0_56 14 4 (by decide) (by decide)]; exact ho, Or.inr (Or.inl ⟨by omega, ?_, f1_56⟩)⟩⟩
      first
        | exact Or.inl (by omega)
        | exact Or.inr ⟨by omega, by omega⟩
    · refine r_iload_n dX3_readStatement_50 rfl rfl ?_
      refine r_if_eq (tgt := 60) dX3_readStatement_51 rfl ⟨by decide, by decide⟩ (fun c_51 => ?_) (fun c_51 => absurd c_51 (by decide))
      refine r_aload_n dX3_readStatement_60 rfl rfl ?_
      refine r_getR dX3_readStatement_61 fl_X3_25 sh_14 rfl ?_
      refine r_callVU (av := []) (M' := mX8_step) dX3_readStatement_64 vX8_step ml_X3_52 sh_2 (by decide) rfl rfl rfl rfl (by simp [wtA]) (sp_X8_step (n := n) (p := tE (h 3) n s.1) (by omega) ⟨hx.1, hx.2.1⟩ ⟨hp.1.2.2.1, (tE_r hp.2.2.2.1).2.1⟩ hx.2.2 (fun h_64 f0_64 f1_64 => ?_))
      have nb : ¬ (60 ≤ i ∨ (vbF (h 3) n s.1 = 0 ∧ 8 ≤ F)) := by omega
      have st := hp.step f0_64 f1_64
      have s4 := st.2 4 0 (by decide) (by decide)
      have eI : (h_64 4 0).toNat = i := by omega
      refine r_aload_n dX3_readStatement_67 rfl rfl ?_
      refine r_getR dX3_readStatement_68 fl_X3_29 sh_14 rfl ?_
      refine r_iload_n dX3_readStatement_71 rfl rfl ?_
      refine r_callVI (av := [_]) (M' := mX7_add) dX3_readStatement_72 vX7_add ml_X3_65 sh_4 (by decide) rfl rfl rfl rfl (by simp [wtA]) (sp_X7_add (by omega) (by omega) ?_)
      rw [eI, show h_64 4 0 = (i : Int) by omega]
      refine r_gh (fun g eg => ?_)
      have gp : PS g n (tE3 (h 3) n s) := by
        rw [eg]
        exact (((st.1.up (by decide) (by decide) (by omega)).up (by decide) (by decide) (by omega)).up (by decide) (by decide) (by omega)).up (by decide) (by decide) (by decide)
      have gx : TX g n := by rw [eg]; exact ((((st.2.tx hx).up (by decide) (by decide)).up (by decide) (by decide)).up (by decide) (by decide)).up (by decide) (by decide)
      have gs : g 4 0 = h 4 0 + 1 := by rw [eg, up_s]; omega
      have g5 : g 5 i = 6 := by rw [eg, up_nc (by decide), up_nc (by decide), up_nc (by decide), up_s]
      have g6 : g 6 i = i := by rw [eg, up_nc (by decide), up_nc (by decide), up_s]
      have gf : ∀ a k, ¬ (a = 2 ∧ (k = 1 ∨ k = 2 ∨ k = 3 ∨ k = 4)) → ¬ (a = 14 ∧ (k = 2 ∨ k = 3)) → ¬ (a = 4 ∧ k = 0) → ¬ ((a = 5 ∨ a = 6 ∨ a = 7) ∧ k = i) → g a k = h a k := fun a q z1 z2 z3 z4 => by
        rw [eg]
        unfold upH
        rw [if_neg (by omega), if_neg (by omega), if_neg (by omega), if_neg (by omega)]
        exact st.2 a q z1 z2
      have g3 : g 3 = h 3 := funext fun j => gf 3 j (by omega) (by omega) (by omega) (by omega)
      have gi : fiH g n (tE3 (h 3) n s).1 F = fiH h n (tE (h 3) n s.1) F := fiH_cg g3 (fun q => gf 9 q (by omega) (by omega) (by omega) (by omega)) (fun q => gf 10 q (by omega) (by omega) (by omega) (by omega))
      have gF : NF g F := NF_cg g3 (gf 4 1 (by decide) (by decide) (by decide) (by omega)) (fun q => gf 9 q (by omega) (by omega) (by omega) (by omega)) (fun q => gf 10 q (by omega) (by omega) (by omega) (by omega)) hF
      have go := gf 14 4 (by decide) (by decide) (by decide) (by omega)
      clear eg
      refine r_istore_n (L' := [_, _, _, _]) dX3_readStatement_75 rfl rfl (by decide) rfl ?_
      refine r_iload_n dX3_readStatement_76 rfl rfl ?_
      refine r_bipush dX3_readStatement_77 (by decide +kernel) ?_
      refine r_icmp_ne (tgt := 90) dX3_readStatement_79 rfl ⟨by decide, by decide⟩ ⟨by decide, by decide⟩ (fun c_79 => absurd c_79 (by decide)) (fun c_79 => ?_)
      refine r_aload_n dX3_readStatement_82 rfl rfl ?_
      refine r_iload_n dX3_readStatement_83 rfl rfl ?_
      refine r_callVU (av := [_]) (M' := mX3_readAgain) dX3_readStatement_84 vX3_readAgain ml_X3_69 sh_14 (by decide) rfl rfl rfl rfl (by simp [wtA]) (sp_X3_readAgain (n := n) (i := i) (s := tE3 (h 3) n s) (by omega) gx gp (by omega) (by omega) (fun h_84 f0_84 f1_84 f2_84 f3_84 f4_84 f5_84 f6_84 => ?_) (fun h_84 f0_84 f1_84 f2_84 => ?_))
      · refine r_goto (tgt := 102) dX3_readStatement_87 rfl ?_
        refine r_vret dX3_readStatement_102 rfl ?_
        rw [g3, go] at f1_84 f3_84
        rw [g3] at f2_84
        rw [go] at f4_84 f5_84 f0_84 f6_84
        have fu : ∀ a k, ¬ (a = 2 ∧ (k = 1 ∨ k = 2 ∨ k = 3 ∨ k = 4)) → ¬ (a = 14 ∧ (k = 2 ∨ k = 3)) → ¬ (a = 8 ∧ 5 * i ≤ k ∧ k < 5 * i + 5) → ¬ (a = 7 ∧ k = i) → ¬ (a = 14 ∧ k = 4) → ¬ (a = 15 ∧ k = (h 14 4).toNat) → h_84 a k = g a k := f0_84
        refine ⟨rfl, k _ ⟨fun a q z => ?_, by omega, Or.inr (Or.inr ⟨by omega, nb, ?_, fun z => ?_⟩)⟩⟩
        · rw [fu a q (by omega) (by omega) (by omega) (by omega) (by omega) (by omega)]
          exact gf a q (by omega) (by omega) (by omega) (by omega)
        · rw [← vb]; exact f1_84
        · rw [← vb] at z ⊢
          exact ⟨⟨by rw [fu 4 0 (by omega) (by omega) (by omega) (by omega) (by omega) (by omega)]; exact gs, fun q hq => ⟨by rw [fu 5 q (by omega) (by omega) (by omega) (by omega) (by omega) (by omega)]; exact gf 5 q (by omega) (by omega) (by omega) (by omega), by rw [fu 6 q (by omega) (by omega) (by omega) (by omega) (by omega) (by omega)]; exact gf 6 q (by omega) (by omega) (by omega) (by omega), by rw [fu 7 q (by omega) (by omega) (by omega) (by omega) (by omega) (by omega)]; exact gf 7 q (by omega) (by omega) (by omega) (by omega)⟩, fun q hq => by rw [fu 8 q (by omega) (by omega) (by omega) (by omega) (by omega) (by omega)]; exact gf 8 q (by omega) (by omega) (by omega) (by omega), by rw [fu 5 i (by omega) (by omega) (by omega) (by omega) (by omega) (by omega)]; exact g5, by rw [fu 6 i (by omega) (by omega) (by omega) (by omega) (by omega) (by omega)]; exact g6⟩, fun y => absurd y (by decide), fun _ => ⟨by rw [fu 4 1 (by omega) (by omega) (by omega) (by omega) (by omega) (by omega)]; exact gf 4 1 (by decide) (by decide) (by decide) (by omega), fun a q y1 y2 => by rw [fu a q (by omega) (by omega) (by omega) (by omega) (by omega) (by omega)]; exact gf a q (by omega) (by omega) (by omega) (by omega)⟩, fun y => absurd rfl y, ⟨fun y => absurd y (by decide), fun y => absurd y (by decide), fun y => absurd y (by decide), fun y => absurd y (by decide), fun y => absurd y (by decide), fun _ => ⟨f2_84, f4_84, f5_84, fun q hq => by rw [fu 15 q (by omega) (by omega) (by omega) (by omega) (by omega) (by omega)]; exact gf 15 q (by omega) (by omega) (by omega) (by omega)⟩⟩⟩
      · refine r_goto (tgt := 102) dX3_readStatement_87 rfl ?_
        refine r_vret dX3_readStatement_102 rfl ?_
        rw [g3, go] at f1_84 f2_84
        refine ⟨rfl, k _ ⟨fun a q z => ?_, by rw [f0_84 14 4 (by decide) (by decide) (by omega) (by omega), go]; exact ho, Or.inr (Or.inr ⟨by omega, nb, ?_, fun z => ?_⟩)⟩⟩
        · rw [f0_84 a q (by omega) (by omega) (by omega) (by omega)]
          exact gf a q (by omega) (by omega) (by omega) (by omega)
        · rw [← vb]; exact f1_84
        · rw [← vb] at z
          exact absurd z f2_84
