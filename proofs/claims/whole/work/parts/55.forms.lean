/-! FORMS, THE CLASS -/
abbrev ptP (b : Nat → Int) (n j : Nat) (s : Sg) : Prop := s.2.1 = 0 ∧ (j = 0 ∨ tK b n s.1 = 2)
def sqS (b : Nat → Int) (n : Nat) (s : Sg) : Nat → Sg
  | 0 => s
  | j + 1 => if ptP b n j (sqS b n s j) then nuS b n 0 99 (nuS b n 0 99 (sqS b n s j)) else sqS b n s j
def sqC (b : Nat → Int) (n : Nat) (s : Sg) : Nat → Nat
  | 0 => 0
  | j + 1 => if ptP b n j (sqS b n s j) then sqC b n s j + 1 else sqC b n s j
noncomputable def foS (b : Nat → Int) (n : Nat) (fi : Int) (s : Sg) : Sg := if tK b n (sqS b n (ffS b n fi s) 12).1 = 2 then flS b n 2 (sqS b n (ffS b n fi s) 12) else sqS b n (ffS b n fi s) 12
theorem sq_st {b : Nat → Int} {n : Nat} {s : Sg} : ∀ j : Nat, sqC b n s j ≤ j ∧ (sqC b n s j < j → ¬ ptP b n 1 (sqS b n s j))
  | 0 => by rw [sqC]; omega
  | j + 1 => by
    have i := sq_st (b := b) (n := n) (s := s) j
    rw [sqC, sqS]
    by_cases c : ptP b n j (sqS b n s j)
    · rw [if_pos c, if_pos c]
      have e : sqC b n s j = j := by
        rcases Nat.lt_or_ge (sqC b n s j) j with y | y
        · exfalso
          refine i.2 y ⟨c.1, ?_⟩
          rcases c.2 with z | z
          · omega
          · exact Or.inr z
        · omega
      omega
    · rw [if_neg c, if_neg c]
      refine ⟨by omega, fun _ z => c ⟨z.1, ?_⟩⟩
      rcases z.2 with y | y
      · omega
      · exact Or.inr y
theorem sq_c {b : Nat → Int} {n : Nat} {s : Sg} {j : Nat} (c : ptP b n j (sqS b n s j)) : sqC b n s j = j := by
  have i := sq_st (b := b) (n := n) (s := s) j
  rcases Nat.lt_or_ge (sqC b n s j) j with y | y
  · exfalso
    refine i.2 y ⟨c.1, ?_⟩
    rcases c.2 with z | z
    · omega
    · exact Or.inr z
  · omega
theorem sq_f {b : Nat → Int} {n : Nat} {s : Sg} (h : ¬ s.2.1 = 0) : ∀ j : Nat, sqS b n s j = s
  | 0 => rfl
  | j + 1 => by rw [sqS, sq_f h j, if_neg (fun z => h z.1)]
abbrev FrF (F : Nat) (h g : Hp) : Prop := ∀ a k, ¬ (a = 2 ∧ (k = 1 ∨ k = 2 ∨ k = 3 ∨ k = 4)) → ¬ (a = 14 ∧ (k = 2 ∨ k = 3)) → ¬ (a = 4 ∧ k = 1) → ¬ ((a = 9 ∨ a = 10 ∨ a = 11) ∧ k = F) → ¬ ((a = 12 ∨ a = 13) ∧ 12 * F ≤ k ∧ k < 12 * F + 12) → g a k = h a k
abbrev FoK (h g : Hp) (n F : Nat) (t : Sg) (j : Nat) : Prop := g 11 F = sqC (h 3) n t j ∧ ∀ q : Nat, q < sqC (h 3) n t j → g 12 (12 * F + q) = nuV (h 3) n 0 99 (sqS (h 3) n t q) ∧ g 13 (12 * F + q) = nuV (h 3) n 0 99 (nuS (h 3) n 0 99 (sqS (h 3) n t q))
set_option maxRecDepth 20000 in
set_option maxHeartbeats 400000 in
theorem lp_readForm {d : Nat} (hd : 4 ≤ d) {P : Hp → Prop} {h h1 : Hp} {n F : Nat} {t : Sg} (hF : F < 8) (k : ∀ g : Hp, TX g n → PS g n (if tK (h 3) n (sqS (h 3) n t 12).1 = 2 then flS (h 3) n 2 (sqS (h 3) n t 12) else sqS (h 3) n t 12) → g 3 = h 3 → FrF F h g → (g 4 1 = h1 4 1 ∧ g 9 F = h1 9 F ∧ g 10 F = h1 10 F) → FoK h g n F t 12 → P g) : ∀ (nn : Nat) (j : Nat) (g : Hp) (o3 o4 : Option AV), (j ≤ 12) → (TX g n) → (PS g n (sqS (h 3) n t j)) → (g 3 = h 3) → (FrF F h g) → (g 4 1 = h1 4 1 ∧ g 9 F = h1 9 F ∧ g 10 F = h1 10 F) → (FoK h g n F t j) → 12 - j < nn → WW mX3_readForm (d + 1) (pV P) 56 [some (.inr (.inr 14)), some (.inl (F : Int)), some (.inl (j : Int)), o3, o4] [] g := by
  intro nn
  induction nn with
  | zero => intro j g o3 o4 hj gx gp g3 gf gn gk; intros; omega
  | succ nn ih =>
    intro j g o3 o4 hj gx gp g3 gf gn gk hmu
    have pr := gp.r
    have q1 := gp.2.1
    have tk := gp.1.1
    rw [g3] at tk
    have eF : ((F : Int)).toNat = F := Int.toNat_natCast F
    have sc := sq_st (b := h 3) (n := n) (s := t) j
    refine r_iload_n dX3_readForm_56 rfl rfl ?_
    refine r_bipush dX3_readForm_57 (by decide +kernel) ?_
    refine r_icmp_ge (tgt := 118) dX3_readForm_59 rfl (by omega) ⟨by decide, by decide⟩ (fun c_59 => ?_) (fun c_59 => ?_)
    · refine r_aload_n dX3_readForm_118 rfl rfl ?_
      refine r_getR dX3_readForm_119 fl_X3_25 sh_14 rfl ?_
      refine r_getI dX3_readForm_122 fl_X3_46 sh_2 rfl ?_
      refine r_iconst dX3_readForm_125 ?_
      refine r_icmp_ne (tgt := 134) dX3_readForm_126 rfl (by omega) ⟨by decide, by decide⟩ (fun c_126 => ?_) (fun c_126 => ?_)
      · refine r_vret dX3_readForm_134 rfl ?_
        have e : j = 12 := by omega
        subst e
        exact ⟨rfl, k g gx (by rw [if_neg (by omega)]; exact gp) g3 gf gn gk⟩
      · refine r_aload_n dX3_readForm_129 rfl rfl ?_
        refine r_iconst dX3_readForm_130 ?_
        refine r_callVU (av := [_]) (M' := mX3_fail) dX3_readForm_131 vX3_fail ml_X3_58 sh_14 (by decide) rfl rfl rfl rfl (by simp [wtA]) (sp_X3_fail (by omega) gx gp (by omega) (fun h_131 f0_131 f1_131 => ?_))
        refine r_vret dX3_readForm_134 rfl ?_
        have e : j = 12 := by omega
        subst e
        exact ⟨rfl, k _ (f0_131.tx gx) (by rw [if_pos (by omega)]; rw [g3] at f1_131; exact f1_131) (f0_131.b.trans g3) (fun a q z1 z2 z3 z4 z5 => (f0_131 a q z1 z2).trans (gf a q z1 z2 z3 z4 z5)) ⟨(f0_131 4 1 (by decide) (by decide)).trans gn.1, (f0_131 9 F (by omega) (by omega)).trans gn.2.1, (f0_131 10 F (by omega) (by omega)).trans gn.2.2⟩ ⟨(f0_131 11 F (by omega) (by omega)).trans gk.1, fun q hq => by rw [f0_131 12 _ (by omega) (by omega), f0_131 13 _ (by omega) (by omega)]; exact gk.2 q hq⟩⟩
    · refine r_aload_n dX3_readForm_62 rfl rfl ?_
      refine r_getI dX3_readForm_63 fl_X3_9 sh_14 rfl ?_
      refine r_if_ne (tgt := 112) dX3_readForm_66 rfl (by omega) (fun c_66 => ?_) (fun c_66 => ?_)
      · refine r_iinc (L' := [_, _, _, _, _]) dX3_readForm_112 rfl rfl (by decide) rfl ?_
        refine r_goto (tgt := 56) dX3_readForm_115 rfl ?_
        have cc : ¬ ptP (h 3) n j (sqS (h 3) n t j) := by
          rintro ⟨z1, z2⟩
          omega
        refine ih (j + 1) g _ _ (by omega) gx (by rw [sqS, if_neg cc]; exact gp) g3 gf gn ⟨by rw [sqC, if_neg cc]; exact gk.1, fun q hq => ?_⟩ (by omega)
        rw [sqC, if_neg cc] at hq
        exact gk.2 q hq
      · refine r_iload_n dX3_readForm_69 rfl rfl ?_
        refine r_if_eq (tgt := 84) dX3_readForm_70 rfl (by omega) (fun c_70 => ?_) (fun c_70 => ?_)
        · have cc : ptP (h 3) n j (sqS (h 3) n t j) := by constructor <;> omega
          have ce := sq_c cc
          refine r_aload_n dX3_readForm_84 rfl rfl ?_
          refine r_iconst dX3_readForm_85 ?_
          refine r_bipush dX3_readForm_86 (by decide +kernel) ?_
          refine r_callVI (av := [_, _]) (M' := mX3_takeNumber) dX3_readForm_88 vX3_takeNumber ml_X3_103 sh_14 (by decide) rfl rfl rfl rfl (by simp [wtA]) (sp_X3_takeNumber (by omega) gx gp (by omega) (by omega) (fun h_88 f0_88 f1_88 => ?_))
          rw [g3]
          refine r_istore_n (L' := [_, _, _, _, _]) dX3_readForm_91 rfl rfl (by decide) rfl ?_
          refine r_aload_n dX3_readForm_92 rfl rfl ?_
          refine r_iconst dX3_readForm_93 ?_
          refine r_bipush dX3_readForm_94 (by decide +kernel) ?_
          refine r_callVI (av := [_, _]) (M' := mX3_takeNumber) dX3_readForm_96 vX3_takeNumber ml_X3_103 sh_14 (by decide) rfl rfl rfl rfl (by simp [wtA]) (sp_X3_takeNumber (by omega) (f0_88.tx gx) f1_88 (by omega) (by omega) (fun h_96 f0_96 f1_96 => ?_))
          rw [f0_88.b, g3]
          refine r_istore (L' := [_, _, _, _, _]) dX3_readForm_99 rfl (by decide) rfl ?_
          refine r_aload_n dX3_readForm_101 rfl rfl ?_
          refine r_getR dX3_readForm_102 fl_X3_29 sh_14 rfl ?_
          refine r_iload_n dX3_readForm_105 rfl rfl ?_
          refine r_iload_n dX3_readForm_106 rfl rfl ?_
          refine r_iload dX3_readForm_107 rfl ?_
          have ff : FrP g h_96 := f0_88.tr f0_96
          have e11 : h_96 11 F = j := by rw [ff 11 F (by omega) (by omega), gk.1, ce]
          refine r_callVU (av := [_, _, _]) (M' := mX7_addPoint) dX3_readForm_109 vX7_addPoint ml_X3_131 sh_4 (by decide) rfl rfl rfl rfl (by simp [wtA]) (sp_X7_addPoint (by omega) (by omega) (by rw [eF, e11]; omega) ?_)
          refine r_iinc (L' := [_, _, _, _, _]) dX3_readForm_112 rfl rfl (by decide) rfl ?_
          refine r_goto (tgt := 56) dX3_readForm_115 rfl ?_
          rw [eF, e11, show (12 * (F : Int) + (j : Int)).toNat = 12 * F + j by omega]
          have e3 : h_96 3 = h 3 := ff.b.trans g3
          have es : sqS (h 3) n t (j + 1) = nuS (h 3) n 0 99 (nuS (h 3) n 0 99 (sqS (h 3) n t j)) := by rw [sqS, if_pos cc]
          have ec : sqC (h 3) n t (j + 1) = j + 1 := by rw [sqC, if_pos cc, ce]
          have p96 : PS h_96 n (sqS (h 3) n t (j + 1)) := by
            rw [es]
            rw [g3] at f1_88 f1_96
            rw [f0_88.b, g3] at f1_96
            exact f1_96
          refine ih (j + 1) _ _ _ (by omega) ((((ff.tx gx).up (by decide) (by decide)).up (by decide) (by decide)).up (by decide) (by decide)) (((p96.up (by decide) (by decide) (by omega)).up (by decide) (by decide) (by omega)).up (by decide) (by decide) (by omega)) ?_ (fun a q z1 z2 z3 z4 z5 => ?_) ⟨?_, ?_, ?_⟩ ⟨?_, fun q hq => ?_⟩ (by omega)
          · exact e3
          · unfold upH
            rw [if_neg (by omega), if_neg (by omega), if_neg (by omega), ff a q z1 z2]
            exact gf a q z1 z2 z3 z4 z5
          · rw [up_nc (by decide), up_nc (by decide), up_nc (by decide), ff 4 1 (by decide) (by decide)]; exact gn.1
          · rw [up_nc (by decide), up_nc (by decide), up_nc (by decide), ff 9 F (by omega) (by omega)]; exact gn.2.1
          · rw [up_nc (by decide), up_nc (by decide), up_nc (by decide), ff 10 F (by omega) (by omega)]; exact gn.2.2
          · rw [up_s, ec]; rfl
          · by_cases z : q = j
            · refine ⟨?_, ?_⟩
              · rw [z, up_nc (by decide), up_nc (by decide), up_s]
              · rw [z, up_nc (by decide), up_s]
            · have gq := gk.2 q (by omega)
              refine ⟨?_, ?_⟩
              · rw [up_nc (by decide), up_nc (by decide), up_nk (by omega), ff 12 _ (by omega) (by omega)]
                exact gq.1
              · rw [up_nc (by decide), up_nk (by omega), up_nc (by decide), ff 13 _ (by omega) (by omega)]
                exact gq.2
        · refine r_aload_n dX3_readForm_73 rfl rfl ?_
          refine r_getR dX3_readForm_74 fl_X3_25 sh_14 rfl ?_
          refine r_getI dX3_readForm_77 fl_X3_46 sh_2 rfl ?_
          refine r_iconst dX3_readForm_80 ?_
          refine r_icmp_ne (tgt := 112) dX3_readForm_81 rfl (by omega) ⟨by decide, by decide⟩ (fun c_81 => ?_) (fun c_81 => ?_)
          · refine r_iinc (L' := [_, _, _, _, _]) dX3_readForm_112 rfl rfl (by decide) rfl ?_
            refine r_goto (tgt := 56) dX3_readForm_115 rfl ?_
            have cc : ¬ ptP (h 3) n j (sqS (h 3) n t j) := by
              rintro ⟨z1, z2⟩
              omega
            refine ih (j + 1) g _ _ (by omega) gx (by rw [sqS, if_neg cc]; exact gp) g3 gf gn ⟨by rw [sqC, if_neg cc]; exact gk.1, fun q hq => ?_⟩ (by omega)
            rw [sqC, if_neg cc] at hq
            exact gk.2 q hq
          · have cc : ptP (h 3) n j (sqS (h 3) n t j) := by constructor <;> omega
            have ce := sq_c cc
            refine r_aload_n dX3_readForm_84 rfl rfl ?_
            refine r_iconst dX3_readForm_85 ?_
            refine r_bipush dX3_readForm_86 (by decide +kernel) ?_
            refine r_callVI (av := [_, _]) (M' := mX3_takeNumber) dX3_readForm_88 vX3_takeNumber ml_X3_103 sh_14 (by decide) rfl rfl rfl rfl (by simp [wtA]) (sp_X3_takeNumber (by omega) gx gp (by omega) (by omega) (fun h_88 f0_88 f1_88 => ?_))
            rw [g3]
            refine r_istore_n (L' := [_, _, _, _, _]) dX3_readForm_91 rfl rfl (by decide) rfl ?_
            refine r_aload_n dX3_readForm_92 rfl rfl ?_
            refine r_iconst dX3_readForm_93 ?_
            refine r_bipush dX3_readForm_94 (by decide +kernel) ?_
            refine r_callVI (av := [_, _]) (M' := mX3_takeNumber) dX3_readForm_96 vX3_takeNumber ml_X3_103 sh_14 (by decide) rfl rfl rfl rfl (by simp [wtA]) (sp_X3_takeNumber (by omega) (f0_88.tx gx) f1_88 (by omega) (by omega) (fun h_96 f0_96 f1_96 => ?_))
            rw [f0_88.b, g3]
            refine r_istore (L' := [_, _, _, _, _]) dX3_readForm_99 rfl (by decide) rfl ?_
            refine r_aload_n dX3_readForm_101 rfl rfl ?_
            refine r_getR dX3_readForm_102 fl_X3_29 sh_14 rfl ?_
            refine r_iload_n dX3_readForm_105 rfl rfl ?_
            refine r_iload_n dX3_readForm_106 rfl rfl ?_
            refine r_iload dX3_readForm_107 rfl ?_
            have ff : FrP g h_96 := f0_88.tr f0_96
            have e11 : h_96 11 F = j := by rw [ff 11 F (by omega) (by omega), gk.1, ce]
            refine r_callVU (av := [_, _, _]) (M' := mX7_addPoint) dX3_readForm_109 vX7_addPoint ml_X3_131 sh_4 (by decide) rfl rfl rfl rfl (by simp [wtA]) (sp_X7_addPoint (by omega) (by omega) (by rw [eF, e11]; omega) ?_)
            refine r_iinc (L' := [_, _, _, _, _]) dX3_readForm_112 rfl rfl (by decide) rfl ?_
            refine r_goto (tgt := 56) dX3_readForm_115 rfl ?_
            rw [eF, e11, show (12 * (F : Int) + (j : Int)).toNat = 12 * F + j by omega]
            have e3 : h_96 3 = h 3 := ff.b.trans g3
            have es : sqS (h 3) n t (j + 1) = nuS (h 3) n 0 99 (nuS (h 3) n 0 99 (sqS (h 3) n t j)) := by rw [sqS, if_pos cc]
            have ec : sqC (h 3) n t (j + 1) = j + 1 := by rw [sqC, if_pos cc, ce]
            have p96 : PS h_96 n (sqS (h 3) n t (j + 1)) := by
              rw [es]
              rw [g3] at f1_88 f1_96
              rw [f0_88.b, g3] at f1_96
              exact f1_96
            refine ih (j + 1) _ _ _ (by omega) ((((ff.tx gx).up (by decide) (by decide)).up (by decide) (by decide)).up (by decide) (by decide)) (((p96.up (by decide) (by decide) (by omega)).up (by decide) (by decide) (by omega)).up (by decide) (by decide) (by omega)) ?_ (fun a q z1 z2 z3 z4 z5 => ?_) ⟨?_, ?_, ?_⟩ ⟨?_, fun q hq => ?_⟩ (by omega)
            · exact e3
            · unfold upH
              rw [if_neg (by omega), if_neg (by omega), if_neg (by omega), ff a q z1 z2]
              exact gf a q z1 z2 z3 z4 z5
            · rw [up_nc (by decide), up_nc (by decide), up_nc (by decide), ff 4 1 (by decide) (by decide)]; exact gn.1
            · rw [up_nc (by decide), up_nc (by decide), up_nc (by decide), ff 9 F (by omega) (by omega)]; exact gn.2.1
            · rw [up_nc (by decide), up_nc (by decide), up_nc (by decide), ff 10 F (by omega) (by omega)]; exact gn.2.2
            · rw [up_s, ec]; rfl
            · by_cases z : q = j
              · refine ⟨?_, ?_⟩
                · rw [z, up_nc (by decide), up_nc (by decide), up_s]
                · rw [z, up_nc (by decide), up_s]
              · have gq := gk.2 q (by omega)
                refine ⟨?_, ?_⟩
                · rw [up_nc (by decide), up_nc (by decide), up_nk (by omega), ff 12 _ (by omega) (by omega)]
                  exact gq.1
                · rw [up_nc (by decide), up_nk (by omega), up_nc (by decide), ff 13 _ (by omega) (by omega)]
                  exact gq.2
set_option maxRecDepth 20000 in
set_option maxHeartbeats 400000 in
theorem sp_X3_readForm {d : Nat} (hd : 7 ≤ d) {h : Hp} {n F : Nat} {s : Sg} (hx : TX h n) (hp : PS h n s) (hF : NF h F) (hF2 : F < 8) {P : Hp → Prop} (bad : ∀ h' : Hp, FrP h h' → PS h' n (ffS (h 3) n (fiH h n s.1 F) s) → ¬ (ffS (h 3) n (fiH h n s.1 F) s).2.1 = 0 → P h') (good : ∀ h' : Hp, PS h' n (foS (h 3) n (fiH h n s.1 F) s) → FrF F h h' → (h' 4 1 = F + 1 ∧ h' 9 F = tS (h 3) n s.1 ∧ h' 10 F = tE (h 3) n s.1) → FoK h h' n F (ffS (h 3) n (fiH h n s.1 F) s) 12 → P h') : Cl d mX3_readForm [.inr (.inr 14)] h (pV P) := by
  refine Cl.of (L := [some (.inr (.inr 14)), none, none, none, none]) (by decide +kernel) (Nat.le_of_ble_eq_true rfl) rfl ?_
  obtain ⟨d, rfl⟩ : ∃ q, d = q + 1 := ⟨d - 1, by omega⟩
  refine r_aload_n dX3_readForm_0 rfl rfl ?_
  refine r_callVU (av := []) (M' := mX3_checkName) dX3_readForm_1 vX3_checkName ml_X3_116 sh_14 (by decide) rfl rfl rfl rfl (by simp [wtA]) (sp_X3_checkName (by omega) hx hp (fun h_1 f0_1 f1_1 => ?_))
  have frb := f0_1.b
  have fv0 : ∀ x : Int, x = (if tK (h_1 3) n (cnS (h 3) n s).1 = 1 ∧ tE (h_1 3) n (cnS (h 3) n s).1 - tS (h_1 3) n (cnS (h 3) n s).1 ≤ 6 then fiH h_1 n (cnS (h 3) n s).1 F else -1) → x = (if tK (h 3) n s.1 = 1 ∧ tE (h 3) n s.1 - tS (h 3) n s.1 ≤ 6 then fiH h n s.1 F else -1) := fun x e => by rw [e, frb, f0_1.fi, cnS_1]
  have fr := fiN_r (g := nmF h) (z := pkF (h 3) (tS (h 3) n s.1) (tE (h 3) n s.1)) (n := F) (j := 0)
  have fvr : -1 ≤ (if tK (h 3) n s.1 = 1 ∧ tE (h 3) n s.1 - tS (h 3) n s.1 ≤ 6 then fiH h n s.1 F else -1) ∧ (if tK (h 3) n s.1 = 1 ∧ tE (h 3) n s.1 - tS (h 3) n s.1 ≤ 6 then fiH h n s.1 F else -1) < F := by
    split
    · exact ⟨fr.1, by have := fr.2; rw [Nat.zero_add] at this; exact this⟩
    · omega
  refine r_aload_n dX3_readForm_4 rfl rfl ?_
  refine r_callVI (av := []) (M' := mX3_formAtHand) dX3_readForm_5 vX3_formAtHand ml_X3_119 sh_14 (by decide) rfl rfl rfl rfl (by simp [wtA]) (sp_X3_formAtHand (by omega) (f0_1.tx hx) f1_1 (f0_1.nf hF) ?_)
  refine r_eqI (fv0 _ rfl) ?_
  refine r_iconst dX3_readForm_8 ?_
  refine r_icmp_eq (tgt := 17) dX3_readForm_9 rfl (by omega) ⟨by decide, by decide⟩ (fun c_9 => ?_) (fun c_9 => ?_)
  · refine r_aload_n dX3_readForm_17 rfl rfl ?_
    refine r_getI dX3_readForm_18 fl_X3_9 sh_14 rfl ?_
    refine r_if_eq (tgt := 25) dX3_readForm_21 rfl (by have := f1_1.r; omega) (fun c_21 => ?_) (fun c_21 => ?_)
    · have c0 : (cnS (h 3) n s).2.1 = 0 := by have := f1_1.2.1; omega
      have c1 := cnS_0.mp c0
      have eC : cnS (h 3) n s = s := cnS_g c1.2
      rw [eC] at f1_1
      have nf := f0_1.nf hF
      have i2 := f1_1.1.2.1
      have i3 := f1_1.1.2.2.1
      rw [frb] at i2 i3
      refine r_aload_n dX3_readForm_25 rfl rfl ?_
      refine r_getR dX3_readForm_26 fl_X3_29 sh_14 rfl ?_
      refine r_aload_n dX3_readForm_29 rfl rfl ?_
      refine r_getR dX3_readForm_30 fl_X3_25 sh_14 rfl ?_
      refine r_getI dX3_readForm_33 fl_X3_122 sh_2 rfl ?_
      refine r_aload_n dX3_readForm_36 rfl rfl ?_
      refine r_getR dX3_readForm_37 fl_X3_25 sh_14 rfl ?_
      refine r_getI dX3_readForm_40 fl_X3_125 sh_2 rfl ?_
      refine r_callVI (av := [_, _]) (M' := mX7_addForm) dX3_readForm_43 vX7_addForm ml_X3_128 sh_4 (by decide) rfl rfl rfl rfl (by simp [wtA]) (sp_X7_addForm (by omega) (by omega) ?_)
      rw [nf.1]
      refine r_istore_n (L' := [_, _, _, _, _]) dX3_readForm_46 rfl rfl (by decide) rfl ?_
      refine r_gh (fun g eg => ?_)
      rw [Int.toNat_natCast] at eg
      have gp : PS g n s := by
        rw [eg]
        exact (((f1_1.up (by decide) (by decide) (by omega)).up (by decide) (by decide) (by omega)).up (by decide) (by decide) (by omega)).up (by decide) (by decide) (by decide)
      have gx : TX g n := by rw [eg]; exact ((((f0_1.tx hx).up (by decide) (by decide)).up (by decide) (by decide)).up (by decide) (by decide)).up (by decide) (by decide)
      have g3 : g 3 = h 3 := by rw [eg]; exact frb
      have gn : g 4 1 = F + 1 := by rw [eg, up_s]
      have g9 : g 9 F = tS (h 3) n s.1 := by rw [eg, up_nc (by decide), up_nc (by decide), up_nc (by decide), up_s]; exact i2
      have g10 : g 10 F = tE (h 3) n s.1 := by rw [eg, up_nc (by decide), up_nc (by decide), up_s]; exact i3
      have g11 : g 11 F = 0 := by rw [eg, up_nc (by decide), up_s]
      have gf : FrF F h g := fun a q z1 z2 z3 z4 z5 => by
        rw [eg]
        unfold upH
        rw [if_neg (by omega), if_neg (by omega), if_neg (by omega), if_neg (by omega)]
        exact f0_1 a q z1 z2
      clear eg
      refine r_aload_n dX3_readForm_47 rfl rfl ?_
      refine r_getR dX3_readForm_48 fl_X3_25 sh_14 rfl ?_
      refine r_callVU (av := []) (M' := mX8_step) dX3_readForm_51 vX8_step ml_X3_52 sh_2 (by decide) rfl rfl rfl rfl (by simp [wtA]) (sp_X8_step (n := n) (p := tE (g 3) n s.1) (by omega) ⟨gx.1, gx.2.1⟩ ⟨gp.1.2.2.1, (tE_r gp.2.2.2.1).2.1⟩ gx.2.2 (fun h_51 f0_51 f1_51 => ?_))
      refine r_iconst dX3_readForm_54 ?_
      refine r_istore_n (L' := [_, _, _, _, _]) dX3_readForm_55 rfl rfl (by decide) rfl ?_
      have st := gp.step f0_51 f1_51
      have e : ffS (h 3) n (fiH h n s.1 F) s = (tE (g 3) n s.1, s.2.1, s.2.2) := by
        rw [g3]
        unfold ffS
        rw [if_pos c1.1, if_pos c1.2, if_neg (by rw [if_pos ⟨c1.2.1, c1.2.2.1⟩] at c_9; omega), c1.1]
      refine lp_readForm (h := h) (h1 := g) (F := F) (t := ffS (h 3) n (fiH h n s.1 F) s) (by omega) (by omega) (fun g2 y0 y1 y2 y3 y4 y5 => ?_) 13 0 _ _ _ (by omega) (st.2.tx gx) (by rw [e]; exact st.1) (st.2.b.trans g3) (fun a q z1 z2 z3 z4 z5 => (st.2 a q z1 z2).trans (gf a q z1 z2 z3 z4 z5)) ⟨st.2 4 1 (by decide) (by decide), st.2 9 F (by omega) (by omega), st.2 10 F (by omega) (by omega)⟩ ⟨by rw [st.2 11 F (by omega) (by omega)]; exact g11, fun q hq => absurd hq (Nat.not_lt_zero q)⟩ (by omega)
      exact good g2 y1 y3 ⟨y4.1.trans gn, y4.2.1.trans g9, y4.2.2.trans g10⟩ y5
    · refine r_vret dX3_readForm_24 rfl ?_
      have c0 : ¬ s.2.1 = 0 ∨ ¬ nmP (h 3) n s.1 := by
        by_cases z : s.2.1 = 0
        · right
          intro c
          have := cnS_0.mpr ⟨z, c⟩
          have := f1_1.2.1
          omega
        · exact Or.inl z
      have e : ffS (h 3) n (fiH h n s.1 F) s = cnS (h 3) n s := by
        unfold ffS
        by_cases z : s.2.1 = 0
        · rw [if_pos z, if_neg (c0.resolve_left (fun y => y z)), cnS_b z (c0.resolve_left (fun y => y z))]
        · rw [if_neg z, cnS_f z]
      exact ⟨rfl, bad _ f0_1 (by rw [e]; exact f1_1) (by rw [e]; have := f1_1.2.1; omega)⟩
  · refine r_aload_n dX3_readForm_12 rfl rfl ?_
    refine r_iconst dX3_readForm_13 ?_
    refine r_callVU (av := [_]) (M' := mX3_fail) dX3_readForm_14 vX3_fail ml_X3_58 sh_14 (by decide) rfl rfl rfl rfl (by simp [wtA]) (sp_X3_fail (by omega) (f0_1.tx hx) f1_1 (by omega) (fun h_14 f0_14 f1_14 => ?_))
    refine r_aload_n dX3_readForm_17 rfl rfl ?_
    refine r_getI dX3_readForm_18 fl_X3_9 sh_14 rfl ?_
    refine r_if_eq (tgt := 25) dX3_readForm_21 rfl (by have := f1_14.r; omega) (fun c_21 => absurd (by have := f1_14.2.1; omega) (flS_n (b := h_1 3) (n := n) (k := 3) (s := cnS (h 3) n s) (by decide))) (fun c_21 => ?_)
    refine r_vret dX3_readForm_24 rfl ?_
    have e : ffS (h 3) n (fiH h n s.1 F) s = flS (h_1 3) n 3 (cnS (h 3) n s) := by
      rw [frb]
      unfold ffS
      by_cases z : s.2.1 = 0
      · rw [if_pos z]
        by_cases c : nmP (h 3) n s.1
        · rw [if_pos c, cnS_g c, if_pos (by rw [if_pos ⟨c.1, c.2.1⟩] at c_9 fvr; omega)]
          unfold flS
          rw [if_pos z]
        · rw [if_neg c, cnS_b z c, flS_f (by show ¬ (1 : Int) = 0; decide)]
      · rw [if_neg z, cnS_f z, flS_f z]
    exact ⟨rfl, bad _ (f0_1.tr f0_14) (by rw [e]; exact f1_14) (by rw [e]; exact flS_n (by decide))⟩
