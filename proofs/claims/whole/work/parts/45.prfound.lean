/-! MENDED of the reference; pairs found, mended -/
set_option maxRecDepth 20000 in
set_option maxHeartbeats 400000 in
theorem lp_mended {d : Nat} {post : Pst} {h : Hp} {m q a l r : Int} {N : Nat} (hm : R32 m) (hN : (h 49 48) = N ∧ N ≤ 12) (hX : ∀ k : Nat, k < N → R32 (h 70 k)) (K : ∀ o : Option AV, WW mX12_mended (d + 1) post 117 [some (.inr (.inr 49)), some (.inl m), some (.inl q), some (.inl a), some (.inl l), some (.inl r), some (.inl (laF (h 70) m N)), o] [] h) : ∀ (nn : Nat) (j : Nat) (z : Int), (j ≤ N) → (z = laF (h 70) m j) → N - j < nn → WW mX12_mended (d + 1) post 82 [some (.inr (.inr 49)), some (.inl m), some (.inl q), some (.inl a), some (.inl l), some (.inl r), some (.inl z), some (.inl (j : Int))] [] h := by
  intro nn
  induction nn with
  | zero => intro j z hj hz; intros; omega
  | succ nn ih =>
    intro j z hj hz hmu
    have ej : ((j : Int)).toNat = j := Int.toNat_natCast j
    have lr := laF_r (h 70) m j
    refine r_iload dX12_mended_82 rfl ?_
    refine r_aload_n dX12_mended_84 rfl rfl ?_
    refine r_getI dX12_mended_85 fl_X12_177 sh_49 rfl ?_
    refine r_icmp_ge (tgt := 117) dX12_mended_88 rfl (by omega) (by omega) (fun c_88 => ?_) (fun c_88 => ?_)
    · have e : j = N := by omega
      subst e
      rw [← hz] at K
      exact K _
    · have xj := hX j (by omega)
      rw [← ej] at xj
      refine r_aload_n dX12_mended_91 rfl rfl ?_
      refine r_getR dX12_mended_92 fl_X12_91 sh_49 rfl ?_
      refine r_iload dX12_mended_95 rfl ?_
      refine r_iald dX12_mended_97 sh_70 (by decide) (by omega) ?_
      refine r_iload_n dX12_mended_98 rfl rfl ?_
      refine r_icmp_ge (tgt := 107) dX12_mended_99 rfl (by omega) (by omega) (fun c_99 => ?_) (fun c_99 => ?_)
      · refine r_iload dX12_mended_107 rfl ?_
        refine r_istore (L' := [_, _, _, _, _, _, _, _]) dX12_mended_109 rfl (by decide) rfl ?_
        refine r_iinc (L' := [_, _, _, _, _, _, _, _]) dX12_mended_111 rfl rfl (by decide) rfl ?_
        refine r_goto (tgt := 82) dX12_mended_114 rfl ?_
        refine ih (j + 1) _ (by omega) ?_ (by omega)
        rw [laF]
        rw [ej] at c_99
        first
          | (rw [if_pos (by omega)])
          | (rw [if_neg (by omega)]; exact hz)
      · refine r_iload dX12_mended_102 rfl ?_
        refine r_goto (tgt := 109) dX12_mended_104 rfl ?_
        refine r_istore (L' := [_, _, _, _, _, _, _, _]) dX12_mended_109 rfl (by decide) rfl ?_
        refine r_iinc (L' := [_, _, _, _, _, _, _, _]) dX12_mended_111 rfl rfl (by decide) rfl ?_
        refine r_goto (tgt := 82) dX12_mended_114 rfl ?_
        refine ih (j + 1) _ (by omega) ?_ (by omega)
        rw [laF]
        rw [ej] at c_99
        first
          | (rw [if_pos (by omega)])
          | (rw [if_neg (by omega)]; exact hz)
set_option maxRecDepth 20000 in
set_option maxHeartbeats 400000 in
theorem sp_X12_mended {d : Nat} (hd : 7 ≤ d) {m q a : Int} {h : Hp} {N : Nat} (hw : MOK h) (hm : R32 m) (hq2 : R32 q) (ha : R32 a) (hn : 0 ≤ (h 49 29) ∧ (h 49 29) ≤ 150) (hxy : MXY (h 49 3) (h 49 4) (h 60) (h 61) 0 (h 49 29)) (hX : ∀ k : Nat, (k : Int) < (h 49 48) → 0 ≤ h 70 k ∧ h 70 k < (h 49 29) ∧ R32 (h 71 k) ∧ R32 (h 72 k)) (hN : (h 49 48) = N ∧ N ≤ 12) (hs : ∀ j : Nat, j < 300 → -9 ≤ h 69 j ∧ h 69 j ≤ 9) {P : Int → Hp → Prop} (k : ∀ h' : Hp, (FrM h h') → P (fnMend (ftN (h 49 48) (h 49 5) (h 49 3) (h 49 6) (mL (h 49 5) (h 49 6) (h 60) (h 61)) (mR (h 49 3) (h 49 5) (h 49 6) (h 60) (h 61)) (h 70) (h 71) (h 72) q) N (h 49 3) (h 49 5) (h 49 6) (h 49 29) m q a (mL (h 49 5) (h 49 6) (h 60) (h 61)) (mR (h 49 3) (h 49 5) (h 49 6) (h 60) (h 61)) (h 69) (h 70)) h') : Cl d mX12_mended [.inr (.inr 49), .inl m, .inl q, .inl a] h (pI P) := by
  refine Cl.of (L := [some (.inr (.inr 49)), some (.inl m), some (.inl q), some (.inl a), none, none, none, none]) (by decide +kernel) (Nat.le_of_ble_eq_true rfl) rfl ?_
  obtain ⟨d, rfl⟩ : ∃ q, d = q + 1 := ⟨d - 1, by omega⟩
  refine r_aload_n dX12_mended_0 rfl rfl ?_
  refine r_iconst dX12_mended_1 ?_
  refine r_putI dX12_mended_2 fl_X12_127 sh_49 rfl ?_
  refine r_gh (fun g eg => ?_)
  have f : FrM h g := by rw [eg]; exact FrM.rf.up rfl
  have e3 : g 49 3 = h 49 3 := f 49 3 rfl
  have e4 : g 49 4 = h 49 4 := f 49 4 rfl
  have e5 : g 49 5 = h 49 5 := f 49 5 rfl
  have e6 : g 49 6 = h 49 6 := f 49 6 rfl
  have e7 : g 49 7 = h 49 7 := f 49 7 rfl
  have e8 : g 49 8 = h 49 8 := f 49 8 rfl
  have e29 : g 49 29 = h 49 29 := f 49 29 rfl
  have e48 : g 49 48 = h 49 48 := f 49 48 rfl
  have ea60 : g 60 = h 60 := funext fun j => f 60 j rfl
  have ea61 : g 61 = h 61 := funext fun j => f 61 j rfl
  have ea69 : g 69 = h 69 := funext fun j => f 69 j rfl
  have ea70 : g 70 = h 70 := funext fun j => f 70 j rfl
  have ea71 : g 71 = h 71 := funext fun j => f 71 j rfl
  have ea72 : g 72 = h 72 := funext fun j => f 72 j rfl
  have w : MOK g := by omega
  rw [← e3, ← e4, ← e29, ← ea60, ← ea61] at hxy
  rw [← e29] at hn
  rw [← e29, ← e48, ← ea70, ← ea71, ← ea72] at hX
  rw [← e48] at hN
  rw [← e3, ← e5, ← e6, ← e29, ← e48, ← ea60, ← ea61, ← ea69, ← ea70, ← ea71, ← ea72] at k
  rw [← ea69] at hs
  refine r_aload_n dX12_mended_5 rfl rfl ?_
  refine r_iload_n dX12_mended_6 rfl rfl ?_
  refine r_callVI (av := [_]) (M' := mX12_isMove) dX12_mended_7 vX12_isMove ml_X12_350 sh_49 (by decide) rfl rfl rfl rfl (by simp [wtA]) (sp_X12_isMove (by omega) (by omega) (by omega) (fun b_7 => ?_) (fun b_7 => ?_))
  · refine r_if_eq (tgt := 41) dX12_mended_10 rfl ⟨by decide, by decide⟩ (fun c_10 => absurd c_10 (by decide)) (fun c_10 => ?_)
    refine r_iload_n dX12_mended_13 rfl rfl ?_
    refine r_iconst dX12_mended_14 ?_
    refine r_sipush dX12_mended_15 (by decide +kernel) ?_
    refine r_callSI (av := [_, _, _]) (M' := mX12_isIn) dX12_mended_18 sX12_isIn ml_X12_160 rfl rfl (by simp [wtA]) (sp_X12_isIn (by omega) (by omega) (by omega) (by omega) (fun b_18 => ?_) (fun b_18 => ?_))
    · refine r_if_eq (tgt := 41) dX12_mended_21 rfl ⟨by decide, by decide⟩ (fun c_21 => absurd c_21 (by decide)) (fun c_21 => ?_)
      refine r_iload_n dX12_mended_24 rfl rfl ?_
      refine r_iconst dX12_mended_25 ?_
      refine r_iconst dX12_mended_26 ?_
      refine r_callSI (av := [_, _, _]) (M' := mX12_isIn) dX12_mended_27 sX12_isIn ml_X12_160 rfl rfl (by simp [wtA]) (sp_X12_isIn (by omega) (by omega) (by omega) (by omega) (fun b_27 => ?_) (fun b_27 => ?_))
      · refine r_if_eq (tgt := 41) dX12_mended_30 rfl ⟨by decide, by decide⟩ (fun c_30 => absurd c_30 (by decide)) (fun c_30 => ?_)
        refine r_aload_n dX12_mended_33 rfl rfl ?_
        refine r_iload_n dX12_mended_34 rfl rfl ?_
        refine r_callVI (av := [_]) (M' := mX12_finds) dX12_mended_35 vX12_finds ml_X12_404 sh_49 (by decide) rfl rfl rfl rfl (by simp [wtA]) (sp_X12_finds (by omega) (by omega) (by omega) hxy hX hN (by omega) (fun h_35 f0_35 f1_35 f2_35 f3_35 => ?_) (fun h_35 f0_35 f1_35 => ?_))
        · refine r_if_ne (tgt := 44) dX12_mended_38 rfl ⟨by decide, by decide⟩ (fun c_38 => ?_) (fun c_38 => absurd c_38 (by decide))
          unfold fnMend at k
          rw [if_pos ⟨b_7, b_18, by omega, f0_35⟩] at k
          have w3 := f1_35 49 3 rfl
          have w4 := f1_35 49 4 rfl
          have w5 := f1_35 49 5 rfl
          have w6 := f1_35 49 6 rfl
          have w7 := f1_35 49 7 rfl
          have w8 := f1_35 49 8 rfl
          have w29 := f1_35 49 29 rfl
          have w48 := f1_35 49 48 rfl
          have gw : MOK h_35 := by omega
          have v60 : h_35 60 = g 60 := funext fun j => f1_35 60 j rfl
          have v61 : h_35 61 = g 61 := funext fun j => f1_35 61 j rfl
          have v69 : h_35 69 = g 69 := funext fun j => f1_35 69 j rfl
          have v70 : h_35 70 = g 70 := funext fun j => f1_35 70 j rfl
          have e1 : (m + 1).toNat = m.toNat + 1 := by omega
          have q0 := hxy (m.toNat + 1) (by omega)
          rw [Nat.zero_add] at q0
          have q1 := (hxy.lr (K := g 49 5) (E := g 49 6) (by omega) (by omega) (by omega) (by omega)) (m.toNat + 1) (by omega)
          have z0 := msN_r hs (c := 0) (by decide) (m.toNat + 1) (by omega)
          have z1 := msN_r hs (c := 1) (by decide) (m.toNat + 1) (by omega)
          have hs2 : ∀ j : Nat, j < 300 → -9 ≤ h_35 69 j ∧ h_35 69 j ≤ 9 := by rw [v69]; exact hs
          have lr := laF_r (g 70) m N
          refine r_aload_n dX12_mended_44 rfl rfl ?_
          refine r_iload_n dX12_mended_45 rfl rfl ?_
          refine r_iconst dX12_mended_46 ?_
          refine r_iadd dX12_mended_47 ?_
          refine r_callVI (av := [_]) (M' := mX12_leftAt) dX12_mended_48 vX12_leftAt ml_X12_344 sh_49 (by decide) rfl rfl rfl rfl (by simp [wtA]) (sp_X12_leftAt (by omega) (by omega) (by omega) (by rw [e1, v60, w3]; omega) (by rw [e1, v61, w4]; omega) ?_)
          refine r_aload_n dX12_mended_51 rfl rfl ?_
          refine r_iload_n dX12_mended_52 rfl rfl ?_
          refine r_iconst dX12_mended_53 ?_
          refine r_callVI (av := [_, _]) (M' := mX12_moreBy) dX12_mended_54 vX12_moreBy ml_X12_391 sh_49 (by decide) rfl rfl rfl rfl (by simp [wtA]) (sp_X12_moreBy (by omega) (by omega) (Or.inl rfl) hs2 ?_)
          refine r_iadd dX12_mended_57 ?_
          refine r_eqI (y := (mL (g 49 5) (g 49 6) (g 60) (g 61) (m.toNat + 1) + msN (g 69) 0 (m.toNat + 1))) (by rw [w5, w6, v60, v61, v69, e1]; rfl) ?_
          refine r_istore (L' := [_, _, _, _, _, _, _, _]) dX12_mended_58 rfl (by decide) rfl ?_
          refine r_aload_n dX12_mended_60 rfl rfl ?_
          refine r_iload_n dX12_mended_61 rfl rfl ?_
          refine r_iconst dX12_mended_62 ?_
          refine r_iadd dX12_mended_63 ?_
          refine r_callVI (av := [_]) (M' := mX12_rightAt) dX12_mended_64 vX12_rightAt ml_X12_347 sh_49 (by decide) rfl rfl rfl rfl (by simp [wtA]) (sp_X12_rightAt (by omega) (by omega) (by omega) (by rw [e1, v60, w3]; omega) (by rw [e1, v61, w4]; omega) ?_)
          refine r_aload_n dX12_mended_67 rfl rfl ?_
          refine r_iload_n dX12_mended_68 rfl rfl ?_
          refine r_iconst dX12_mended_69 ?_
          refine r_callVI (av := [_, _]) (M' := mX12_moreBy) dX12_mended_70 vX12_moreBy ml_X12_391 sh_49 (by decide) rfl rfl rfl rfl (by simp [wtA]) (sp_X12_moreBy (by omega) (by omega) (Or.inr rfl) hs2 ?_)
          refine r_iadd dX12_mended_73 ?_
          refine r_eqI (y := (mR (g 49 3) (g 49 5) (g 49 6) (g 60) (g 61) (m.toNat + 1) + msN (g 69) 1 (m.toNat + 1))) (by rw [w3, w5, w6, v60, v61, v69, e1]; rfl) ?_
          refine r_istore (L' := [_, _, _, _, _, _, _, _]) dX12_mended_74 rfl (by decide) rfl ?_
          refine r_iconst dX12_mended_76 ?_
          refine r_istore (L' := [_, _, _, _, _, _, _, _]) dX12_mended_77 rfl (by decide) rfl ?_
          refine r_iconst dX12_mended_79 ?_
          refine r_istore (L' := [_, _, _, _, _, _, _, _]) dX12_mended_80 rfl (by decide) rfl ?_
          refine lp_mended (N := N) hm ⟨w48.trans hN.1, hN.2⟩ (fun k hk => by rw [v70]; have := hX k (by omega); omega) (fun o => ?_) 13 0 _ (by omega) rfl (by omega)
          rw [v70]
          refine r_iload dX12_mended_117 rfl ?_
          refine r_if_lt (tgt := 146) dX12_mended_119 rfl (by omega) (fun c_119 => ?_) (fun c_119 => ?_)
          · refine r_iload_n dX12_mended_146 rfl rfl ?_
            refine r_if_ne (tgt := 161) dX12_mended_147 rfl (by omega) (fun c_147 => ?_) (fun c_147 => ?_)
            · refine r_aload_n dX12_mended_161 rfl rfl ?_
              refine r_iload dX12_mended_162 rfl ?_
              refine r_iload dX12_mended_164 rfl ?_
              refine r_callVI (av := [_, _]) (M' := mX12_placeY) dX12_mended_166 vX12_placeY ml_X12_195 sh_49 (by decide) rfl rfl rfl rfl (by simp [wtA]) (sp_X12_placeY (by omega) (by omega) (by omega) (by omega) ?_)
              refine r_iret dX12_mended_169 rfl ?_
              refine ⟨_, rfl, eqP (k _ (f.tr f1_35)) ?_⟩
              first
                | (rw [if_pos (show laF (g 70) m N < 0 by omega)]
                   unfold mdP
                   rw [w3, w5, w6]
                   first
                     | rw [if_pos (by omega)]
                     | rw [if_neg (by omega)])
                | (rw [if_neg (show ¬ laF (g 70) m N < 0 by omega)]
                   unfold mdP
                   rw [w3, w5, w6]
                   first
                     | rw [if_pos (by omega)]
                     | rw [if_neg (by omega)])
            · refine r_aload_n dX12_mended_150 rfl rfl ?_
              refine r_iload dX12_mended_151 rfl ?_
              refine r_iload dX12_mended_153 rfl ?_
              refine r_callVI (av := [_, _]) (M' := mX12_placeX) dX12_mended_155 vX12_placeX ml_X12_156 sh_49 (by decide) rfl rfl rfl rfl (by simp [wtA]) (sp_X12_placeX (by omega) (by omega) (by omega) (by omega) ?_)
              refine r_goto (tgt := 169) dX12_mended_158 rfl ?_
              refine r_iret dX12_mended_169 rfl ?_
              refine ⟨_, rfl, eqP (k _ (f.tr f1_35)) ?_⟩
              first
                | (rw [if_pos (show laF (g 70) m N < 0 by omega)]
                   unfold mdP
                   rw [w3, w5, w6]
                   first
                     | rw [if_pos (by omega)]
                     | rw [if_neg (by omega)])
                | (rw [if_neg (show ¬ laF (g 70) m N < 0 by omega)]
                   unfold mdP
                   rw [w3, w5, w6]
                   first
                     | rw [if_pos (by omega)]
                     | rw [if_neg (by omega)])
          · have fj := f3_35 (laF (g 70) m N).toNat (by omega)
            have cj := fLR_r (chF_lt (bkF (ftN (g 49 48) (g 49 5) (g 49 3) (g 49 6) (mL (g 49 5) (g 49 6) (g 60) (g 61)) (mR (g 49 3) (g 49 5) (g 49 6) (g 60) (g 61)) (g 70) (g 71) (g 72) q) N) (laF (g 70) m N).toNat)
            refine r_iload dX12_mended_122 rfl ?_
            refine r_aload_n dX12_mended_124 rfl rfl ?_
            refine r_getR dX12_mended_125 fl_X12_103 sh_49 rfl ?_
            refine r_iload dX12_mended_128 rfl ?_
            refine r_iald dX12_mended_130 sh_74 (by decide) (by omega) ?_
            refine r_isub dX12_mended_131 ?_
            rw [fj.1]
            refine r_istore (L' := [_, _, _, _, _, _, _, _]) dX12_mended_132 rfl (by decide) rfl ?_
            refine r_iload dX12_mended_134 rfl ?_
            refine r_aload_n dX12_mended_136 rfl rfl ?_
            refine r_getR dX12_mended_137 fl_X12_106 sh_49 rfl ?_
            refine r_iload dX12_mended_140 rfl ?_
            refine r_iald dX12_mended_142 sh_75 (by decide) (by omega) ?_
            refine r_isub dX12_mended_143 ?_
            rw [fj.2]
            refine r_istore (L' := [_, _, _, _, _, _, _, _]) dX12_mended_144 rfl (by decide) rfl ?_
            refine r_iload_n dX12_mended_146 rfl rfl ?_
            refine r_if_ne (tgt := 161) dX12_mended_147 rfl (by omega) (fun c_147 => ?_) (fun c_147 => ?_)
            · refine r_aload_n dX12_mended_161 rfl rfl ?_
              refine r_iload dX12_mended_162 rfl ?_
              refine r_iload dX12_mended_164 rfl ?_
              refine r_callVI (av := [_, _]) (M' := mX12_placeY) dX12_mended_166 vX12_placeY ml_X12_195 sh_49 (by decide) rfl rfl rfl rfl (by simp [wtA]) (sp_X12_placeY (by omega) (by omega) (by omega) (by omega) ?_)
              refine r_iret dX12_mended_169 rfl ?_
              refine ⟨_, rfl, eqP (k _ (f.tr f1_35)) ?_⟩
              first
                | (rw [if_pos (show laF (g 70) m N < 0 by omega)]
                   unfold mdP
                   rw [w3, w5, w6]
                   first
                     | rw [if_pos (by omega)]
                     | rw [if_neg (by omega)])
                | (rw [if_neg (show ¬ laF (g 70) m N < 0 by omega)]
                   unfold mdP
                   rw [w3, w5, w6]
                   first
                     | rw [if_pos (by omega)]
                     | rw [if_neg (by omega)])
            · refine r_aload_n dX12_mended_150 rfl rfl ?_
              refine r_iload dX12_mended_151 rfl ?_
              refine r_iload dX12_mended_153 rfl ?_
              refine r_callVI (av := [_, _]) (M' := mX12_placeX) dX12_mended_155 vX12_placeX ml_X12_156 sh_49 (by decide) rfl rfl rfl rfl (by simp [wtA]) (sp_X12_placeX (by omega) (by omega) (by omega) (by omega) ?_)
              refine r_goto (tgt := 169) dX12_mended_158 rfl ?_
              refine r_iret dX12_mended_169 rfl ?_
              refine ⟨_, rfl, eqP (k _ (f.tr f1_35)) ?_⟩
              first
                | (rw [if_pos (show laF (g 70) m N < 0 by omega)]
                   unfold mdP
                   rw [w3, w5, w6]
                   first
                     | rw [if_pos (by omega)]
                     | rw [if_neg (by omega)])
                | (rw [if_neg (show ¬ laF (g 70) m N < 0 by omega)]
                   unfold mdP
                   rw [w3, w5, w6]
                   first
                     | rw [if_pos (by omega)]
                     | rw [if_neg (by omega)])
        · refine r_if_ne (tgt := 44) dX12_mended_38 rfl ⟨by decide, by decide⟩ (fun c_38 => absurd c_38 (by decide)) (fun c_38 => ?_)
          refine r_ldc (z := -2147483648) dX12_mended_41 kc_X12_194 (by decide +kernel) ?_
          refine r_iret dX12_mended_43 rfl ?_
          first
            | (refine ⟨_, rfl, eqP (k _ (f.tr f1_35)) ?_⟩
               unfold fnMend
               rw [if_neg (fun z => f0_35 z.2.2.2)])
            | (refine ⟨_, rfl, eqP (k g f) ?_⟩
               unfold fnMend
               rw [if_neg (by omega)])
      · refine r_if_eq (tgt := 41) dX12_mended_30 rfl ⟨by decide, by decide⟩ (fun c_30 => ?_) (fun c_30 => absurd c_30 (by decide))
        refine r_ldc (z := -2147483648) dX12_mended_41 kc_X12_194 (by decide +kernel) ?_
        refine r_iret dX12_mended_43 rfl ?_
        first
          | (refine ⟨_, rfl, eqP (k _ (f.tr f1_35)) ?_⟩
             unfold fnMend
             rw [if_neg (fun z => f0_35 z.2.2.2)])
          | (refine ⟨_, rfl, eqP (k g f) ?_⟩
             unfold fnMend
             rw [if_neg (by omega)])
    · refine r_if_eq (tgt := 41) dX12_mended_21 rfl ⟨by decide, by decide⟩ (fun c_21 => ?_) (fun c_21 => absurd c_21 (by decide))
      refine r_ldc (z := -2147483648) dX12_mended_41 kc_X12_194 (by decide +kernel) ?_
      refine r_iret dX12_mended_43 rfl ?_
      first
        | (refine ⟨_, rfl, eqP (k _ (f.tr f1_35)) ?_⟩
           unfold fnMend
           rw [if_neg (fun z => f0_35 z.2.2.2)])
        | (refine ⟨_, rfl, eqP (k g f) ?_⟩
           unfold fnMend
           rw [if_neg (by omega)])
  · refine r_if_eq (tgt := 41) dX12_mended_10 rfl ⟨by decide, by decide⟩ (fun c_10 => ?_) (fun c_10 => absurd c_10 (by decide))
    refine r_ldc (z := -2147483648) dX12_mended_41 kc_X12_194 (by decide +kernel) ?_
    refine r_iret dX12_mended_43 rfl ?_
    first
      | (refine ⟨_, rfl, eqP (k _ (f.tr f1_35)) ?_⟩
         unfold fnMend
         rw [if_neg (fun z => f0_35 z.2.2.2)])
      | (refine ⟨_, rfl, eqP (k g f) ?_⟩
         unfold fnMend
         rw [if_neg (by omega)])
theorem REL.xN {h : Hp} (r : REL h) : h 33 0 = ((h 33 0).toNat : Int) ∧ (h 33 0).toNat ≤ 12 ∧ h 49 48 = ((h 33 0).toNat : Int) := by
  have := r.2.2.2.2.2.2.1
  omega
theorem REL.xC {h : Hp} (r : REL h) : ∀ k : Nat, (k : Int) < h 33 0 → 0 ≤ h 36 k ∧ h 36 k < h 16 0 ∧ R32 (h 37 k) ∧ R32 (h 38 k) := fun k hk => (r.2.2.2.2.2.2.1.2.2.2.1 k hk).2.2.2
theorem REL.xM {h : Hp} (r : REL h) : ∀ k : Nat, (k : Int) < h 49 48 → 0 ≤ h 70 k ∧ h 70 k < h 49 29 ∧ R32 (h 71 k) ∧ R32 (h 72 k) := fun k hk => by
  rw [r.2.2.2.2.2.2.1.1] at hk
  obtain ⟨a, b, c, d⟩ := r.2.2.2.2.2.2.1.2.2.2.1 k hk
  rw [a, b, c, r.n.2.2]
  exact d
theorem REL.ft {h : Hp} (r : REL h) (q : Int) : ftN (h 33 0) (h 1 2) (h 1 0) (h 1 3) (h 20) (h 21) (h 36) (h 37) (h 38) q = ftN (h 49 48) (h 49 5) (h 49 3) (h 49 6) (mL (h 49 5) (h 49 6) (h 60) (h 61)) (mR (h 49 3) (h 49 5) (h 49 6) (h 60) (h 61)) (h 70) (h 71) (h 72) q := by
  funext k f
  unfold ftN
  have w := r.1
  rw [r.2.2.2.2.2.2.1.1]
  by_cases C : (k : Int) < h 33 0
  · obtain ⟨a, b, c, d⟩ := r.2.2.2.2.2.2.1.2.2.2.1 k C
    have t := r.tk (i := (h 36 k).toNat + 1) (by omega)
    rw [a, b, c, ← t.1, ← t.2.1, w.2.2.1, w.2.2.2.2.1, w.2.2.2.2.2.1]
  · rw [if_neg (fun z => C z.1), if_neg (fun z => C z.1)]
theorem laF_cg {mv mv2 : Nat → Int} {m : Int} : ∀ {n : Nat}, (∀ k : Nat, k < n → mv k = mv2 k) → laF mv m n = laF mv2 m n
  | 0, _ => rfl
  | n + 1, h => by rw [laF, laF, laF_cg (fun k hk => h k (by omega)), h n (by omega)]
theorem pr_found {d : Nat} (hd : 20 ≤ d) {q v : Int} (hq : R32 q) (hv : R32 v) : PR d mX11_found mX12_found [.inl q, .inl v] := by
  intro h r
  have n := r.n
  refine sp_X11_found (N := (h 33 0).toNat) (by omega) r.1.1 hq hv (by omega) r.lr r.xC ⟨r.xN.1, r.xN.2.1⟩ (fun h1 f => ?_)
  have r1 := f.rel r
  have n1 := r1.n
  have e33 : h1 33 0 = h 33 0 := f.1 33 0 rfl
  refine sp_X12_found (N := (h 33 0).toNat) (by omega) r1.1.2.1 hq hv (by omega) r1.mxy r1.xM ⟨by rw [← e33]; exact r1.xN.2.2, r.xN.2.1⟩ (fun h2 f2 => ⟨?_, f2.rel r1⟩)
  have c : ∀ a k, scrC a k = false → h1 a k = h a k := f.1
  rw [← r1.ft q, c 33 0 rfl, c 1 2 rfl, c 1 0 rfl, c 1 3 rfl, (show h1 20 = h 20 from funext fun j => c 20 j rfl), (show h1 21 = h 21 from funext fun j => c 21 j rfl), (show h1 36 = h 36 from funext fun j => c 36 j rfl), (show h1 37 = h 37 from funext fun j => c 37 j rfl), (show h1 38 = h 38 from funext fun j => c 38 j rfl)]
theorem pr_mended {d : Nat} (hd : 20 ≤ d) {m q a : Int} (hm : R32 m) (hq : R32 q) (ha : R32 a) : PR d mX11_mended mX12_mended [.inl m, .inl q, .inl a] := by
  intro h r
  have n := r.n
  refine sp_X11_mended (N := (h 33 0).toNat) (by omega) r.1.1 hm hq ha (by omega) r.lr r.xC ⟨r.xN.1, r.xN.2.1⟩ r.ms.1 (fun k hk => r.2.2.2.2.2.2.1.2.2.2.2 k (by have := r.xN; omega)) (fun h1 f => ?_)
  have r1 := f.rel r
  have n1 := r1.n
  have e33 : h1 33 0 = h 33 0 := f.1 33 0 rfl
  have w := r1.1
  refine sp_X12_mended (N := (h 33 0).toNat) (by omega) r1.1.2.1 hm hq ha (by omega) r1.mxy r1.xM ⟨by rw [← e33]; exact r1.xN.2.2, r.xN.2.1⟩ r1.ms.2.1 (fun h2 f2 => ⟨?_, f2.rel r1⟩)
  have c : ∀ a k, scrC a k = false → h1 a k = h a k := f.1
  rw [← r1.ft q, ← c 33 0 rfl, ← c 16 0 rfl, ← c 1 2 rfl, ← c 1 0 rfl, ← c 1 3 rfl, ← (show h1 20 = h 20 from funext fun j => c 20 j rfl), ← (show h1 21 = h 21 from funext fun j => c 21 j rfl), ← (show h1 22 = h 22 from funext fun j => c 22 j rfl), ← (show h1 36 = h 36 from funext fun j => c 36 j rfl), ← (show h1 37 = h 37 from funext fun j => c 37 j rfl), ← (show h1 38 = h 38 from funext fun j => c 38 j rfl), n1.2.2]
  have el : laF (h1 70) m (h1 33 0).toNat = laF (h1 36) m (h1 33 0).toNat := laF_cg (fun k hk => (r1.2.2.2.2.2.2.1.2.2.2.1 k (by have := r1.xN; omega)).1)
  unfold fnMend
  rw [el]
  by_cases C : (0 ≤ m ∧ m < h1 16 0) ∧ (0 ≤ q ∧ q ≤ 999) ∧ (a = 0 ∨ a = 1) ∧ lsF (ftN (h1 33 0) (h1 1 2) (h1 1 0) (h1 1 3) (h1 20) (h1 21) (h1 36) (h1 37) (h1 38) q) (h1 33 0).toNat < 1000000
  · rw [if_pos C, if_pos C]
    have t1 := r1.tk (i := m.toNat + 1) (by omega)
    rw [← t1.1, ← t1.2.1, r1.ms.2.2 0 _ (by decide) (by omega), r1.ms.2.2 1 _ (by decide) (by omega), w.2.2.1, w.2.2.2.2.1, w.2.2.2.2.2.1]
  · rw [if_neg C, if_neg C]
