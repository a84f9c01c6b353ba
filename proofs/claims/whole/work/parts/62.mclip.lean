/-! CLIP and AGAIN OF THE REFERENCE -/
theorem tE3_0 {b : Nat → Int} {n : Nat} {s : Sg} (h : s.2.1 = 0) : tE3 b n s = (tE b n s.1, 0, s.2.2) := by unfold tE3; rw [h]
theorem abS_no {b : Nat → Int} {n : Nat} {fl : Int} {s : Sg} (h : ¬ (tK b n s.1 = 2 ∧ tV b n s.1 ≤ fl)) : abS b n fl s = s := if_neg (fun z => h z.2)
theorem abS_nu {b : Nat → Int} {n : Nat} {fl : Int} {s : Sg} (hp : s.1 ≤ n) (h0 : s.2.1 = 0) (hf : fl ≤ 999) (h : ¬ (nuS b n 0 999 s).2.1 = 0) : abS b n fl s = s := by
  refine abS_no (fun z => h ?_)
  have := tV_r (b := b) hp
  unfold nuS
  rw [if_pos h0, if_pos z.1, if_pos (by omega)]
theorem abS_y {b : Nat → Int} {n : Nat} {fl : Int} {s : Sg} (h0 : s.2.1 = 0) (h : tK b n s.1 = 2 ∧ tV b n s.1 ≤ fl) : abS b n fl s = flS b n 5 s := by
  unfold abS flS
  rw [if_pos ⟨h0, h⟩, if_pos h0]
set_option maxRecDepth 20000 in
set_option maxHeartbeats 400000 in
theorem sp_X12_clipRead {d : Nat} (hd : 6 ≤ d) {h : Hp} {n a : Nat} {s : Sg} (hx : MX h n) (hp : MS h n s) (h0 : s.2.1 = 0) (ha : a < 60) {P : Int → Hp → Prop} (k0 : ∀ h' : Hp, (FrA a h h') → (MS h' n (siS (h 3) n 59 (clS (h 3) n (tE3 (h 3) n s) 4))) → ((siS (h 3) n 59 (clS (h 3) n (tE3 (h 3) n s) 4)).2.1 = 0) → (∀ q : Nat, q < 4 → h' 53 (5 * a + q) = clV (h 3) n (tE3 (h 3) n s) q) → P (1) h') (k1 : ∀ h' : Hp, (FrA a h h') → (MS h' n (siS (h 3) n 59 (clS (h 3) n (tE3 (h 3) n s) 4))) → (¬ (siS (h 3) n 59 (clS (h 3) n (tE3 (h 3) n s) 4)).2.1 = 0) → P (0) h') : Cl d mX12_clipRead [.inr (.inr 49), .inl (a : Int)] h (pI P) := by
  refine Cl.of (L := [some (.inr (.inr 49)), some (.inl (a : Int))]) (by decide +kernel) (Nat.le_of_ble_eq_true rfl) rfl ?_
  obtain ⟨d, rfl⟩ : ∃ q, d = q + 1 := ⟨d - 1, by omega⟩
  refine r_aload_n dX12_clipRead_0 rfl rfl ?_
  refine r_callVU (av := []) (M' := mX12_take) dX12_clipRead_1 vX12_take ml_X12_253 sh_49 (by decide) rfl rfl rfl rfl (by simp [wtA]) (sp_X12_take (n := n) (p := tE (h 3) n s.1) (by omega) ⟨hx.1, hx.2.1⟩ ⟨hp.1.2.1, (tE_r hp.2.2.2.1).2.1⟩ hx.2.2.1 hx.2.2.2 (fun h_1 f0_1 f1_1 => ?_))
  have st := hp.step f0_1 f1_1
  have p1 := st.1
  have z1 : (tE3 (h 3) n s).2.1 = 0 := h0
  have F1 : FrA a h h_1 := FrA.of st.2
  have b1 := st.2.b
  refine r_aload_n dX12_clipRead_4 rfl rfl ?_
  refine r_iload_n dX12_clipRead_5 rfl rfl ?_
  refine r_iconst dX12_clipRead_6 ?_
  refine r_iconst dX12_clipRead_7 ?_
  refine r_sipush dX12_clipRead_8 (by decide +kernel) ?_
  refine r_callVI (av := [_, _, _, _]) (M' := mX12_told) dX12_clipRead_11 vX12_told ml_X12_259 sh_49 (by decide) rfl rfl rfl rfl (by simp [wtA]) (sp_X12_told (n := n) (a := a) (q := 0) (s := tE3 (h 3) n s) (by omega) (F1.mx hx) p1 z1 ha (by decide) (by decide) (by decide) (fun h_11 f0_11 f1_11 f2_11 f3_11 => ?_) (fun h_11 f0_11 f1_11 f2_11 => ?_))
  · refine r_if_eq (tgt := 30) dX12_clipRead_14 rfl ⟨by decide, by decide⟩ (fun c_14 => absurd c_14 (by decide)) (fun c_14 => ?_)
    rw [F1.b] at f1_11 f2_11 f3_11
    have F_11 : FrA a h h_11 := fun x k z1 z2 => (f0_11 x k z1 (by omega)).trans (F1 x k z1 z2)
    have v11_0 : h_11 53 (5 * a + 0) = nuV (h 3) n 0 999 (tE3 (h 3) n s) := f2_11
    refine r_aload_n dX12_clipRead_17 rfl rfl ?_
    refine r_iload_n dX12_clipRead_18 rfl rfl ?_
    refine r_iconst dX12_clipRead_19 ?_
    refine r_iconst dX12_clipRead_20 ?_
    refine r_sipush dX12_clipRead_21 (by decide +kernel) ?_
    refine r_callVI (av := [_, _, _, _]) (M' := mX12_told) dX12_clipRead_24 vX12_told ml_X12_259 sh_49 (by decide) rfl rfl rfl rfl (by simp [wtA]) (sp_X12_told (n := n) (a := a) (q := 1) (s := nuS (h 3) n 0 999 (tE3 (h 3) n s)) (by omega) (F_11.mx hx) f1_11 f3_11 ha (by decide) (by decide) (by decide) (fun h_24 f0_24 f1_24 f2_24 f3_24 => ?_) (fun h_24 f0_24 f1_24 f2_24 => ?_))
    · refine r_if_ne (tgt := 32) dX12_clipRead_27 rfl ⟨by decide, by decide⟩ (fun c_27 => ?_) (fun c_27 => absurd c_27 (by decide))
      rw [F_11.b] at f1_24 f2_24 f3_24
      have F_24 : FrA a h h_24 := fun x k z1 z2 => (f0_24 x k z1 (by omega)).trans (F_11 x k z1 z2)
      have v24_0 : h_24 53 (5 * a + 0) = nuV (h 3) n 0 999 (tE3 (h 3) n s) := by rw [f0_24 53 _ (by omega) (by omega)]; exact v11_0
      have v24_1 : h_24 53 (5 * a + 1) = nuV (h 3) n 0 999 (nuS (h 3) n 0 999 (tE3 (h 3) n s)) := f2_24
      have r0 := nuV_r (b := h 3) (n := n) (lo := 0) (hi := 999) (s := tE3 (h 3) n s) (by decide) (by decide)
      have r1 := nuV_r (b := h 3) (n := n) (lo := 0) (hi := 999) (s := nuS (h 3) n 0 999 (tE3 (h 3) n s)) (by decide) (by decide)
      refine r_aload_n dX12_clipRead_32 rfl rfl ?_
      refine r_iconst dX12_clipRead_33 ?_
      refine r_sipush dX12_clipRead_34 (by decide +kernel) ?_
      refine r_callVI (av := [_, _]) (M' := mX12_numberRead) dX12_clipRead_37 vX12_numberRead ml_X12_250 sh_49 (by decide) rfl rfl rfl rfl (by simp [wtA]) (sp_X12_numberRead (n := n) (s := nuS (h 3) n 0 999 (nuS (h 3) n 0 999 (tE3 (h 3) n s))) (by omega) (F_24.mx hx) f1_24 f3_24 (by decide) (by decide) (fun n1 w1 => ?_) (fun h_37 f0_37 f1_37 f2_37 => ?_))
      · refine r_if_ne (tgt := 45) dX12_clipRead_40 rfl ⟨by decide, by decide⟩ (fun c_40 => ?_) (fun c_40 => absurd c_40 (by decide))
        rw [F_24.b] at n1 w1
        refine r_aload_n dX12_clipRead_45 rfl rfl ?_
        refine r_getI dX12_clipRead_46 fl_X12_235 sh_49 rfl ?_
        refine r_aload_n dX12_clipRead_49 rfl rfl ?_
        refine r_getR dX12_clipRead_50 fl_X12_38 sh_49 rfl ?_
        refine r_iconst dX12_clipRead_53 ?_
        refine r_iload_n dX12_clipRead_54 rfl rfl ?_
        refine r_imul dX12_clipRead_55 ?_
        refine r_iald dX12_clipRead_56 sh_53 (by decide) (by omega) ?_
        rw [show (5 * (a : Int)).toNat = 5 * a + 0 by omega, v24_0, w1]
        refine r_icmp_gt (tgt := 66) dX12_clipRead_57 rfl (by omega) (by omega) (fun c_57 => ?_) (fun c_57 => ?_)
        · have ea : abS (h 3) n (nuV (h 3) n 0 999 (tE3 (h 3) n s)) (nuS (h 3) n 0 999 (nuS (h 3) n 0 999 (tE3 (h 3) n s))) = nuS (h 3) n 0 999 (nuS (h 3) n 0 999 (tE3 (h 3) n s)) := abS_no (fun z => by omega)
          have p24a : MS h_24 n (abS (h 3) n (nuV (h 3) n 0 999 (tE3 (h 3) n s)) (nuS (h 3) n 0 999 (nuS (h 3) n 0 999 (tE3 (h 3) n s)))) := by rw [ea]; exact f1_24
          have z24a : (abS (h 3) n (nuV (h 3) n 0 999 (tE3 (h 3) n s)) (nuS (h 3) n 0 999 (nuS (h 3) n 0 999 (tE3 (h 3) n s)))).2.1 = 0 := by rw [ea]; exact f3_24
          refine r_aload_n dX12_clipRead_66 rfl rfl ?_
          refine r_iload_n dX12_clipRead_67 rfl rfl ?_
          refine r_iconst dX12_clipRead_68 ?_
          refine r_iconst dX12_clipRead_69 ?_
          refine r_sipush dX12_clipRead_70 (by decide +kernel) ?_
          refine r_callVI (av := [_, _, _, _]) (M' := mX12_told) dX12_clipRead_73 vX12_told ml_X12_259 sh_49 (by decide) rfl rfl rfl rfl (by simp [wtA]) (sp_X12_told (n := n) (a := a) (q := 2) (s := abS (h 3) n (nuV (h 3) n 0 999 (tE3 (h 3) n s)) (nuS (h 3) n 0 999 (nuS (h 3) n 0 999 (tE3 (h 3) n s)))) (by omega) (F_24.mx hx) p24a z24a ha (by decide) (by decide) (by decide) (fun h_73 f0_73 f1_73 f2_73 f3_73 => ?_) (fun h_73 f0_73 f1_73 f2_73 => ?_))
          · refine r_if_ne (tgt := 81) dX12_clipRead_76 rfl ⟨by decide, by decide⟩ (fun c_76 => ?_) (fun c_76 => absurd c_76 (by decide))
            rw [F_24.b] at f1_73 f2_73 f3_73
            have F_73 : FrA a h h_73 := fun x k z1 z2 => (f0_73 x k z1 (by omega)).trans (F_24 x k z1 z2)
            have v73_0 : h_73 53 (5 * a + 0) = nuV (h 3) n 0 999 (tE3 (h 3) n s) := by rw [f0_73 53 _ (by omega) (by omega)]; exact v24_0
            have v73_1 : h_73 53 (5 * a + 1) = nuV (h 3) n 0 999 (nuS (h 3) n 0 999 (tE3 (h 3) n s)) := by rw [f0_73 53 _ (by omega) (by omega)]; exact v24_1
            have v73_2 : h_73 53 (5 * a + 2) = nuV (h 3) n 0 999 (abS (h 3) n (nuV (h 3) n 0 999 (tE3 (h 3) n s)) (nuS (h 3) n 0 999 (nuS (h 3) n 0 999 (tE3 (h 3) n s)))) := f2_73
            refine r_aload_n dX12_clipRead_81 rfl rfl ?_
            refine r_iconst dX12_clipRead_82 ?_
            refine r_sipush dX12_clipRead_83 (by decide +kernel) ?_
            refine r_callVI (av := [_, _]) (M' := mX12_numberRead) dX12_clipRead_86 vX12_numberRead ml_X12_250 sh_49 (by decide) rfl rfl rfl rfl (by simp [wtA]) (sp_X12_numberRead (n := n) (s := nuS (h 3) n 0 999 (abS (h 3) n (nuV (h 3) n 0 999 (tE3 (h 3) n s)) (nuS (h 3) n 0 999 (nuS (h 3) n 0 999 (tE3 (h 3) n s))))) (by omega) (F_73.mx hx) f1_73 f3_73 (by decide) (by decide) (fun n2 w2 => ?_) (fun h_86 f0_86 f1_86 f2_86 => ?_))
            · refine r_if_ne (tgt := 94) dX12_clipRead_89 rfl ⟨by decide, by decide⟩ (fun c_89 => ?_) (fun c_89 => absurd c_89 (by decide))
              rw [F_73.b] at n2 w2
              refine r_aload_n dX12_clipRead_94 rfl rfl ?_
              refine r_getI dX12_clipRead_95 fl_X12_235 sh_49 rfl ?_
              refine r_aload_n dX12_clipRead_98 rfl rfl ?_
              refine r_getR dX12_clipRead_99 fl_X12_38 sh_49 rfl ?_
              refine r_iconst dX12_clipRead_102 ?_
              refine r_iload_n dX12_clipRead_103 rfl rfl ?_
              refine r_imul dX12_clipRead_104 ?_
              refine r_iconst dX12_clipRead_105 ?_
              refine r_iadd dX12_clipRead_106 ?_
              refine r_iald dX12_clipRead_107 sh_53 (by decide) (by omega) ?_
              rw [show (5 * (a : Int) + 1).toNat = 5 * a + 1 by omega, v73_1, w2]
              refine r_icmp_gt (tgt := 117) dX12_clipRead_108 rfl (by omega) (by omega) (fun c_108 => ?_) (fun c_108 => ?_)
              · have eb : abS (h 3) n (nuV (h 3) n 0 999 (nuS (h 3) n 0 999 (tE3 (h 3) n s))) (nuS (h 3) n 0 999 (abS (h 3) n (nuV (h 3) n 0 999 (tE3 (h 3) n s)) (nuS (h 3) n 0 999 (nuS (h 3) n 0 999 (tE3 (h 3) n s))))) = nuS (h 3) n 0 999 (abS (h 3) n (nuV (h 3) n 0 999 (tE3 (h 3) n s)) (nuS (h 3) n 0 999 (nuS (h 3) n 0 999 (tE3 (h 3) n s)))) := abS_no (fun z => by omega)
                have p73a : MS h_73 n (abS (h 3) n (nuV (h 3) n 0 999 (nuS (h 3) n 0 999 (tE3 (h 3) n s))) (nuS (h 3) n 0 999 (abS (h 3) n (nuV (h 3) n 0 999 (tE3 (h 3) n s)) (nuS (h 3) n 0 999 (nuS (h 3) n 0 999 (tE3 (h 3) n s)))))) := by rw [eb]; exact f1_73
                have z73a : (abS (h 3) n (nuV (h 3) n 0 999 (nuS (h 3) n 0 999 (tE3 (h 3) n s))) (nuS (h 3) n 0 999 (abS (h 3) n (nuV (h 3) n 0 999 (tE3 (h 3) n s)) (nuS (h 3) n 0 999 (nuS (h 3) n 0 999 (tE3 (h 3) n s)))))).2.1 = 0 := by rw [eb]; exact f3_73
                refine r_aload_n dX12_clipRead_117 rfl rfl ?_
                refine r_iload_n dX12_clipRead_118 rfl rfl ?_
                refine r_iconst dX12_clipRead_119 ?_
                refine r_iconst dX12_clipRead_120 ?_
                refine r_sipush dX12_clipRead_121 (by decide +kernel) ?_
                refine r_callVI (av := [_, _, _, _]) (M' := mX12_told) dX12_clipRead_124 vX12_told ml_X12_259 sh_49 (by decide) rfl rfl rfl rfl (by simp [wtA]) (sp_X12_told (n := n) (a := a) (q := 3) (s := abS (h 3) n (nuV (h 3) n 0 999 (nuS (h 3) n 0 999 (tE3 (h 3) n s))) (nuS (h 3) n 0 999 (abS (h 3) n (nuV (h 3) n 0 999 (tE3 (h 3) n s)) (nuS (h 3) n 0 999 (nuS (h 3) n 0 999 (tE3 (h 3) n s)))))) (by omega) (F_73.mx hx) p73a z73a ha (by decide) (by decide) (by decide) (fun h_124 f0_124 f1_124 f2_124 f3_124 => ?_) (fun h_124 f0_124 f1_124 f2_124 => ?_))
                · refine r_if_eq (tgt := 141) dX12_clipRead_127 rfl ⟨by decide, by decide⟩ (fun c_127 => absurd c_127 (by decide)) (fun c_127 => ?_)
                  rw [F_73.b] at f1_124 f2_124 f3_124
                  have F_124 : FrA a h h_124 := fun x k z1 z2 => (f0_124 x k z1 (by omega)).trans (F_73 x k z1 z2)
                  have v124_0 : h_124 53 (5 * a + 0) = nuV (h 3) n 0 999 (tE3 (h 3) n s) := by rw [f0_124 53 _ (by omega) (by omega)]; exact v73_0
                  have v124_1 : h_124 53 (5 * a + 1) = nuV (h 3) n 0 999 (nuS (h 3) n 0 999 (tE3 (h 3) n s)) := by rw [f0_124 53 _ (by omega) (by omega)]; exact v73_1
                  have v124_2 : h_124 53 (5 * a + 2) = nuV (h 3) n 0 999 (abS (h 3) n (nuV (h 3) n 0 999 (tE3 (h 3) n s)) (nuS (h 3) n 0 999 (nuS (h 3) n 0 999 (tE3 (h 3) n s)))) := by rw [f0_124 53 _ (by omega) (by omega)]; exact v73_2
                  have v124_3 : h_124 53 (5 * a + 3) = nuV (h 3) n 0 999 (abS (h 3) n (nuV (h 3) n 0 999 (nuS (h 3) n 0 999 (tE3 (h 3) n s))) (nuS (h 3) n 0 999 (abS (h 3) n (nuV (h 3) n 0 999 (tE3 (h 3) n s)) (nuS (h 3) n 0 999 (nuS (h 3) n 0 999 (tE3 (h 3) n s)))))) := f2_124
                  refine r_aload_n dX12_clipRead_130 rfl rfl ?_
                  refine r_callVI (av := []) (M' := mX12_ended) dX12_clipRead_131 vX12_ended ml_X12_266 sh_49 (by decide) rfl rfl rfl rfl (by simp [wtA]) (sp_X12_ended (n := n) (s := nuS (h 3) n 0 999 (abS (h 3) n (nuV (h 3) n 0 999 (nuS (h 3) n 0 999 (tE3 (h 3) n s))) (nuS (h 3) n 0 999 (abS (h 3) n (nuV (h 3) n 0 999 (tE3 (h 3) n s)) (nuS (h 3) n 0 999 (nuS (h 3) n 0 999 (tE3 (h 3) n s))))))) (by omega) (F_124.mx hx) f1_124 f3_124 (fun h_131 f0_131 f1_131 f2_131 => ?_) (fun h_131 f0_131 f1_131 f2_131 => ?_))
                  · refine r_if_eq (tgt := 141) dX12_clipRead_134 rfl ⟨by decide, by decide⟩ (fun c_134 => absurd c_134 (by decide)) (fun c_134 => ?_)
                    rw [F_124.b] at f1_131 f2_131
                    have F_131 : FrA a h h_131 := FrA.tr (F_124) (FrA.of f0_131)
                    have v131_0 : h_131 53 (5 * a + 0) = nuV (h 3) n 0 999 (tE3 (h 3) n s) := by rw [f0_131 53 _ (by omega)]; exact v124_0
                    have v131_1 : h_131 53 (5 * a + 1) = nuV (h 3) n 0 999 (nuS (h 3) n 0 999 (tE3 (h 3) n s)) := by rw [f0_131 53 _ (by omega)]; exact v124_1
                    have v131_2 : h_131 53 (5 * a + 2) = nuV (h 3) n 0 999 (abS (h 3) n (nuV (h 3) n 0 999 (tE3 (h 3) n s)) (nuS (h 3) n 0 999 (nuS (h 3) n 0 999 (tE3 (h 3) n s)))) := by rw [f0_131 53 _ (by omega)]; exact v124_2
                    have v131_3 : h_131 53 (5 * a + 3) = nuV (h 3) n 0 999 (abS (h 3) n (nuV (h 3) n 0 999 (nuS (h 3) n 0 999 (tE3 (h 3) n s))) (nuS (h 3) n 0 999 (abS (h 3) n (nuV (h 3) n 0 999 (tE3 (h 3) n s)) (nuS (h 3) n 0 999 (nuS (h 3) n 0 999 (tE3 (h 3) n s)))))) := by rw [f0_131 53 _ (by omega)]; exact v124_3
                    refine r_iconst dX12_clipRead_137 ?_
                    refine r_goto (tgt := 142) dX12_clipRead_138 rfl ?_
                    refine r_zret dX12_clipRead_142 rfl (.inr rfl) ?_
                    exact ⟨_, rfl, k0 _ F_131 f1_131 f2_131 (fun q hq => by
                      match q, hq with
                      | 0, _ => exact v131_0
                      | 1, _ => exact v131_1
                      | 2, _ => exact v131_2
                      | 3, _ => exact v131_3)⟩
                  · refine r_if_eq (tgt := 141) dX12_clipRead_134 rfl ⟨by decide, by decide⟩ (fun c_134 => ?_) (fun c_134 => absurd c_134 (by decide))
                    refine r_iconst dX12_clipRead_141 ?_
                    refine r_zret dX12_clipRead_142 rfl (.inl rfl) ?_
                    rw [F_124.b] at f1_131 f2_131
                    have e : siS (h 3) n 59 (clS (h 3) n (tE3 (h 3) n s) 4) = siS (h 3) n 59 (nuS (h 3) n 0 999 (abS (h 3) n (nuV (h 3) n 0 999 (nuS (h 3) n 0 999 (tE3 (h 3) n s))) (nuS (h 3) n 0 999 (abS (h 3) n (nuV (h 3) n 0 999 (tE3 (h 3) n s)) (nuS (h 3) n 0 999 (nuS (h 3) n 0 999 (tE3 (h 3) n s))))))) := by
                      show siS (h 3) n 59 (nuS (h 3) n 0 999 (abS (h 3) n (nuV (h 3) n 0 999 (nuS (h 3) n 0 999 (tE3 (h 3) n s))) (nuS (h 3) n 0 999 (abS (h 3) n (nuV (h 3) n 0 999 (tE3 (h 3) n s)) (nuS (h 3) n 0 999 (nuS (h 3) n 0 999 (tE3 (h 3) n s))))))) = _
                      rfl
                    exact ⟨_, rfl, k1 _ (F_124.tr (FrA.of f0_131)) (by rw [e]; exact f1_131) (by rw [e]; exact f2_131)⟩
                · refine r_if_eq (tgt := 141) dX12_clipRead_127 rfl ⟨by decide, by decide⟩ (fun c_127 => ?_) (fun c_127 => absurd c_127 (by decide))
                  refine r_iconst dX12_clipRead_141 ?_
                  refine r_zret dX12_clipRead_142 rfl (.inl rfl) ?_
                  rw [F_73.b] at f1_124 f2_124
                  have e : siS (h 3) n 59 (clS (h 3) n (tE3 (h 3) n s) 4) = nuS (h 3) n 0 999 (abS (h 3) n (nuV (h 3) n 0 999 (nuS (h 3) n 0 999 (tE3 (h 3) n s))) (nuS (h 3) n 0 999 (abS (h 3) n (nuV (h 3) n 0 999 (tE3 (h 3) n s)) (nuS (h 3) n 0 999 (nuS (h 3) n 0 999 (tE3 (h 3) n s)))))) := by
                    show siS (h 3) n 59 (nuS (h 3) n 0 999 (abS (h 3) n (nuV (h 3) n 0 999 (nuS (h 3) n 0 999 (tE3 (h 3) n s))) (nuS (h 3) n 0 999 (abS (h 3) n (nuV (h 3) n 0 999 (tE3 (h 3) n s)) (nuS (h 3) n 0 999 (nuS (h 3) n 0 999 (tE3 (h 3) n s))))))) = _
                    rw [siS_f f2_124]
                  exact ⟨_, rfl, k1 _ (F_73.tr (FrA.of f0_124)) (by rw [e]; exact f1_124) (by rw [e]; exact f2_124)⟩
              · refine r_aload_n dX12_clipRead_111 rfl rfl ?_
                refine r_iconst dX12_clipRead_112 ?_
                refine r_callVI (av := [_]) (M' := mX12_wrong) dX12_clipRead_113 vX12_wrong ml_X12_247 sh_49 (by decide) rfl rfl rfl rfl (by simp [wtA]) (sp_X12_wrong (by omega) (F_73.mx hx) f1_73 f3_73 (by omega) (fun h_113 f0_113 f1_113 => ?_))
                refine r_zret dX12_clipRead_116 rfl (.inl rfl) ?_
                rw [F_73.b] at f1_113
                have eb := abS_y (fl := nuV (h 3) n 0 999 (nuS (h 3) n 0 999 (tE3 (h 3) n s))) f3_73 ⟨n2.1, by omega⟩
                rw [← eb] at f1_113
                have ne : ¬ (abS (h 3) n (nuV (h 3) n 0 999 (nuS (h 3) n 0 999 (tE3 (h 3) n s))) (nuS (h 3) n 0 999 (abS (h 3) n (nuV (h 3) n 0 999 (tE3 (h 3) n s)) (nuS (h 3) n 0 999 (nuS (h 3) n 0 999 (tE3 (h 3) n s)))))).2.1 = 0 := by rw [eb]; exact flS_n (by decide)
                have e : siS (h 3) n 59 (clS (h 3) n (tE3 (h 3) n s) 4) = abS (h 3) n (nuV (h 3) n 0 999 (nuS (h 3) n 0 999 (tE3 (h 3) n s))) (nuS (h 3) n 0 999 (abS (h 3) n (nuV (h 3) n 0 999 (tE3 (h 3) n s)) (nuS (h 3) n 0 999 (nuS (h 3) n 0 999 (tE3 (h 3) n s))))) := by
                  show siS (h 3) n 59 (nuS (h 3) n 0 999 (abS (h 3) n (nuV (h 3) n 0 999 (nuS (h 3) n 0 999 (tE3 (h 3) n s))) (nuS (h 3) n 0 999 (abS (h 3) n (nuV (h 3) n 0 999 (tE3 (h 3) n s)) (nuS (h 3) n 0 999 (nuS (h 3) n 0 999 (tE3 (h 3) n s))))))) = _
                  rw [nuS_f ne, siS_f ne]
                exact ⟨_, rfl, k1 _ (F_73.tr (FrA.of f0_113)) (by rw [e]; exact f1_113) (by rw [e]; exact ne)⟩
            · refine r_if_ne (tgt := 94) dX12_clipRead_89 rfl ⟨by decide, by decide⟩ (fun c_89 => absurd c_89 (by decide)) (fun c_89 => ?_)
              refine r_iconst dX12_clipRead_92 ?_
              refine r_zret dX12_clipRead_93 rfl (.inl rfl) ?_
              rw [F_73.b] at f1_86 f2_86
              have eb := abS_nu f1_73.2.2.2.1 f3_73 r1.2 f2_86
              have e : siS (h 3) n 59 (clS (h 3) n (tE3 (h 3) n s) 4) = nuS (h 3) n 0 999 (nuS (h 3) n 0 999 (abS (h 3) n (nuV (h 3) n 0 999 (tE3 (h 3) n s)) (nuS (h 3) n 0 999 (nuS (h 3) n 0 999 (tE3 (h 3) n s))))) := by
                show siS (h 3) n 59 (nuS (h 3) n 0 999 (abS (h 3) n (nuV (h 3) n 0 999 (nuS (h 3) n 0 999 (tE3 (h 3) n s))) (nuS (h 3) n 0 999 (abS (h 3) n (nuV (h 3) n 0 999 (tE3 (h 3) n s)) (nuS (h 3) n 0 999 (nuS (h 3) n 0 999 (tE3 (h 3) n s))))))) = _
                rw [eb, siS_f f2_86]
              exact ⟨_, rfl, k1 _ (F_73.tr (FrA.of f0_86)) (by rw [e]; exact f1_86) (by rw [e]; exact f2_86)⟩
          · refine r_if_ne (tgt := 81) dX12_clipRead_76 rfl ⟨by decide, by decide⟩ (fun c_76 => absurd c_76 (by decide)) (fun c_76 => ?_)
            refine r_iconst dX12_clipRead_79 ?_
            refine r_zret dX12_clipRead_80 rfl (.inl rfl) ?_
            rw [F_24.b] at f1_73 f2_73
            have e : siS (h 3) n 59 (clS (h 3) n (tE3 (h 3) n s) 4) = nuS (h 3) n 0 999 (abS (h 3) n (nuV (h 3) n 0 999 (tE3 (h 3) n s)) (nuS (h 3) n 0 999 (nuS (h 3) n 0 999 (tE3 (h 3) n s)))) := by
              show siS (h 3) n 59 (nuS (h 3) n 0 999 (abS (h 3) n (nuV (h 3) n 0 999 (nuS (h 3) n 0 999 (tE3 (h 3) n s))) (nuS (h 3) n 0 999 (abS (h 3) n (nuV (h 3) n 0 999 (tE3 (h 3) n s)) (nuS (h 3) n 0 999 (nuS (h 3) n 0 999 (tE3 (h 3) n s))))))) = _
              rw [abS_f f2_73, nuS_f f2_73, siS_f f2_73]
            exact ⟨_, rfl, k1 _ (F_24.tr (FrA.of f0_73)) (by rw [e]; exact f1_73) (by rw [e]; exact f2_73)⟩
        · refine r_aload_n dX12_clipRead_60 rfl rfl ?_
          refine r_iconst dX12_clipRead_61 ?_
          refine r_callVI (av := [_]) (M' := mX12_wrong) dX12_clipRead_62 vX12_wrong ml_X12_247 sh_49 (by decide) rfl rfl rfl rfl (by simp [wtA]) (sp_X12_wrong (by omega) (F_24.mx hx) f1_24 f3_24 (by omega) (fun h_62 f0_62 f1_62 => ?_))
          refine r_zret dX12_clipRead_65 rfl (.inl rfl) ?_
          rw [F_24.b] at f1_62
          have ea := abS_y (fl := nuV (h 3) n 0 999 (tE3 (h 3) n s)) f3_24 ⟨n1.1, by omega⟩
          rw [← ea] at f1_62
          have ne : ¬ (abS (h 3) n (nuV (h 3) n 0 999 (tE3 (h 3) n s)) (nuS (h 3) n 0 999 (nuS (h 3) n 0 999 (tE3 (h 3) n s)))).2.1 = 0 := by rw [ea]; exact flS_n (by decide)
          have e : siS (h 3) n 59 (clS (h 3) n (tE3 (h 3) n s) 4) = abS (h 3) n (nuV (h 3) n 0 999 (tE3 (h 3) n s)) (nuS (h 3) n 0 999 (nuS (h 3) n 0 999 (tE3 (h 3) n s))) := by
            show siS (h 3) n 59 (nuS (h 3) n 0 999 (abS (h 3) n (nuV (h 3) n 0 999 (nuS (h 3) n 0 999 (tE3 (h 3) n s))) (nuS (h 3) n 0 999 (abS (h 3) n (nuV (h 3) n 0 999 (tE3 (h 3) n s)) (nuS (h 3) n 0 999 (nuS (h 3) n 0 999 (tE3 (h 3) n s))))))) = _
            rw [nuS_f ne, abS_f ne, nuS_f ne, siS_f ne]
          exact ⟨_, rfl, k1 _ (F_24.tr (FrA.of f0_62)) (by rw [e]; exact f1_62) (by rw [e]; exact ne)⟩
      · refine r_if_ne (tgt := 45) dX12_clipRead_40 rfl ⟨by decide, by decide⟩ (fun c_40 => absurd c_40 (by decide)) (fun c_40 => ?_)
        refine r_iconst dX12_clipRead_43 ?_
        refine r_zret dX12_clipRead_44 rfl (.inl rfl) ?_
        rw [F_24.b] at f1_37 f2_37
        have ea := abS_nu f1_24.2.2.2.1 f3_24 r0.2 f2_37
        have e : siS (h 3) n 59 (clS (h 3) n (tE3 (h 3) n s) 4) = nuS (h 3) n 0 999 (nuS (h 3) n 0 999 (nuS (h 3) n 0 999 (tE3 (h 3) n s))) := by
          show siS (h 3) n 59 (nuS (h 3) n 0 999 (abS (h 3) n (nuV (h 3) n 0 999 (nuS (h 3) n 0 999 (tE3 (h 3) n s))) (nuS (h 3) n 0 999 (abS (h 3) n (nuV (h 3) n 0 999 (tE3 (h 3) n s)) (nuS (h 3) n 0 999 (nuS (h 3) n 0 999 (tE3 (h 3) n s))))))) = _
          rw [ea, abS_f f2_37, nuS_f f2_37, siS_f f2_37]
        exact ⟨_, rfl, k1 _ (F_24.tr (FrA.of f0_37)) (by rw [e]; exact f1_37) (by rw [e]; exact f2_37)⟩
    · refine r_if_ne (tgt := 32) dX12_clipRead_27 rfl ⟨by decide, by decide⟩ (fun c_27 => absurd c_27 (by decide)) (fun c_27 => ?_)
      refine r_iconst dX12_clipRead_30 ?_
      refine r_zret dX12_clipRead_31 rfl (.inl rfl) ?_
      rw [F_11.b] at f1_24 f2_24
      have e : siS (h 3) n 59 (clS (h 3) n (tE3 (h 3) n s) 4) = nuS (h 3) n 0 999 (nuS (h 3) n 0 999 (tE3 (h 3) n s)) := by
        show siS (h 3) n 59 (nuS (h 3) n 0 999 (abS (h 3) n (nuV (h 3) n 0 999 (nuS (h 3) n 0 999 (tE3 (h 3) n s))) (nuS (h 3) n 0 999 (abS (h 3) n (nuV (h 3) n 0 999 (tE3 (h 3) n s)) (nuS (h 3) n 0 999 (nuS (h 3) n 0 999 (tE3 (h 3) n s))))))) = _
        rw [abS_f f2_24, nuS_f f2_24, abS_f f2_24, nuS_f f2_24, siS_f f2_24]
      exact ⟨_, rfl, k1 _ (F_11.tr (FrA.of f0_24)) (by rw [e]; exact f1_24) (by rw [e]; exact f2_24)⟩
  · refine r_if_eq (tgt := 30) dX12_clipRead_14 rfl ⟨by decide, by decide⟩ (fun c_14 => ?_) (fun c_14 => absurd c_14 (by decide))
    refine r_iconst dX12_clipRead_30 ?_
    refine r_zret dX12_clipRead_31 rfl (.inl rfl) ?_
    rw [F1.b] at f1_11 f2_11
    have e : siS (h 3) n 59 (clS (h 3) n (tE3 (h 3) n s) 4) = nuS (h 3) n 0 999 (tE3 (h 3) n s) := by
      show siS (h 3) n 59 (nuS (h 3) n 0 999 (abS (h 3) n (nuV (h 3) n 0 999 (nuS (h 3) n 0 999 (tE3 (h 3) n s))) (nuS (h 3) n 0 999 (abS (h 3) n (nuV (h 3) n 0 999 (tE3 (h 3) n s)) (nuS (h 3) n 0 999 (nuS (h 3) n 0 999 (tE3 (h 3) n s))))))) = _
      rw [nuS_f f2_11, abS_f f2_11, nuS_f f2_11, abS_f f2_11, nuS_f f2_11, siS_f f2_11]
    exact ⟨_, rfl, k1 _ (F1.tr (FrA.of f0_11)) (by rw [e]; exact f1_11) (by rw [e]; exact f2_11)⟩
theorem aoS_f {b : Nat → Int} {n : Nat} {op : Int} {s : Sg} (h : ¬ s.2.1 = 0) : aoS b n op s = s := by
  unfold aoS
  rw [flS_f h]
  split <;> rfl
set_option maxRecDepth 20000 in
set_option maxHeartbeats 400000 in
theorem sp_X12_againRead {d : Nat} (hd : 7 ≤ d) {h : Hp} {n a : Nat} {s : Sg} (hx : MX h n) (hp : MS h n s) (h0 : s.2.1 = 0) (ha : a < 60) (ho : 0 ≤ h 49 22 ∧ h 49 22 ≤ 5) {P : Int → Hp → Prop} (k0 : ∀ h' : Hp, (∀ x k, ¬ (x = 49 ∧ (k = 10 ∨ k = 11 ∨ k = 14 ∨ k = 15 ∨ k = 16 ∨ k = 17)) → ¬ (x = 53 ∧ 5 * a ≤ k ∧ k < 5 * a + 5) → ¬ (x = 49 ∧ k = 22) → ¬ (x = 55 ∧ k = (h 49 22).toNat) → h' x k = h x k) → (MS h' n (agS (h 3) n (h 49 22) (tE3 (h 3) n s))) → ((agS (h 3) n (h 49 22) (tE3 (h 3) n s)).2.1 = 0) → (∀ q : Nat, q < 3 → h' 53 (5 * a + q) = arV (h 3) n (tE3 (h 3) n s) q) → (h' 55 (h 49 22).toNat = a) → (h' 49 22 = h 49 22 + 1) → (h 49 22 < 5) → P (1) h') (k1 : ∀ h' : Hp, (FrA a h h') → (MS h' n (agS (h 3) n (h 49 22) (tE3 (h 3) n s))) → (¬ (agS (h 3) n (h 49 22) (tE3 (h 3) n s)).2.1 = 0) → P (0) h') : Cl d mX12_againRead [.inr (.inr 49), .inl (a : Int)] h (pI P) := by
  refine Cl.of (L := [some (.inr (.inr 49)), some (.inl (a : Int))]) (by decide +kernel) (Nat.le_of_ble_eq_true rfl) rfl ?_
  obtain ⟨d, rfl⟩ : ∃ q, d = q + 1 := ⟨d - 1, by omega⟩
  refine r_aload_n dX12_againRead_0 rfl rfl ?_
  refine r_callVU (av := []) (M' := mX12_take) dX12_againRead_1 vX12_take ml_X12_253 sh_49 (by decide) rfl rfl rfl rfl (by simp [wtA]) (sp_X12_take (n := n) (p := tE (h 3) n s.1) (by omega) ⟨hx.1, hx.2.1⟩ ⟨hp.1.2.1, (tE_r hp.2.2.2.1).2.1⟩ hx.2.2.1 hx.2.2.2 (fun h_1 f0_1 f1_1 => ?_))
  have st := hp.step f0_1 f1_1
  have p1 := st.1
  have z1 : (tE3 (h 3) n s).2.1 = 0 := h0
  have F1 : FrA a h h_1 := FrA.of st.2
  have b1 := st.2.b
  refine r_aload_n dX12_againRead_4 rfl rfl ?_
  refine r_iload_n dX12_againRead_5 rfl rfl ?_
  refine r_iconst dX12_againRead_6 ?_
  refine r_iconst dX12_againRead_7 ?_
  refine r_bipush dX12_againRead_8 (by decide +kernel) ?_
  refine r_callVI (av := [_, _, _, _]) (M' := mX12_told) dX12_againRead_10 vX12_told ml_X12_259 sh_49 (by decide) rfl rfl rfl rfl (by simp [wtA]) (sp_X12_told (n := n) (a := a) (q := 0) (s := tE3 (h 3) n s) (by omega) (F1.mx hx) p1 z1 ha (by decide) (by decide) (by decide) (fun h_10 f0_10 f1_10 f2_10 f3_10 => ?_) (fun h_10 f0_10 f1_10 f2_10 => ?_))
  · refine r_if_eq (tgt := 34) dX12_againRead_13 rfl ⟨by decide, by decide⟩ (fun c_13 => absurd c_13 (by decide)) (fun c_13 => ?_)
    rw [F1.b] at f1_10 f2_10 f3_10
    have F_10 : FrA a h h_10 := fun x k z1 z2 => (f0_10 x k z1 (by omega)).trans (F1 x k z1 z2)
    have v10_0 : h_10 53 (5 * a + 0) = nuV (h 3) n 0 99 (tE3 (h 3) n s) := f2_10
    refine r_aload_n dX12_againRead_16 rfl rfl ?_
    refine r_iload_n dX12_againRead_17 rfl rfl ?_
    refine r_iconst dX12_againRead_18 ?_
    refine r_callVI (av := [_, _]) (M' := mX12_signed) dX12_againRead_19 vX12_signed ml_X12_270 sh_49 (by decide) rfl rfl rfl rfl (by simp [wtA]) (sp_X12_signed (n := n) (a := a) (q := 1) (s := nuS (h 3) n 0 99 (tE3 (h 3) n s)) (by omega) (F_10.mx hx) f1_10 f3_10 ha (by decide) (fun h_19 f0_19 f1_19 f2_19 f3_19 => ?_) (fun h_19 f0_19 f1_19 f2_19 => ?_))
    · refine r_if_eq (tgt := 34) dX12_againRead_22 rfl ⟨by decide, by decide⟩ (fun c_22 => absurd c_22 (by decide)) (fun c_22 => ?_)
      rw [F_10.b] at f1_19 f2_19 f3_19
      have F_19 : FrA a h h_19 := fun x k z1 z2 => (f0_19 x k z1 (by omega)).trans (F_10 x k z1 z2)
      have v19_0 : h_19 53 (5 * a + 0) = nuV (h 3) n 0 99 (tE3 (h 3) n s) := by rw [f0_19 53 _ (by omega) (by omega)]; exact v10_0
      have v19_1 : h_19 53 (5 * a + 1) = sdV (h 3) n (nuS (h 3) n 0 99 (tE3 (h 3) n s)) := f2_19
      refine r_aload_n dX12_againRead_25 rfl rfl ?_
      refine r_iload_n dX12_againRead_26 rfl rfl ?_
      refine r_iconst dX12_againRead_27 ?_
      refine r_callVI (av := [_, _]) (M' := mX12_signed) dX12_againRead_28 vX12_signed ml_X12_270 sh_49 (by decide) rfl rfl rfl rfl (by simp [wtA]) (sp_X12_signed (n := n) (a := a) (q := 2) (s := sdS (h 3) n (nuS (h 3) n 0 99 (tE3 (h 3) n s))) (by omega) (F_19.mx hx) f1_19 f3_19 ha (by decide) (fun h_28 f0_28 f1_28 f2_28 f3_28 => ?_) (fun h_28 f0_28 f1_28 f2_28 => ?_))
      · refine r_if_ne (tgt := 36) dX12_againRead_31 rfl ⟨by decide, by decide⟩ (fun c_31 => ?_) (fun c_31 => absurd c_31 (by decide))
        rw [F_19.b] at f1_28 f2_28 f3_28
        have F_28 : FrA a h h_28 := fun x k z1 z2 => (f0_28 x k z1 (by omega)).trans (F_19 x k z1 z2)
        have v28_0 : h_28 53 (5 * a + 0) = nuV (h 3) n 0 99 (tE3 (h 3) n s) := by rw [f0_28 53 _ (by omega) (by omega)]; exact v19_0
        have v28_1 : h_28 53 (5 * a + 1) = sdV (h 3) n (nuS (h 3) n 0 99 (tE3 (h 3) n s)) := by rw [f0_28 53 _ (by omega) (by omega)]; exact v19_1
        have v28_2 : h_28 53 (5 * a + 2) = sdV (h 3) n (sdS (h 3) n (nuS (h 3) n 0 99 (tE3 (h 3) n s))) := f2_28
        have b28 := F_28.b
        have o28 := F_28 49 22 (by decide) (by omega)
        refine r_aload_n dX12_againRead_36 rfl rfl ?_
        refine r_bipush dX12_againRead_37 (by decide +kernel) ?_
        refine r_callVI (av := [_]) (M' := mX12_isSign) dX12_againRead_39 vX12_isSign ml_X12_256 sh_49 (by decide) rfl rfl rfl rfl (by simp [wtA]) (sp_X12_isSign (by omega) f1_28 (by omega) (fun b_39 => ?_) (fun b_39 => ?_))
        · refine r_if_ne (tgt := 51) dX12_againRead_42 rfl ⟨by decide, by decide⟩ (fun c_42 => ?_) (fun c_42 => absurd c_42 (by decide))
          refine r_aload_n dX12_againRead_51 rfl rfl ?_
          refine r_getI dX12_againRead_52 fl_X12_273 sh_49 rfl ?_
          refine r_iconst dX12_againRead_55 ?_
          refine r_icmp_ne (tgt := 65) dX12_againRead_56 rfl (by omega) ⟨by decide, by decide⟩ (fun c_56 => ?_) (fun c_56 => ?_)
          · refine r_aload_n dX12_againRead_65 rfl rfl ?_
            refine r_getR dX12_againRead_66 fl_X12_44 sh_49 rfl ?_
            refine r_aload_n dX12_againRead_69 rfl rfl ?_
            refine r_getI dX12_againRead_70 fl_X12_273 sh_49 rfl ?_
            refine r_iload_n dX12_againRead_73 rfl rfl ?_
            refine r_iast dX12_againRead_74 sh_55 (by decide) (by omega) ?_
            refine r_aload_n dX12_againRead_75 rfl rfl ?_
            refine r_dup dX12_againRead_76 (fun _ h => by cases h) ?_
            refine r_getI dX12_againRead_77 fl_X12_273 sh_49 rfl ?_
            refine r_eqI (up_nc (by decide)) ?_
            refine r_iconst dX12_againRead_80 ?_
            refine r_iadd dX12_againRead_81 ?_
            refine r_putI dX12_againRead_82 fl_X12_273 sh_49 rfl ?_
            rw [o28]
            refine r_gh (fun g eg => ?_)
            have gp : MS g n (sdS (h 3) n (sdS (h 3) n (nuS (h 3) n 0 99 (tE3 (h 3) n s)))) := by rw [eg]; exact (f1_28.up (by decide) (by omega)).up (by decide) (by decide)
            have gx : MX g n := by rw [eg]; exact ((F_28.mx hx).up (by decide) (by decide) (by decide) (by omega)).up (by decide) (by decide) (by decide) (by decide)
            have g3 : g 3 = h 3 := by rw [eg]; exact b28
            have go : g 49 22 = h 49 22 + 1 := by rw [eg, up_s]
            have g55 : g 55 (h 49 22).toNat = a := by rw [eg, up_nc (by decide), up_s]
            have gf : ∀ x k, ¬ (x = 49 ∧ k = 22) → ¬ (x = 55 ∧ k = (h 49 22).toNat) → g x k = h_28 x k := fun x k z1 z2 => by
              rw [eg]
              unfold upH
              rw [if_neg (by omega), if_neg (by omega)]
            clear eg
            refine r_aload_n dX12_againRead_85 rfl rfl ?_
            refine r_callVU (av := []) (M' := mX12_take) dX12_againRead_86 vX12_take ml_X12_253 sh_49 (by decide) rfl rfl rfl rfl (by simp [wtA]) (sp_X12_take (n := n) (p := tE (g 3) n (sdS (h 3) n (sdS (h 3) n (nuS (h 3) n 0 99 (tE3 (h 3) n s)))).1) (by omega) ⟨gx.1, gx.2.1⟩ ⟨gp.1.2.1, (tE_r gp.2.2.2.1).2.1⟩ gx.2.2.1 gx.2.2.2 (fun h_86 f0_86 f1_86 => ?_))
            refine r_iconst dX12_againRead_89 ?_
            refine r_zret dX12_againRead_90 rfl (.inr rfl) ?_
            have st2 := gp.step f0_86 f1_86
            rw [g3] at st2
            rw [b28] at b_39
            have e : agS (h 3) n (h 49 22) (tE3 (h 3) n s) = tE3 (h 3) n (sdS (h 3) n (sdS (h 3) n (nuS (h 3) n 0 99 (tE3 (h 3) n s)))) := by
              show siS (h 3) n 40 (aoS (h 3) n (h 49 22) (sdS (h 3) n (sdS (h 3) n (nuS (h 3) n 0 99 (tE3 (h 3) n s))))) = _
              have ea : aoS (h 3) n (h 49 22) (sdS (h 3) n (sdS (h 3) n (nuS (h 3) n 0 99 (tE3 (h 3) n s)))) = sdS (h 3) n (sdS (h 3) n (nuS (h 3) n 0 99 (tE3 (h 3) n s))) := if_neg (fun z => by omega)
              rw [ea]
              unfold siS
              rw [if_pos f3_28, if_pos b_39]
              rw [tE3_0 f3_28]
            refine ⟨_, rfl, k0 _ (fun x k z1 z2 z3 z4 => ?_) (by rw [e]; exact st2.1) (by rw [e]; exact f3_28) (fun q hq => ?_) ?_ ?_ (by omega)⟩
            · rw [st2.2 x k z1, gf x k z3 z4]
              exact F_28 x k z1 z2
            · rw [st2.2 53 _ (by omega), gf 53 _ (by omega) (by omega)]
              match q, hq with
              | 0, _ => exact v28_0
              | 1, _ => exact v28_1
              | 2, _ => exact v28_2
            · rw [st2.2 55 _ (by omega)]; exact g55
            · rw [st2.2 49 22 (by decide)]; exact go
          · refine r_aload_n dX12_againRead_59 rfl rfl ?_
            refine r_iconst dX12_againRead_60 ?_
            refine r_callVI (av := [_]) (M' := mX12_wrong) dX12_againRead_61 vX12_wrong ml_X12_247 sh_49 (by decide) rfl rfl rfl rfl (by simp [wtA]) (sp_X12_wrong (by omega) (F_28.mx hx) f1_28 f3_28 (by omega) (fun h_61 f0_61 f1_61 => ?_))
            refine r_zret dX12_againRead_64 rfl (.inl rfl) ?_
            rw [b28] at f1_61 b_39
            have ea : aoS (h 3) n (h 49 22) (sdS (h 3) n (sdS (h 3) n (nuS (h 3) n 0 99 (tE3 (h 3) n s)))) = flS (h 3) n 2 (sdS (h 3) n (sdS (h 3) n (nuS (h 3) n 0 99 (tE3 (h 3) n s)))) := if_pos ⟨b_39, by omega⟩
            have ne : ¬ (aoS (h 3) n (h 49 22) (sdS (h 3) n (sdS (h 3) n (nuS (h 3) n 0 99 (tE3 (h 3) n s))))).2.1 = 0 := by rw [ea]; exact flS_n (by decide)
            have e : agS (h 3) n (h 49 22) (tE3 (h 3) n s) = flS (h 3) n 2 (sdS (h 3) n (sdS (h 3) n (nuS (h 3) n 0 99 (tE3 (h 3) n s)))) := by
              show siS (h 3) n 40 (aoS (h 3) n (h 49 22) (sdS (h 3) n (sdS (h 3) n (nuS (h 3) n 0 99 (tE3 (h 3) n s))))) = _
              rw [siS_f ne, ea]
            exact ⟨_, rfl, k1 _ (F_28.tr (FrA.of f0_61)) (by rw [e]; exact f1_61) (by rw [e]; exact flS_n (by decide))⟩
        · refine r_if_ne (tgt := 51) dX12_againRead_42 rfl ⟨by decide, by decide⟩ (fun c_42 => absurd c_42 (by decide)) (fun c_42 => ?_)
          refine r_aload_n dX12_againRead_45 rfl rfl ?_
          refine r_iconst dX12_againRead_46 ?_
          refine r_callVI (av := [_]) (M' := mX12_wrong) dX12_againRead_47 vX12_wrong ml_X12_247 sh_49 (by decide) rfl rfl rfl rfl (by simp [wtA]) (sp_X12_wrong (by omega) (F_28.mx hx) f1_28 f3_28 (by omega) (fun h_47 f0_47 f1_47 => ?_))
          refine r_zret dX12_againRead_50 rfl (.inl rfl) ?_
          rw [b28] at f1_47 b_39
          have e : agS (h 3) n (h 49 22) (tE3 (h 3) n s) = flS (h 3) n 1 (sdS (h 3) n (sdS (h 3) n (nuS (h 3) n 0 99 (tE3 (h 3) n s)))) := by
            show siS (h 3) n 40 (aoS (h 3) n (h 49 22) (sdS (h 3) n (sdS (h 3) n (nuS (h 3) n 0 99 (tE3 (h 3) n s))))) = _
            have ea : aoS (h 3) n (h 49 22) (sdS (h 3) n (sdS (h 3) n (nuS (h 3) n 0 99 (tE3 (h 3) n s)))) = sdS (h 3) n (sdS (h 3) n (nuS (h 3) n 0 99 (tE3 (h 3) n s))) := if_neg (fun z => b_39 z.1)
            rw [ea]
            unfold siS flS
            rw [if_neg b_39]
          exact ⟨_, rfl, k1 _ (F_28.tr (FrA.of f0_47)) (by rw [e]; exact f1_47) (by rw [e]; exact flS_n (by decide))⟩
      · refine r_if_ne (tgt := 36) dX12_againRead_31 rfl ⟨by decide, by decide⟩ (fun c_31 => absurd c_31 (by decide)) (fun c_31 => ?_)
        refine r_iconst dX12_againRead_34 ?_
        refine r_zret dX12_againRead_35 rfl (.inl rfl) ?_
        rw [F_19.b] at f1_28 f2_28
        have e : agS (h 3) n (h 49 22) (tE3 (h 3) n s) = sdS (h 3) n (sdS (h 3) n (nuS (h 3) n 0 99 (tE3 (h 3) n s))) := by
          show siS (h 3) n 40 (aoS (h 3) n (h 49 22) (sdS (h 3) n (sdS (h 3) n (nuS (h 3) n 0 99 (tE3 (h 3) n s))))) = _
          rw [aoS_f f2_28, siS_f f2_28]
        exact ⟨_, rfl, k1 _ (F_19.tr (FrA.of f0_28)) (by rw [e]; exact f1_28) (by rw [e]; exact f2_28)⟩
    · refine r_if_eq (tgt := 34) dX12_againRead_22 rfl ⟨by decide, by decide⟩ (fun c_22 => ?_) (fun c_22 => absurd c_22 (by decide))
      refine r_iconst dX12_againRead_34 ?_
      refine r_zret dX12_againRead_35 rfl (.inl rfl) ?_
      rw [F_10.b] at f1_19 f2_19
      have e : agS (h 3) n (h 49 22) (tE3 (h 3) n s) = sdS (h 3) n (nuS (h 3) n 0 99 (tE3 (h 3) n s)) := by
        show siS (h 3) n 40 (aoS (h 3) n (h 49 22) (sdS (h 3) n (sdS (h 3) n (nuS (h 3) n 0 99 (tE3 (h 3) n s))))) = _
        rw [sdS_f f2_19]
        rw [aoS_f f2_19, siS_f f2_19]
      exact ⟨_, rfl, k1 _ (F_10.tr (FrA.of f0_19)) (by rw [e]; exact f1_19) (by rw [e]; exact f2_19)⟩
  · refine r_if_eq (tgt := 34) dX12_againRead_13 rfl ⟨by decide, by decide⟩ (fun c_13 => ?_) (fun c_13 => absurd c_13 (by decide))
    refine r_iconst dX12_againRead_34 ?_
    refine r_zret dX12_againRead_35 rfl (.inl rfl) ?_
    rw [F1.b] at f1_10 f2_10
    have e : agS (h 3) n (h 49 22) (tE3 (h 3) n s) = nuS (h 3) n 0 99 (tE3 (h 3) n s) := by
      show siS (h 3) n 40 (aoS (h 3) n (h 49 22) (sdS (h 3) n (sdS (h 3) n (nuS (h 3) n 0 99 (tE3 (h 3) n s))))) = _
      rw [sdS_f f2_10, sdS_f f2_10]
      rw [aoS_f f2_10, siS_f f2_10]
    exact ⟨_, rfl, k1 _ (F1.tr (FrA.of f0_10)) (by rw [e]; exact f1_10) (by rw [e]; exact f2_10)⟩
