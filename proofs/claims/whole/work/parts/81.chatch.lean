set_option maxRecDepth 20000 in
set_option maxHeartbeats 400000 in
theorem lp_chatch {d : Nat} (hd : 4 ≤ d) {P : Hp → Prop} {h : Hp} {s x1 x2 y1 gp ab bt : Int} {M : Nat} {T : Gm} (hM : ∀ i : Nat, i < M ↔ y1 + (i : Int) * gp ≤ bt) (hy1 : 0 ≤ y1 ∧ y1 ≤ 999) (hbt : -600000 ≤ bt ∧ bt ≤ 999) (hgp : 1 ≤ gp ∧ gp ≤ 99) (hx1 : 0 ≤ x1 ∧ x1 ≤ 999) (hx2 : 0 ≤ x2 ∧ x2 ≤ 999) (hs : (-500000 ≤ h 30 3 ∧ h 30 3 ≤ 500000) ∧ (-500000 ≤ h 30 4 ∧ h 30 4 ≤ 500000)) (hw : WnR (wnC h)) (k : ∀ g : Hp, FrL h g → gmC g = T → P g) : ∀ (nn : Nat) (i m : Nat) (y : Int) (o : Option AV) (g : Hp), (i + m = M ∨ (m = 0 ∧ M ≤ i)) → (y = y1 + (i : Int) * gp) → (0 ≤ y ∧ y ≤ 1000000) → (i ≤ 1000000) → (FrL h g) → (GmR (gmC g)) → (g 30 10 = 0 ∨ g 30 10 = 1) → (itF (wnC h) (htE x1 x2 y1 gp (h 30 3) (h 30 4)) m i (gmC g) = T) → m < nn → WW mX5_drawHatch (d + 1) (pV P) 99 [some (.inr (.inr 30)), some (.inl s), some (.inl x1), some (.inl x2), some (.inl y1), some (.inl gp), some (.inl ab), some (.inl bt), some (.inl (i : Int)), o] [] g := by
  intro nn
  induction nn with
  | zero => intro i m y o g hj hy hr hi gf gr g1 ge; intros; omega
  | succ nn ih =>
    intro i m y o g hj hy hr hi gf gr g1 ge hmu
    refine r_iload dX5_drawHatch_99 rfl ?_
    refine r_iload dX5_drawHatch_101 rfl ?_
    refine r_iload dX5_drawHatch_103 rfl ?_
    refine r_imul dX5_drawHatch_105 ?_
    refine r_iadd dX5_drawHatch_106 ?_
    rw [← hy]
    refine r_iload dX5_drawHatch_107 rfl ?_
    refine r_icmp_gt (tgt := 180) dX5_drawHatch_109 rfl (by clear ge gr hw hM; omega) (by clear ge gr hw hM; omega) (fun c_109 => ?_) (fun c_109 => ?_)
    · refine r_vret dX5_drawHatch_180 rfl ?_
      refine ⟨rfl, k g gf ?_⟩
      rw [← ge]
      first
        | exact (itF_f (show ¬ (gmC g).2.2.2.2 = 0 from c_116) m i).symm
        | (have m0 : m = 0 := by
             rcases hj with z | z
             · rcases Nat.eq_zero_or_pos m with q | q
               · exact q
               · have l := (hM i).mp (by clear ge gr hw hM; omega)
                 rw [← hy] at l
                 clear ge gr hw hM
                 omega
             · exact z.1
           subst m0
           rfl)
    · refine r_aload_n dX5_drawHatch_112 rfl rfl ?_
      refine r_getI dX5_drawHatch_113 fl_X5_31 sh_30 rfl ?_
      refine r_if_ne (tgt := 180) dX5_drawHatch_116 rfl (by clear ge gr hw hM; omega) (fun c_116 => ?_) (fun c_116 => ?_)
      · refine r_vret dX5_drawHatch_180 rfl ?_
        refine ⟨rfl, k g gf ?_⟩
        rw [← ge]
        first
          | exact (itF_f (show ¬ (gmC g).2.2.2.2 = 0 from c_116) m i).symm
          | (have m0 : m = 0 := by
               rcases hj with z | z
               · rcases Nat.eq_zero_or_pos m with q | q
                 · exact q
                 · have l := (hM i).mp (by clear ge gr hw hM; omega)
                   rw [← hy] at l
                   clear ge gr hw hM
                   omega
               · exact z.1
             subst m0
             rfl)
      · have n2 : i < M := (hM i).mpr (by rw [← hy]; clear ge gr hw hM; omega)
        obtain ⟨m, rfl⟩ : ∃ q, m = q + 1 := ⟨m - 1, by clear ge gr hw hM; omega⟩
        have p3 := gf 30 3 (by decide) (by decide) (by decide) (by decide) (by decide) (by decide)
        have p4 := gf 30 4 (by decide) (by decide) (by decide) (by decide) (by decide) (by decide)
        have f0 : (gmC g).2.2.2.2 = 0 := c_116
        have ig := Int.mul_le_mul_of_nonneg_left hgp.1 (Int.natCast_nonneg i)
        rw [Int.mul_one] at ig
        rw [itF, if_pos f0] at ge
        rcases (show i % 2 = 0 ∨ i % 2 = 1 by omega) with e | e
        · have tm : ((i : Int)).tmod 2 = 0 := by rw [Int.tmod_eq_emod_of_nonneg (Int.natCast_nonneg i)]; clear ge gr hw hM; omega
          refine r_iload dX5_drawHatch_119 rfl ?_
          refine r_iconst dX5_drawHatch_121 ?_
          refine r_irem dX5_drawHatch_122 (by clear ge gr hw hM; omega) ⟨by decide, by decide⟩ (by decide) ?_
          refine r_eqI tm ?_
          refine r_iconst dX5_drawHatch_123 ?_
          refine r_icmp_ne (tgt := 131) dX5_drawHatch_124 rfl ⟨by decide, by decide⟩ ⟨by decide, by decide⟩ (fun c_124 => ?_) (fun c_124 => absurd c_124 (by decide))
          refine r_iconst dX5_drawHatch_131 ?_
          refine r_istore (L' := [_, _, _, _, _, _, _, _, _, _]) dX5_drawHatch_132 rfl (by decide) rfl ?_
          refine r_aload_n dX5_drawHatch_134 rfl rfl ?_
          refine r_iload dX5_drawHatch_135 rfl ?_
          refine r_if_eq (tgt := 144) dX5_drawHatch_137 rfl ⟨by decide, by decide⟩ (fun c_137 => ?_) (fun c_137 => absurd c_137 (by decide))
          refine r_iload_n dX5_drawHatch_144 rfl rfl ?_
          refine r_iload dX5_drawHatch_145 rfl ?_
          refine r_iload dX5_drawHatch_147 rfl ?_
          refine r_iload dX5_drawHatch_149 rfl ?_
          refine r_imul dX5_drawHatch_151 ?_
          refine r_iadd dX5_drawHatch_152 ?_
          rw [← hy]
          refine r_iload dX5_drawHatch_153 rfl ?_
          refine r_if_eq (tgt := 162) dX5_drawHatch_155 rfl ⟨by decide, by decide⟩ (fun c_155 => ?_) (fun c_155 => absurd c_155 (by decide))
          refine r_iload_n dX5_drawHatch_162 rfl rfl ?_
          refine r_iload dX5_drawHatch_163 rfl ?_
          refine r_iload dX5_drawHatch_165 rfl ?_
          refine r_iload dX5_drawHatch_167 rfl ?_
          refine r_imul dX5_drawHatch_169 ?_
          refine r_iadd dX5_drawHatch_170 ?_
          rw [← hy]
          refine r_callVU (av := [_, _, _, _]) (M' := mX5_drawLine) dX5_drawHatch_171 vX5_drawLine ml_X5_96 sh_30 (by decide) rfl rfl rfl rfl (by simp [wtA]) (sp_X5_drawLine (by omega) (by rw [p3, p4]; exact ht_b hx1 hx2 ⟨by clear ge gr hw hM; omega, by clear ge gr hw hM; omega⟩ hs) (by rw [gf.wn]; exact hw) gr c_116 (fun g2 f2 v2 => ?_))
          refine r_iinc (L' := [_, _, _, _, _, _, _, _, _, _]) dX5_drawHatch_174 rfl rfl (by decide) rfl ?_
          refine r_goto (tgt := 99) dX5_drawHatch_177 rfl ?_
          rw [p3, p4, gf.wn, ← (show htE x1 x2 y1 gp (h 30 3) (h 30 4) i = _ from htE_0 e hy)] at v2
          have r2 : GmR (gmC g2) := by rw [v2]; exact gr.li hw
          have b2 : B01 (gmC g2) := by rw [v2]; exact liF_01 g1
          rw [← v2] at ge
          exact ih (i + 1) m (y + gp) _ g2 (by clear ge gr hw hM; omega) (ht_n hy) (by clear ge gr hw hM; omega) (by clear ge gr hw hM; omega) (gf.tr f2) r2 b2 ge (by clear ge gr hw hM; omega)
        · have tm : ((i : Int)).tmod 2 = 1 := by rw [Int.tmod_eq_emod_of_nonneg (Int.natCast_nonneg i)]; clear ge gr hw hM; omega
          refine r_iload dX5_drawHatch_119 rfl ?_
          refine r_iconst dX5_drawHatch_121 ?_
          refine r_irem dX5_drawHatch_122 (by clear ge gr hw hM; omega) ⟨by decide, by decide⟩ (by decide) ?_
          refine r_eqI tm ?_
          refine r_iconst dX5_drawHatch_123 ?_
          refine r_icmp_ne (tgt := 131) dX5_drawHatch_124 rfl ⟨by decide, by decide⟩ ⟨by decide, by decide⟩ (fun c_124 => absurd rfl c_124) (fun c_124 => ?_)
          refine r_iconst dX5_drawHatch_127 ?_
          refine r_goto (tgt := 132) dX5_drawHatch_128 rfl ?_
          refine r_istore (L' := [_, _, _, _, _, _, _, _, _, _]) dX5_drawHatch_132 rfl (by decide) rfl ?_
          refine r_aload_n dX5_drawHatch_134 rfl rfl ?_
          refine r_iload dX5_drawHatch_135 rfl ?_
          refine r_if_eq (tgt := 144) dX5_drawHatch_137 rfl ⟨by decide, by decide⟩ (fun c_137 => absurd c_137 (by decide)) (fun c_137 => ?_)
          refine r_iload_n dX5_drawHatch_140 rfl rfl ?_
          refine r_goto (tgt := 145) dX5_drawHatch_141 rfl ?_
          refine r_iload dX5_drawHatch_145 rfl ?_
          refine r_iload dX5_drawHatch_147 rfl ?_
          refine r_iload dX5_drawHatch_149 rfl ?_
          refine r_imul dX5_drawHatch_151 ?_
          refine r_iadd dX5_drawHatch_152 ?_
          rw [← hy]
          refine r_iload dX5_drawHatch_153 rfl ?_
          refine r_if_eq (tgt := 162) dX5_drawHatch_155 rfl ⟨by decide, by decide⟩ (fun c_155 => absurd c_155 (by decide)) (fun c_155 => ?_)
          refine r_iload_n dX5_drawHatch_158 rfl rfl ?_
          refine r_goto (tgt := 163) dX5_drawHatch_159 rfl ?_
          refine r_iload dX5_drawHatch_163 rfl ?_
          refine r_iload dX5_drawHatch_165 rfl ?_
          refine r_iload dX5_drawHatch_167 rfl ?_
          refine r_imul dX5_drawHatch_169 ?_
          refine r_iadd dX5_drawHatch_170 ?_
          rw [← hy]
          refine r_callVU (av := [_, _, _, _]) (M' := mX5_drawLine) dX5_drawHatch_171 vX5_drawLine ml_X5_96 sh_30 (by decide) rfl rfl rfl rfl (by simp [wtA]) (sp_X5_drawLine (by omega) (by rw [p3, p4]; exact ht_b hx2 hx1 ⟨by clear ge gr hw hM; omega, by clear ge gr hw hM; omega⟩ hs) (by rw [gf.wn]; exact hw) gr c_116 (fun g2 f2 v2 => ?_))
          refine r_iinc (L' := [_, _, _, _, _, _, _, _, _, _]) dX5_drawHatch_174 rfl rfl (by decide) rfl ?_
          refine r_goto (tgt := 99) dX5_drawHatch_177 rfl ?_
          rw [p3, p4, gf.wn, ← (show htE x1 x2 y1 gp (h 30 3) (h 30 4) i = _ from htE_1 e hy)] at v2
          have r2 : GmR (gmC g2) := by rw [v2]; exact gr.li hw
          have b2 : B01 (gmC g2) := by rw [v2]; exact liF_01 g1
          rw [← v2] at ge
          exact ih (i + 1) m (y + gp) _ g2 (by clear ge gr hw hM; omega) (ht_n hy) (by clear ge gr hw hM; omega) (by clear ge gr hw hM; omega) (gf.tr f2) r2 b2 ge (by clear ge gr hw hM; omega)
