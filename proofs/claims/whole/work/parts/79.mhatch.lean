/-! HATCHES -/
def htE (x1 x2 y1 gp sx sy : Int) (i : Nat) : Q4 := if i % 2 = 1 then (x2 + sx, y1 + (i : Int) * gp + sy, x1 + sx, y1 + (i : Int) * gp + sy) else (x1 + sx, y1 + (i : Int) * gp + sy, x2 + sx, y1 + (i : Int) * gp + sy)
theorem htE_1 {x1 x2 y1 gp sx sy y : Int} {i : Nat} (h : i % 2 = 1) (hy : y = y1 + (i : Int) * gp) : htE x1 x2 y1 gp sx sy i = (x2 + sx, y + sy, x1 + sx, y + sy) := by
  unfold htE
  rw [if_pos h, ← hy]
theorem htE_0 {x1 x2 y1 gp sx sy y : Int} {i : Nat} (h : i % 2 = 0) (hy : y = y1 + (i : Int) * gp) : htE x1 x2 y1 gp sx sy i = (x1 + sx, y + sy, x2 + sx, y + sy) := by
  unfold htE
  rw [if_neg (by omega), ← hy]
theorem ht_n {y y1 gp : Int} {i : Nat} (hy : y = y1 + (i : Int) * gp) : y + gp = y1 + ((i + 1 : Nat) : Int) * gp := by
  rw [hy, show ((i + 1 : Nat) : Int) = (i : Int) + 1 from rfl, Int.add_mul, Int.one_mul]
  omega
theorem ht_b {a b y sx sy : Int} (ha : 0 ≤ a ∧ a ≤ 999) (hb : 0 ≤ b ∧ b ≤ 999) (hy : 0 ≤ y ∧ y ≤ 999) (hs : (-500000 ≤ sx ∧ sx ≤ 500000) ∧ (-500000 ≤ sy ∧ sy ≤ 500000)) : LQ (a + sx, y + sy, b + sx, y + sy) := by
  show LnB (a + sx) (y + sy) (b + sx) (y + sy)
  omega
theorem r_eqb {d : Nat} {post : Pst} {pc : Nat} {a x1 x2 y : Int} {b : Nat} {z : Int} {g : Hp} (e : z = (b : Int)) (k : WW mX12_hatches d post pc [some (.inr (.inr 49)), some (.inl a), some (.inl x1), some (.inl x2), some (.inl (b : Int)), some (.inl y)] [] g) : WW mX12_hatches d post pc [some (.inr (.inr 49)), some (.inl a), some (.inl x1), some (.inl x2), some (.inl z), some (.inl y)] [] g := e ▸ k
set_option maxRecDepth 20000 in
set_option maxHeartbeats 400000 in
theorem lp_mhatch {d : Nat} (hd : 5 ≤ d) {P : Int → Hp → Prop} {h : Hp} {x1 x2 y1 y2 gp : Int} {a N : Nat} {T : Gm} (ha : a < 60) (hN : ∀ i : Nat, i < N ↔ y1 + (i : Int) * gp ≤ y2) (hn : h 53 (5 * a + 3) = y2 ∧ h 53 (5 * a + 4) = gp) (hy2 : 0 ≤ y2 ∧ y2 ≤ 999) (hgp : 1 ≤ gp ∧ gp ≤ 99) (hx1 : 0 ≤ x1 ∧ x1 ≤ 999) (hx2 : 0 ≤ x2 ∧ x2 ≤ 999) (hs : (-500000 ≤ h 49 34 ∧ h 49 34 ≤ 500000) ∧ (-500000 ≤ h 49 35 ∧ h 49 35 ≤ 500000)) (hw : WnR (wnM h)) (k0 : ∀ g : Hp, FrK h g → gmM g = T → g 49 12 = 0 → P 1 g) (k1 : ∀ g : Hp, FrK h g → gmM g = T → g 49 12 = 1 → P 0 g) : ∀ (nn : Nat) (i m : Nat) (y : Int) (g : Hp), (i + m = N) → (y = y1 + (i : Int) * gp) → (0 ≤ y ∧ y ≤ 1100) → (FrK h g) → (GmR (gmM g)) → (g 49 12 = 0) → (itF (wnM h) (htE x1 x2 y1 gp (h 49 34) (h 49 35)) m i (gmM g) = T) → m < nn → WW mX12_hatches (d + 1) (pI P) 35 [some (.inr (.inr 49)), some (.inl (a : Int)), some (.inl x1), some (.inl x2), some (.inl ((i % 2 : Nat) : Int)), some (.inl y)] [] g := by
  intro nn
  induction nn with
  | zero => intro i m y g hj hy hr gf gr g1 ge; intros; omega
  | succ nn ih =>
    intro i m y g hj hy hr gf gr g1 ge hmu
    have i3 : (5 * (a : Int) + 3).toNat = 5 * a + 3 := by omega
    have i4 : (5 * (a : Int) + 4).toNat = 5 * a + 4 := by omega
    refine r_iload dX12_hatches_35 rfl ?_
    refine r_aload_n dX12_hatches_37 rfl rfl ?_
    refine r_getR dX12_hatches_38 fl_X12_38 sh_49 rfl ?_
    refine r_iconst dX12_hatches_41 ?_
    refine r_iload_n dX12_hatches_42 rfl rfl ?_
    refine r_imul dX12_hatches_43 ?_
    refine r_iconst dX12_hatches_44 ?_
    refine r_iadd dX12_hatches_45 ?_
    refine r_iald dX12_hatches_46 sh_53 (by decide) (by clear ge gr hw hN; omega) ?_
    rw [i3, (gf 53 (5 * a + 3) (fun q => absurd q.1 (by decide)) (by decide) (by decide) (by decide) (by decide) (by decide)).trans hn.1]
    refine r_icmp_gt (tgt := 113) dX12_hatches_47 rfl (by clear ge gr hw hN; omega) (by clear ge gr hw hN; omega) (fun c_47 => ?_) (fun c_47 => ?_)
    · refine r_iconst dX12_hatches_113 ?_
      refine r_zret dX12_hatches_114 rfl (.inr rfl) ?_
      have m0 : m = 0 := by
        have := fun q => (hN i).mp q
        rcases Nat.eq_zero_or_pos m with z | z
        · exact z
        · have l := (hN i).mp (by clear ge gr hw hN; omega)
          rw [← hy] at l
          clear ge gr hw hN
          omega
      subst m0
      exact ⟨_, rfl, k0 g gf ge g1⟩
    · have n2 : i < N := (hN i).mpr (by rw [← hy]; clear ge gr hw hN; omega)
      obtain ⟨m, rfl⟩ : ∃ q, m = q + 1 := ⟨m - 1, by clear ge gr hw hN; omega⟩
      have p3 := gf 49 34 (by decide) (by decide) (by decide) (by decide) (by decide) (by decide)
      have p4 := gf 49 35 (by decide) (by decide) (by decide) (by decide) (by decide) (by decide)
      have f0 : (gmM g).2.2.2.2 = 0 := g1
      rw [itF, if_pos f0] at ge
      have p53 : g 53 (5 * a + 4) = gp := (gf 53 _ (fun q => absurd q.1 (by decide)) (by decide) (by decide) (by decide) (by decide) (by decide)).trans hn.2
      rcases (show i % 2 = 0 ∨ i % 2 = 1 by omega) with e | e
      · have eb : ((i % 2 : Nat) : Int) = 0 := by clear ge gr hw hN; omega
        rw [eb]
        refine r_aload_n dX12_hatches_50 rfl rfl ?_
        refine r_iload dX12_hatches_51 rfl ?_
        refine r_if_eq (tgt := 60) dX12_hatches_53 rfl ⟨by decide, by decide⟩ (fun c_53 => ?_) (fun c_53 => absurd c_53 (by decide))
        refine r_iload_n dX12_hatches_60 rfl rfl ?_
        refine r_iload dX12_hatches_61 rfl ?_
        refine r_iload dX12_hatches_63 rfl ?_
        refine r_if_eq (tgt := 72) dX12_hatches_65 rfl ⟨by decide, by decide⟩ (fun c_65 => ?_) (fun c_65 => absurd c_65 (by decide))
        refine r_iload_n dX12_hatches_72 rfl rfl ?_
        refine r_iload dX12_hatches_73 rfl ?_
        refine r_callVI (av := [_, _, _, _]) (M' := mX12_lines) dX12_hatches_75 vX12_lines ml_X12_314 sh_49 (by decide) rfl rfl rfl rfl (by simp [wtA]) (sp_X12_lines (by omega) (by rw [p3, p4]; exact ht_b hx1 hx2 ⟨by clear ge gr hw hN; omega, by clear ge gr hw hN; omega⟩ hs) (by rw [gf.wn]; exact hw) gr g1 (fun g2 f2 v2 z2 => ?_) (fun g2 f2 v2 z2 => ?_))
        · refine r_if_ne (tgt := 83) dX12_hatches_78 rfl ⟨by decide, by decide⟩ (fun c_78 => ?_) (fun c_78 => absurd c_78 (by decide))
          refine r_iload dX12_hatches_83 rfl ?_
          refine r_if_ne (tgt := 92) dX12_hatches_85 rfl ⟨by decide, by decide⟩ (fun c_85 => absurd c_85 (by decide)) (fun c_85 => ?_)
          refine r_iconst dX12_hatches_88 ?_
          refine r_goto (tgt := 93) dX12_hatches_89 rfl ?_
          refine r_istore (L' := [_, _, _, _, _, _]) dX12_hatches_93 rfl (by decide) rfl ?_
          refine r_iload dX12_hatches_95 rfl ?_
          refine r_aload_n dX12_hatches_97 rfl rfl ?_
          refine r_getR dX12_hatches_98 fl_X12_38 sh_49 rfl ?_
          refine r_iconst dX12_hatches_101 ?_
          refine r_iload_n dX12_hatches_102 rfl rfl ?_
          refine r_imul dX12_hatches_103 ?_
          refine r_iconst dX12_hatches_104 ?_
          refine r_iadd dX12_hatches_105 ?_
          refine r_iald dX12_hatches_106 sh_53 (by decide) (by clear ge gr hw hN; omega) ?_
          rw [i4, (f2 53 (5 * a + 4) (fun q => absurd q.1 (by decide)) (by decide) (by decide) (by decide) (by decide) (by decide)).trans p53]
          refine r_iadd dX12_hatches_107 ?_
          refine r_istore (L' := [_, _, _, _, _, _]) dX12_hatches_108 rfl (by decide) rfl ?_
          refine r_goto (tgt := 35) dX12_hatches_110 rfl ?_
          rw [p3, p4, gf.wn, ← (show htE x1 x2 y1 gp (h 49 34) (h 49 35) i = _ from htE_0 e hy)] at v2
          have r2 : GmR (gmM g2) := by rw [v2]; exact gr.li hw
          rw [← v2] at ge
          refine r_eqb (b := ((i + 1) % 2 : Nat)) ?_ (ih (i + 1) m (y + gp) g2 (by clear ge gr hw hN; omega) (ht_n hy) (by clear ge gr hw hN; omega) (gf.tr f2) r2 z2 ge (by clear ge gr hw hN; omega))
          clear ge gr hw hN
          omega
        · refine r_if_ne (tgt := 83) dX12_hatches_78 rfl ⟨by decide, by decide⟩ (fun c_78 => absurd c_78 (by decide)) (fun c_78 => ?_)
          refine r_iconst dX12_hatches_81 ?_
          refine r_zret dX12_hatches_82 rfl (.inl rfl) ?_
          rw [p3, p4, gf.wn, ← (show htE x1 x2 y1 gp (h 49 34) (h 49 35) i = _ from htE_0 e hy)] at v2
          rw [← v2, itF_f (show ¬ (gmM g2).2.2.2.2 = 0 from fun q => absurd (z2.symm.trans q) (by decide))] at ge
          exact ⟨_, rfl, k1 g2 (gf.tr f2) ge z2⟩
      · have eb : ((i % 2 : Nat) : Int) = 1 := by clear ge gr hw hN; omega
        rw [eb]
        refine r_aload_n dX12_hatches_50 rfl rfl ?_
        refine r_iload dX12_hatches_51 rfl ?_
        refine r_if_eq (tgt := 60) dX12_hatches_53 rfl ⟨by decide, by decide⟩ (fun c_53 => absurd c_53 (by decide)) (fun c_53 => ?_)
        refine r_iload_n dX12_hatches_56 rfl rfl ?_
        refine r_goto (tgt := 61) dX12_hatches_57 rfl ?_
        refine r_iload dX12_hatches_61 rfl ?_
        refine r_iload dX12_hatches_63 rfl ?_
        refine r_if_eq (tgt := 72) dX12_hatches_65 rfl ⟨by decide, by decide⟩ (fun c_65 => absurd c_65 (by decide)) (fun c_65 => ?_)
        refine r_iload_n dX12_hatches_68 rfl rfl ?_
        refine r_goto (tgt := 73) dX12_hatches_69 rfl ?_
        refine r_iload dX12_hatches_73 rfl ?_
        refine r_callVI (av := [_, _, _, _]) (M' := mX12_lines) dX12_hatches_75 vX12_lines ml_X12_314 sh_49 (by decide) rfl rfl rfl rfl (by simp [wtA]) (sp_X12_lines (by omega) (by rw [p3, p4]; exact ht_b hx2 hx1 ⟨by clear ge gr hw hN; omega, by clear ge gr hw hN; omega⟩ hs) (by rw [gf.wn]; exact hw) gr g1 (fun g2 f2 v2 z2 => ?_) (fun g2 f2 v2 z2 => ?_))
        · refine r_if_ne (tgt := 83) dX12_hatches_78 rfl ⟨by decide, by decide⟩ (fun c_78 => ?_) (fun c_78 => absurd c_78 (by decide))
          refine r_iload dX12_hatches_83 rfl ?_
          refine r_if_ne (tgt := 92) dX12_hatches_85 rfl ⟨by decide, by decide⟩ (fun c_85 => ?_) (fun c_85 => absurd c_85 (by decide))
          refine r_iconst dX12_hatches_92 ?_
          refine r_istore (L' := [_, _, _, _, _, _]) dX12_hatches_93 rfl (by decide) rfl ?_
          refine r_iload dX12_hatches_95 rfl ?_
          refine r_aload_n dX12_hatches_97 rfl rfl ?_
          refine r_getR dX12_hatches_98 fl_X12_38 sh_49 rfl ?_
          refine r_iconst dX12_hatches_101 ?_
          refine r_iload_n dX12_hatches_102 rfl rfl ?_
          refine r_imul dX12_hatches_103 ?_
          refine r_iconst dX12_hatches_104 ?_
          refine r_iadd dX12_hatches_105 ?_
          refine r_iald dX12_hatches_106 sh_53 (by decide) (by clear ge gr hw hN; omega) ?_
          rw [i4, (f2 53 (5 * a + 4) (fun q => absurd q.1 (by decide)) (by decide) (by decide) (by decide) (by decide) (by decide)).trans p53]
          refine r_iadd dX12_hatches_107 ?_
          refine r_istore (L' := [_, _, _, _, _, _]) dX12_hatches_108 rfl (by decide) rfl ?_
          refine r_goto (tgt := 35) dX12_hatches_110 rfl ?_
          rw [p3, p4, gf.wn, ← (show htE x1 x2 y1 gp (h 49 34) (h 49 35) i = _ from htE_1 e hy)] at v2
          have r2 : GmR (gmM g2) := by rw [v2]; exact gr.li hw
          rw [← v2] at ge
          refine r_eqb (b := ((i + 1) % 2 : Nat)) ?_ (ih (i + 1) m (y + gp) g2 (by clear ge gr hw hN; omega) (ht_n hy) (by clear ge gr hw hN; omega) (gf.tr f2) r2 z2 ge (by clear ge gr hw hN; omega))
          clear ge gr hw hN
          omega
        · refine r_if_ne (tgt := 83) dX12_hatches_78 rfl ⟨by decide, by decide⟩ (fun c_78 => absurd c_78 (by decide)) (fun c_78 => ?_)
          refine r_iconst dX12_hatches_81 ?_
          refine r_zret dX12_hatches_82 rfl (.inl rfl) ?_
          rw [p3, p4, gf.wn, ← (show htE x1 x2 y1 gp (h 49 34) (h 49 35) i = _ from htE_1 e hy)] at v2
          rw [← v2, itF_f (show ¬ (gmM g2).2.2.2.2 = 0 from fun q => absurd (z2.symm.trans q) (by decide))] at ge
          exact ⟨_, rfl, k1 g2 (gf.tr f2) ge z2⟩
