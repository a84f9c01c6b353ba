/-! DOALL, THE REFERENCE -/
def psM (dn : Int) (g : Hp) : Ps := (dn, g 49 34, g 49 35, wnM g, gmM g)
abbrev SkE (dp : Nat) (g u : Hp) : Prop := FrJ g u ∧ ∀ q : Nat, q < dp → u 64 q = g 64 q ∧ u 65 q = g 65 q ∧ ∀ j : Nat, j < 6 → u 66 (6 * q + j) = g 66 (6 * q + j)
theorem SkE.tr {dp : Nat} {g u w : Hp} (a : SkE dp g u) (b : SkE dp u w) : SkE dp g w := ⟨a.1.tr b.1, fun q hq => ⟨(b.2 q hq).1.trans (a.2 q hq).1, (b.2 q hq).2.1.trans (a.2 q hq).2.1, fun j hj => ((b.2 q hq).2.2 j hj).trans ((a.2 q hq).2.2 j hj)⟩⟩
theorem SkE.lo {dp n : Nat} {g u : Hp} (a : SkE dp g u) (h : n ≤ dp) : SkE n g u := ⟨a.1, fun q hq => a.2 q (by omega)⟩
theorem SkE.i {dp : Nat} {g u : Hp} (f : FrI g u) : SkE dp g u := ⟨f.j, fun q _ => ⟨f 64 q (by omega) (by omega) (by decide) (by decide), f 65 q (by omega) (by omega) (by decide) (by decide), fun j _ => f 66 _ (by omega) (by omega) (by decide) (by decide)⟩⟩
def Lst (g : Hp) (dp b : Nat) : Prop := dp = 0 ∨ (0 ≤ g 64 (dp - 1) ∧ g 64 (dp - 1) < 60 ∧ g 54 (g 64 (dp - 1)).toNat = b)
theorem Lst.sk {g u : Hp} {dp b : Nat} (l : Lst g dp b) (s : SkE dp g u) : Lst u dp b := by
  rcases Nat.eq_zero_or_pos dp with z | z
  · exact Or.inl z
  · right
    have l := l.resolve_left (by omega)
    rw [(s.2 (dp - 1) (by omega)).1, s.1.c (a := 54) (by decide)]
    exact l
set_option maxRecDepth 20000 in
set_option maxHeartbeats 400000 in
theorem d60 {d : Nat} {P : Hp → Prop} {g : Hp} {dp s b : Nat} {dn : Int} {o : Option AV} (hs : s < b) (hb : b ≤ 60) (hp : dp ≤ 5) (l : Lst g dp b) (k : WW mX12_doAll (d + 1) (pV P) 173 [some (.inr (.inr 49)), some (.inl ((dp : Int))), some (.inl (dn)), some (.inl ((s : Int))), o] [] g) : WW mX12_doAll (d + 1) (pV P) 60 [some (.inr (.inr 49)), some (.inl ((dp : Int))), some (.inl (dn)), some (.inl ((s : Int))), o] [] g := by
  refine r_iload_n dX12_doAll_60 rfl rfl ?_
  refine r_if_le (tgt := 173) dX12_doAll_61 rfl (by omega) (fun c_61 => ?_) (fun c_61 => ?_)
  · exact k
  · refine r_iload_n dX12_doAll_64 rfl rfl ?_
    refine r_aload_n dX12_doAll_65 rfl rfl ?_
    refine r_getR dX12_doAll_66 fl_X12_41 sh_49 rfl ?_
    refine r_aload_n dX12_doAll_69 rfl rfl ?_
    refine r_getR dX12_doAll_70 fl_X12_72 sh_49 rfl ?_
    refine r_iload_n dX12_doAll_73 rfl rfl ?_
    refine r_iconst dX12_doAll_74 ?_
    refine r_isub dX12_doAll_75 ?_
    refine r_iald dX12_doAll_76 sh_64 (by decide) (by omega) ?_
    have l2 := l.resolve_left (by omega)
    rw [show ((dp : Int) - 1).toNat = dp - 1 by omega]
    refine r_iald dX12_doAll_77 sh_54 (by decide) (by omega) ?_
    rw [l2.2.2]
    refine r_icmp_ne (tgt := 173) dX12_doAll_78 rfl (by omega) (by omega) (fun c_78 => ?_) (fun c_78 => absurd c_78 (by omega))
    exact k
def DoS (x : Hp) (F i d : Nat) (P : Hp → Prop) (r : Nat) : Prop := ∀ (a b : Nat), WN x r a b → b ≤ i → ∀ (m s dp : Nat) (dn : Int) (o : Option AV) (g : Hp), a ≤ s → s ≤ b → b ≤ s + m → dp + r = 5 → DM x g F i → PQ (x 1 0) (x 1 1) (98901 * (dp : Int)) (psM dn g) (psM dn g) → g 49 12 = 0 → Lst g dp b →
  (∀ (u : Hp) (dn' : Int) (o' : Option AV), SkE dp g u → psM dn' u = pfL x (rpD x r) b m s (psM dn g) → u 49 12 = 0 → WW mX12_doAll (d + 1) (pV P) 60 [some (.inr (.inr 49)), some (.inl ((dp : Int))), some (.inl (dn')), some (.inl ((b : Int))), o'] [] u) →
  (∀ u : Hp, FrJ g u → gmM u = (pfL x (rpD x r) b m s (psM dn g)).2.2.2.2 → ¬ u 49 12 = 0 → P u) → WW mX12_doAll (d + 1) (pV P) 60 [some (.inr (.inr 49)), some (.inl ((dp : Int))), some (.inl (dn)), some (.inl ((s : Int))), o] [] g
theorem pm_sh {dn : Int} {g : Hp} {q : Nat} {z dx dy : Int} : psM dn (upH (upH (upH g 65 q z) 49 34 (g 49 34 + dx)) 49 35 (g 49 35 + dy)) = shP dx dy (psM dn g) := rfl
set_option maxRecDepth 20000 in
set_option maxHeartbeats 400000 in
theorem dIt {x : Hp} {F i d r : Nat} (hd : 2 ≤ d) {P : Hp → Prop} (v : PV x F i) (c : WH (x 1 0) (x 1 1)) (HD : DoS x F i d P r) : ∀ (N t s e dp : Nat) (dn : Int) (o : Option AV) (g : Hp) (p0 : Ps), t < N → x 5 s = 6 → s < i → x 6 s = e → s ≤ e → e < i → WN x r (s + 1) (e + 1) → dp + 1 + r = 5 → DM x g F i → t < 99 → PQ (x 1 0) (x 1 1) (98901 * (dp : Int) + 999 * (98 - (t : Int))) (psM dn g) (psM dn g) → g 49 12 = 0 → g 64 dp = s → g 65 dp = ((t + 1 : Nat) : Int) → (g 66 (6 * dp) = p0.2.1 ∧ g 66 (6 * dp + 1) = p0.2.2.1 ∧ g 66 (6 * dp + 2) = p0.2.2.2.1.1 ∧ g 66 (6 * dp + 3) = p0.2.2.2.1.2.2.1 ∧ g 66 (6 * dp + 4) = p0.2.2.2.1.2.1 ∧ g 66 (6 * dp + 5) = p0.2.2.2.1.2.2.2) →
    (∀ (u : Hp) (dn' : Int) (o' : Option AV), SkE dp g u → psM dn' u = bkP p0 (rpF (pfL x (rpD x r) (e + 1) 61 (s + 1)) (x 8 (5 * s + 1)) (x 8 (5 * s + 2)) (t + 1) (psM dn g)) → u 49 12 = 0 → WW mX12_doAll (d + 1) (pV P) 60 [some (.inr (.inr 49)), some (.inl ((dp : Int))), some (.inl (dn')), some (.inl (((e + 1 : Nat) : Int))), o'] [] u) →
    (∀ u : Hp, FrJ g u → gmM u = (rpF (pfL x (rpD x r) (e + 1) 61 (s + 1)) (x 8 (5 * s + 1)) (x 8 (5 * s + 2)) (t + 1) (psM dn g)).2.2.2.2 → ¬ u 49 12 = 0 → P u) → WW mX12_doAll (d + 1) (pV P) 60 [some (.inr (.inr 49)), some (.inl (((dp + 1 : Nat) : Int))), some (.inl (dn)), some (.inl (((s + 1 : Nat) : Int))), o] [] g := by
  intro N
  induction N with
  | zero => intro t s e dp dn o g p0 h; omega
  | succ N ih =>
    intro t s e dp dn o g p0 hN h6 hs he hse hei wn hdp hD ht ok h0 g64 g65 hw K Kf
    have i60 := v.1.2
    obtain ⟨z0, z1, z2⟩ := (v.2.2 s hs).2.2.2.2.2 h6
    have g54 : g 54 s = (e : Int) + 1 := by rw [(hD.2.2.1 s hs).2.2 h6, he]
    have hT : ∀ (B : Int) (p q : Ps), PQ (x 1 0) (x 1 1) B p q → PQ (x 1 0) (x 1 1) B (pfL x (rpD x r) (e + 1) 61 (s + 1) p) (pfL x (rpD x r) (e + 1) 61 (s + 1) q) := fun B p q y => PQ.pf v (by omega) c (PQ.rd v c r (s + 1) (e + 1) wn (by omega)) 61 (s + 1) B p q (Nat.le_refl _) y
    refine HD (s + 1) (e + 1) wn (by omega) 61 (s + 1) (dp + 1) dn o g (Nat.le_refl _) (by omega) (by omega) hdp hD (ok.wd (by omega)) h0 (Or.inr ?_) (fun u dn' o' sk ep z => ?_) (fun u fu eu zu => ?_)
    · rw [Nat.add_sub_cancel, g64, Int.toNat_natCast, g54]
      exact ⟨by omega, by omega, rfl⟩
    · have e1 : (((dp + 1 : Nat) : Int) - 1).toNat = dp := by omega
      have u64 : u 64 dp = s := (sk.2 dp (by omega)).1.trans g64
      have u65 : u 65 dp = ((t + 1 : Nat) : Int) := (sk.2 dp (by omega)).2.1.trans g65
      have u54 : u 54 s = (e : Int) + 1 := by rw [sk.1.c (by decide)]; exact g54
      have i1 : (5 * (s : Int) + 1).toNat = 5 * s + 1 := by omega
      have i2 : (5 * (s : Int) + 2).toNat = 5 * s + 2 := by omega
      have n1 : u 53 (5 * s + 1) = x 8 (5 * s + 1) := (hD.f sk.1).n hs (by rw [h6]; decide) (by rw [h6]; decide)
      have n2 : u 53 (5 * s + 2) = x 8 (5 * s + 2) := (hD.f sk.1).n hs (by rw [h6]; decide) (by rw [h6]; decide)
      refine r_iload_n dX12_doAll_60 rfl rfl ?_
      refine r_if_le (tgt := 173) dX12_doAll_61 rfl (by omega) (fun c_61 => absurd c_61 (by omega)) (fun c_61 => ?_)
      refine r_iload_n dX12_doAll_64 rfl rfl ?_
      refine r_aload_n dX12_doAll_65 rfl rfl ?_
      refine r_getR dX12_doAll_66 fl_X12_41 sh_49 rfl ?_
      refine r_aload_n dX12_doAll_69 rfl rfl ?_
      refine r_getR dX12_doAll_70 fl_X12_72 sh_49 rfl ?_
      refine r_iload_n dX12_doAll_73 rfl rfl ?_
      refine r_iconst dX12_doAll_74 ?_
      refine r_isub dX12_doAll_75 ?_
      refine r_iald dX12_doAll_76 sh_64 (by decide) (by omega) ?_
      rw [e1, u64]
      refine r_iald dX12_doAll_77 sh_54 (by decide) (by omega) ?_
      rw [Int.toNat_natCast, u54]
      refine r_icmp_ne (tgt := 173) dX12_doAll_78 rfl (by omega) (by omega) (fun c_78 => absurd (show (((e + 1 : Nat) : Int)) = (e : Int) + 1 from rfl) c_78) (fun c_78 => ?_)
      refine r_aload_n dX12_doAll_81 rfl rfl ?_
      refine r_getR dX12_doAll_82 fl_X12_72 sh_49 rfl ?_
      refine r_iload_n dX12_doAll_85 rfl rfl ?_
      refine r_iconst dX12_doAll_86 ?_
      refine r_isub dX12_doAll_87 ?_
      refine r_iald dX12_doAll_88 sh_64 (by decide) (by omega) ?_
      rw [e1, u64]
      refine r_istore (L' := [_, _, _, _, _]) dX12_doAll_89 rfl (by decide) rfl ?_
      refine r_aload_n dX12_doAll_91 rfl rfl ?_
      refine r_getR dX12_doAll_92 fl_X12_75 sh_49 rfl ?_
      refine r_iload_n dX12_doAll_95 rfl rfl ?_
      refine r_iconst dX12_doAll_96 ?_
      refine r_isub dX12_doAll_97 ?_
      refine r_dup2 dX12_doAll_98 ?_
      refine r_iald dX12_doAll_99 sh_65 (by decide) (by omega) ?_
      rw [e1, u65]
      refine r_iconst dX12_doAll_100 ?_
      refine r_isub dX12_doAll_101 ?_
      refine r_iast dX12_doAll_102 sh_65 (by decide) (by omega) ?_
      rw [e1, show ((t + 1 : Nat) : Int) - 1 = (t : Int) by omega]
      refine r_aload_n dX12_doAll_103 rfl rfl ?_
      refine r_getR dX12_doAll_104 fl_X12_75 sh_49 rfl ?_
      refine r_iload_n dX12_doAll_107 rfl rfl ?_
      refine r_iconst dX12_doAll_108 ?_
      refine r_isub dX12_doAll_109 ?_
      refine r_iald dX12_doAll_110 sh_65 (by decide) (by omega) ?_
      rw [e1, up_s]
      refine r_if_le (tgt := 162) dX12_doAll_111 rfl (by omega) (fun c_111 => ?_) (fun c_111 => ?_)
      · refine r_iinc (L' := [_, _, _, _, _]) dX12_doAll_162 rfl rfl (by decide) rfl ?_
        refine r_aload_n dX12_doAll_165 rfl rfl ?_
        refine r_iload_n dX12_doAll_166 rfl rfl ?_
        rw [show ((dp + 1 : Nat) : Int) + (-1) = (dp : Int) by omega]
        refine r_callVU (av := [_]) (M' := mX12_backTo) dX12_doAll_167 vX12_backTo ml_X12_329 sh_49 (by decide) rfl rfl rfl rfl (by simp [wtA]) (sp_X12_backTo (i := dp) (by omega) (by omega) (fun w fw vw => ?_))
        refine r_goto (tgt := 60) dX12_doAll_170 rfl ?_
        have t0 : t = 0 := by omega
        subst t0
        have r1 : rpF (pfL x (rpD x r) (e + 1) 61 (s + 1)) (x 8 (5 * s + 1)) (x 8 (5 * s + 2)) (0 + 1) (psM dn g) = shP (x 8 (5 * s + 1)) (x 8 (5 * s + 2)) (psM dn' u) := by
          rw [rpF, if_pos (show flP (psM dn g) = 0 from h0), ep]
          rfl
        have sw : SkE dp g w := by
          refine ⟨fun a k z1 z2 => ?_, fun q hq => ⟨?_, ?_, fun j hj => ?_⟩⟩
          · rw [fw a k (by omega) (by omega), up_nc (by omega)]
            exact sk.1 a k z1 z2
          · rw [fw 64 q (by omega) (by omega), up_nc (by decide)]
            exact (sk.2 q (by omega)).1
          · rw [fw 65 q (by omega) (by omega), up_nk (by omega)]
            exact (sk.2 q (by omega)).2.1
          · rw [fw 66 _ (by omega) (by omega), up_nc (by decide)]
            exact (sk.2 q (by omega)).2.2 j hj
        have b0 := (sk.2 dp (by omega)).2.2
        have ew : psM dn' w = bkP p0 (psM dn' u) := by
          obtain ⟨a0, a1, a2, a3, a4, a5⟩ := vw
          have c0 : w 49 34 = p0.2.1 := a0.trans ((up_nc (by decide)).trans ((b0 0 (by decide)).trans hw.1))
          have c1 : w 49 35 = p0.2.2.1 := a1.trans ((up_nc (by decide)).trans ((b0 1 (by decide)).trans hw.2.1))
          have c2 : w 63 0 = p0.2.2.2.1.1 := a2.trans ((up_nc (by decide)).trans ((b0 2 (by decide)).trans hw.2.2.1))
          have c3 : w 63 1 = p0.2.2.2.1.2.2.1 := a3.trans ((up_nc (by decide)).trans ((b0 3 (by decide)).trans hw.2.2.2.1))
          have c4 : w 63 2 = p0.2.2.2.1.2.1 := a4.trans ((up_nc (by decide)).trans ((b0 4 (by decide)).trans hw.2.2.2.2.1))
          have c5 : w 63 3 = p0.2.2.2.1.2.2.2 := a5.trans ((up_nc (by decide)).trans ((b0 5 (by decide)).trans hw.2.2.2.2.2))
          have c6 : gmM w = gmM u := by
            have z : ∀ a, 60 ≤ a ∧ a ≤ 62 → w a = u a := fun a ha => funext fun j => (fw a j (by omega) (by omega)).trans (up_nc (by omega))
            unfold gmM
            rw [z 60 (by decide), z 61 (by decide), z 62 (by decide), (fw 49 29 (by decide) (by decide)).trans (up_nc (by decide)), (fw 49 12 (by decide) (by decide)).trans (up_nc (by decide))]
          have cw : wnM w = p0.2.2.2.1 := by
            unfold wnM
            rw [c2, c3, c4, c5]
          unfold psM
          rw [c0, c1, c6, cw]
          rfl
        exact K w dn' _ sw (by rw [ew, r1]; rfl) ((fw 49 12 (by decide) (by decide)).trans ((up_nc (by decide)).trans z))
      · refine r_aload_n dX12_doAll_114 rfl rfl ?_
        refine r_dup dX12_doAll_115 (fun _ h => by cases h) ?_
        refine r_getI dX12_doAll_116 fl_X12_297 sh_49 rfl ?_
        refine r_eqI (up_nc (by decide)) ?_
        refine r_aload_n dX12_doAll_119 rfl rfl ?_
        refine r_getR dX12_doAll_120 fl_X12_38 sh_49 rfl ?_
        refine r_iconst dX12_doAll_123 ?_
        refine r_iload dX12_doAll_124 rfl ?_
        refine r_imul dX12_doAll_126 ?_
        refine r_iconst dX12_doAll_127 ?_
        refine r_iadd dX12_doAll_128 ?_
        refine r_iald dX12_doAll_129 sh_53 (by decide) (by omega) ?_
        refine r_eqI (up_nc (by decide)) ?_
        rw [i1, n1]
        refine r_iadd dX12_doAll_130 ?_
        refine r_putI dX12_doAll_131 fl_X12_297 sh_49 rfl ?_
        refine r_aload_n dX12_doAll_134 rfl rfl ?_
        refine r_dup dX12_doAll_135 (fun _ h => by cases h) ?_
        refine r_getI dX12_doAll_136 fl_X12_300 sh_49 rfl ?_
        refine r_eqI (((up_nk (by decide)).trans (up_nc (by decide)))) ?_
        refine r_aload_n dX12_doAll_139 rfl rfl ?_
        refine r_getR dX12_doAll_140 fl_X12_38 sh_49 rfl ?_
        refine r_iconst dX12_doAll_143 ?_
        refine r_iload dX12_doAll_144 rfl ?_
        refine r_imul dX12_doAll_146 ?_
        refine r_iconst dX12_doAll_147 ?_
        refine r_iadd dX12_doAll_148 ?_
        refine r_iald dX12_doAll_149 sh_53 (by decide) (by omega) ?_
        refine r_eqI (((up_nc (by decide)).trans (up_nc (by decide)))) ?_
        rw [i2, n2]
        refine r_iadd dX12_doAll_150 ?_
        refine r_putI dX12_doAll_151 fl_X12_300 sh_49 rfl ?_
        refine r_iload dX12_doAll_154 rfl ?_
        refine r_iconst dX12_doAll_156 ?_
        refine r_iadd dX12_doAll_157 ?_
        refine r_istore_n (L' := [_, _, _, _, _]) dX12_doAll_158 rfl rfl (by decide) rfl ?_
        refine r_goto (tgt := 60) dX12_doAll_159 rfl ?_
        obtain ⟨t, rfl⟩ : ∃ q, t = q + 1 := ⟨t - 1, by omega⟩
        have r1 : rpF (pfL x (rpD x r) (e + 1) 61 (s + 1)) (x 8 (5 * s + 1)) (x 8 (5 * s + 2)) (t + 1 + 1) (psM dn g) = rpF (pfL x (rpD x r) (e + 1) 61 (s + 1)) (x 8 (5 * s + 1)) (x 8 (5 * s + 2)) (t + 1) (shP (x 8 (5 * s + 1)) (x 8 (5 * s + 2)) (psM dn' u)) := by
          rw [rpF, if_pos (show flP (psM dn g) = 0 from h0), ep]
        have o2 := (hT _ _ _ ok).sh z1 z2
        rw [← ep] at o2
        rw [r1, ← pm_sh (q := dp) (z := ((t + 1 : Nat) : Int))] at K
        rw [r1, ← pm_sh (q := dp) (z := ((t + 1 : Nat) : Int))] at Kf
        rw [← pm_sh (q := dp) (z := ((t + 1 : Nat) : Int))] at o2
        have sw : SkE dp g (upH (upH (upH u 65 dp ((t + 1 : Nat) : Int)) 49 34 (u 49 34 + x 8 (5 * s + 1))) 49 35 (u 49 35 + x 8 (5 * s + 2))) := by
          refine ⟨fun a k z1 z2 => ?_, fun q hq => ⟨?_, ?_, fun j hj => ?_⟩⟩
          · have e9 : upH (upH (upH u 65 dp ((t + 1 : Nat) : Int)) 49 34 (u 49 34 + x 8 (5 * s + 1))) 49 35 (u 49 35 + x 8 (5 * s + 2)) a k = u a k := by
              unfold upH
              rw [if_neg (by omega), if_neg (by omega), if_neg (by omega)]
            rw [e9]
            exact sk.1 a k z1 z2
          · rw [up_nc (by decide), up_nc (by decide), up_nc (by decide)]
            exact (sk.2 q (by omega)).1
          · rw [up_nc (by decide), up_nc (by decide), up_nk (by omega)]
            exact (sk.2 q (by omega)).2.1
          · rw [up_nc (by decide), up_nc (by decide), up_nc (by decide)]
            exact (sk.2 q (by omega)).2.2 j hj
        have b0 := (sk.2 dp (by omega)).2.2
        refine ih t s e dp dn' _ _ p0 (by omega) h6 hs he hse hei wn hdp (hD.f sw.1) (by omega) (o2.wd (by omega)) z ?_ (up_s _ _ _ _) ?_ (fun u2 d2 o2 s2 e2 z2 => K u2 d2 o2 (sw.tr s2) e2 z2) (fun u2 f2 e2 z2 => Kf u2 (sw.1.tr f2) e2 z2)
        · exact u64
        · exact ⟨(b0 0 (by decide)).trans hw.1, (b0 1 (by decide)).trans hw.2.1, (b0 2 (by decide)).trans hw.2.2.1, (b0 3 (by decide)).trans hw.2.2.2.1, (b0 4 (by decide)).trans hw.2.2.2.2.1, (b0 5 (by decide)).trans hw.2.2.2.2.2⟩
    · have f1 : flP (pfL x (rpD x r) (e + 1) 61 (s + 1) (psM dn g)) = u 49 12 := (congrArg (fun q : Gm => q.2.2.2.2) eu).symm
      refine Kf u fu ?_ zu
      rw [eu, rpF, if_pos (show flP (psM dn g) = 0 from h0), rpF_f (p := shP (x 8 (5 * s + 1)) (x 8 (5 * s + 2)) (pfL x (rpD x r) (e + 1) 61 (s + 1) (psM dn g))) (fun y => zu (f1.symm.trans y))]
      rfl
