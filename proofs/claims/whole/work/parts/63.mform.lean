/-! FORM OF THE REFERENCE -/
theorem sq_const {b : Nat → Int} {n : Nat} {s : Sg} {j : Nat} (hj : 0 < j) (h : ¬ ((sqS b n s j).2.1 = 0 ∧ tK b n (sqS b n s j).1 = 2)) : ∀ m : Nat, sqS b n s (j + m) = sqS b n s j ∧ sqC b n s (j + m) = sqC b n s j
  | 0 => ⟨rfl, rfl⟩
  | m + 1 => by
    have i := sq_const hj h m
    have c : ¬ ptP b n (j + m) (sqS b n s (j + m)) := by
      rw [i.1]
      rintro ⟨z1, z2⟩
      exact h ⟨z1, z2.resolve_left (by omega)⟩
    rw [show j + (m + 1) = (j + m) + 1 by omega, sqS, sqC, if_neg c, if_neg c]
    exact i
theorem nuS_tE {b : Nat → Int} {n : Nat} {lo hi : Int} {s : Sg} (h0 : s.2.1 = 0) (h : tK b n s.1 = 2 ∧ lo ≤ tV b n s.1 ∧ tV b n s.1 ≤ hi) : nuS b n lo hi s = tE3 b n s ∧ nuV b n lo hi s = tV b n s.1 := by
  refine ⟨?_, if_pos ⟨h0, h⟩⟩
  unfold nuS
  rw [if_pos h0, if_pos h.1, if_pos h.2, tE3_0 h0]
/-- the end of a form, seen from a state of its row of points -/
theorem fo_end {b : Nat → Int} {n : Nat} {fi : Int} {s : Sg} {j : Nat} (hj : 0 < j ∧ j ≤ 12) (h : ¬ ((sqS b n (ffS b n fi s) j).2.1 = 0 ∧ tK b n (sqS b n (ffS b n fi s) j).1 = 2)) : siS b n 59 (foS b n fi s) = siS b n 59 (sqS b n (ffS b n fi s) j) ∧ sqC b n (ffS b n fi s) 12 = sqC b n (ffS b n fi s) j := by
  have c := sq_const hj.1 h (12 - j)
  rw [show j + (12 - j) = 12 by omega] at c
  refine ⟨?_, c.2⟩
  unfold foS
  rw [c.1]
  by_cases z : tK b n (sqS b n (ffS b n fi s) j).1 = 2
  · rw [if_pos z]
    have ne : ¬ (sqS b n (ffS b n fi s) j).2.1 = 0 := fun y => h ⟨y, z⟩
    rw [flS_f ne]
  · rw [if_neg z]
abbrev FrO (F : Nat) (h g : Hp) : Prop := ∀ x k, ¬ (x = 49 ∧ (k = 10 ∨ k = 11 ∨ k = 14 ∨ k = 15 ∨ k = 16 ∨ k = 17 ∨ k = 24)) → ¬ ((x = 56 ∨ x = 57) ∧ k = F) → ¬ ((x = 58 ∨ x = 59) ∧ 12 * F ≤ k ∧ k < 12 * F + 12) → g x k = h x k
theorem FrO.b {F : Nat} {h g : Hp} (f : FrO F h g) : g 3 = h 3 := funext fun j => f 3 j (by omega) (by omega) (by omega)
theorem FrO.mx {F n : Nat} {h g : Hp} (f : FrO F h g) (t : MX h n) : MX g n := ⟨(f 49 13 (by decide) (by omega) (by omega)).trans t.1, t.2.1, fun j hj => by rw [f.b, f 50 j (by omega) (by omega) (by omega)]; exact t.2.2.1 j hj, fun j hj => by rw [f 51 j (by omega) (by omega) (by omega)]; exact t.2.2.2 j hj⟩
def Hid (p : Prop) : Prop := p
theorem FrO.s58 {F j : Nat} {h g k : Hp} (f : FrO F h g) (hj : j < 12) (f2 : ∀ x q, ¬ (x = 58 ∧ q = 12 * F + j) → k x q = g x q) : FrO F h k := fun x q z1 z2 z3 => (f2 x q (by omega)).trans (f x q z1 z2 z3)
theorem FrO.s59 {F j : Nat} {h g k : Hp} (f : FrO F h g) (hj : j < 12) (f2 : ∀ x q, ¬ (x = 59 ∧ q = 12 * F + j) → ¬ (x = 57 ∧ q = F) → k x q = g x q) : FrO F h k := fun x q z1 z2 z3 => (f2 x q (by omega) (by omega)).trans (f x q z1 z2 z3)
theorem FrO.s24 {F : Nat} {h g k : Hp} (f : FrO F h g) (f2 : ∀ x q, ¬ (x = 49 ∧ q = 24) → k x q = g x q) : FrO F h k := fun x q z1 z2 z3 => (f2 x q (by omega)).trans (f x q z1 z2 z3)
theorem ad12 {F q j : Nat} (h : ¬ q = j) : ¬ 12 * F + q = 12 * F + j := by omega
theorem FrO.q {F : Nat} {h g k : Hp} (f : FrO F h g) (f2 : FrQ g k) : FrO F h k := fun x q z1 z2 z3 => (f2 x q (by omega)).trans (f x q z1 z2 z3)
/-- a first number of a point that fails -/
theorem nfail {b : Nat → Int} {n : Nat} {fi : Int} {s : Sg} {j : Nat} (hj : j ≤ 12) (g0 : (sqS b n (ffS b n fi s) j).2.1 = 0) (gs : Hid (0 < j → ¬ tK b n (sqS b n (ffS b n fi s) j).1 = 59)) (jj : ¬ (j : Int) = 12 ∨ ¬ tK b n (sqS b n (ffS b n fi s) j).1 = 2) (f2 : ¬ (nuS b n 0 99 (sqS b n (ffS b n fi s) j)).2.1 = 0) : siS b n 59 (foS b n fi s) = nuS b n 0 99 (sqS b n (ffS b n fi s) j) := by
  by_cases c : ptP b n j (sqS b n (ffS b n fi s) j)
  · have e1 : sqS b n (ffS b n fi s) (j + 1) = nuS b n 0 99 (sqS b n (ffS b n fi s) j) := by
      rw [sqS, if_pos c, nuS_f f2]
    have j12 : j < 12 := by
      rcases c.2 with z | z
      · omega
      · rcases jj with y | y
        · omega
        · exact absurd z y
    have fe := (fo_end (b := b) (n := n) (fi := fi) (s := s) (j := j + 1) (by omega) (by rw [e1]; exact fun z => f2 z.1)).1
    rw [fe, e1, siS_f f2]
  · have jp : 0 < j := by
      rcases Nat.lt_or_ge 0 j with z | z
      · exact z
      · exact absurd ⟨g0, Or.inl (by omega)⟩ c
    have nk : ¬ tK b n (sqS b n (ffS b n fi s) j).1 = 2 := fun z => c ⟨g0, Or.inr z⟩
    have fe := (fo_end (b := b) (n := n) (fi := fi) (s := s) (j := j) ⟨jp, hj⟩ (fun z => nk z.2)).1
    rw [fe]
    unfold siS nuS
    rw [if_pos g0, if_pos g0, if_neg (gs jp), if_neg nk]
set_option maxRecDepth 20000 in
set_option maxHeartbeats 400000 in
theorem lp_mform {d : Nat} (hd : 5 ≤ d) {P : Int → Hp → Prop} {h : Hp} {n F : Nat} {s : Sg} (hx : MX h n) (hF : F < 8) (kt : ∀ g : Hp, FrO F h g → MS g n (siS (h 3) n 59 (foS (h 3) n (fiM h n (tE (h 3) n s.1) F) (tE3 (h 3) n s))) → (siS (h 3) n 59 (foS (h 3) n (fiM h n (tE (h 3) n s.1) F) (tE3 (h 3) n s))).2.1 = 0 → (g 49 24 = F + 1 ∧ g 56 F = pkF (h 3) (tS (h 3) n (tE (h 3) n s.1)) (tE (h 3) n (tE (h 3) n s.1)) ∧ g 57 F = sqC (h 3) n (ffS (h 3) n (fiM h n (tE (h 3) n s.1) F) (tE3 (h 3) n s)) 12) → (∀ q : Nat, q < sqC (h 3) n (ffS (h 3) n (fiM h n (tE (h 3) n s.1) F) (tE3 (h 3) n s)) 12 → g 58 (12 * F + q) = nuV (h 3) n 0 99 (sqS (h 3) n (ffS (h 3) n (fiM h n (tE (h 3) n s.1) F) (tE3 (h 3) n s)) q) ∧ g 59 (12 * F + q) = nuV (h 3) n 0 99 (nuS (h 3) n 0 99 (sqS (h 3) n (ffS (h 3) n (fiM h n (tE (h 3) n s.1) F) (tE3 (h 3) n s)) q))) → P 1 g) (kf : ∀ g : Hp, FrO F h g → MS g n (siS (h 3) n 59 (foS (h 3) n (fiM h n (tE (h 3) n s.1) F) (tE3 (h 3) n s))) → ¬ (siS (h 3) n 59 (foS (h 3) n (fiM h n (tE (h 3) n s.1) F) (tE3 (h 3) n s))).2.1 = 0 → P 0 g) : ∀ (nn : Nat) (j : Nat) (g : Hp), (j ≤ 12) → (FrO F h g) → (Hid (MS g n (sqS (h 3) n (ffS (h 3) n (fiM h n (tE (h 3) n s.1) F) (tE3 (h 3) n s)) j))) → ((sqS (h 3) n (ffS (h 3) n (fiM h n (tE (h 3) n s.1) F) (tE3 (h 3) n s)) j).2.1 = 0) → (sqC (h 3) n (ffS (h 3) n (fiM h n (tE (h 3) n s.1) F) (tE3 (h 3) n s)) j = j) → (Hid (0 < j → ¬ tK (h 3) n (sqS (h 3) n (ffS (h 3) n (fiM h n (tE (h 3) n s.1) F) (tE3 (h 3) n s)) j).1 = 59)) → (g 57 F = j) → (g 49 24 = F) → (g 56 F = pkF (h 3) (tS (h 3) n (tE (h 3) n s.1)) (tE (h 3) n (tE (h 3) n s.1))) → (∀ q : Nat, q < j → g 58 (12 * F + q) = nuV (h 3) n 0 99 (sqS (h 3) n (ffS (h 3) n (fiM h n (tE (h 3) n s.1) F) (tE3 (h 3) n s)) q) ∧ g 59 (12 * F + q) = nuV (h 3) n 0 99 (nuS (h 3) n 0 99 (sqS (h 3) n (ffS (h 3) n (fiM h n (tE (h 3) n s.1) F) (tE3 (h 3) n s)) q))) → 12 - j < nn → WW mX12_formRead (d + 1) (pI P) 76 [some (.inr (.inr 49)), some (.inl (F : Int))] [] g := by
  intro nn
  induction nn with
  | zero => intro j g hj gf gp g0 gc gs gj gF gn gv; intros; omega
  | succ nn ih =>
    intro j g hj gf gp g0 gc gs gj gF gn gv hmu
    have g3 := gf.b
    have mk : g 49 15 = mK (h 3) n (sqS (h 3) n (ffS (h 3) n (fiM h n (tE (h 3) n s.1) F) (tE3 (h 3) n s)) j).1 := by
      have := (show MS g n (sqS (h 3) n (ffS (h 3) n (fiM h n (tE (h 3) n s.1) F) (tE3 (h 3) n s)) j) from gp).1.2.2.1
      rw [g3] at this
      exact this
    have mi := mK_i (b := h 3) (n := n) (p := (sqS (h 3) n (ffS (h 3) n (fiM h n (tE (h 3) n s.1) F) (tE3 (h 3) n s)) j).1) (show MS g n (sqS (h 3) n (ffS (h 3) n (fiM h n (tE (h 3) n s.1) F) (tE3 (h 3) n s)) j) from gp).2.2.2.1
    have mr : R32 (g 49 15) := by
      have m6 := mi.2.2.2.2.2
      clear mi gs
      omega
    have mi3 : Hid (mK (h 3) n (sqS (h 3) n (ffS (h 3) n (fiM h n (tE (h 3) n s.1) F) (tE3 (h 3) n s)) j).1 = 3 ↔ tK (h 3) n (sqS (h 3) n (ffS (h 3) n (fiM h n (tE (h 3) n s.1) F) (tE3 (h 3) n s)) j).1 = 2) := mi.1
    clear mi
    have mi3 : _ ↔ _ := mi3
    refine r_aload_n dX12_formRead_76 rfl rfl ?_
    refine r_getI dX12_formRead_77 fl_X12_225 sh_49 rfl ?_
    refine r_iconst dX12_formRead_80 ?_
    refine r_icmp_ne (tgt := 101) dX12_formRead_81 rfl mr ⟨by decide, by decide⟩ (fun c_81 => ?_) (fun c_81 => ?_)
    · have jj : ¬ (j : Int) = 12 ∨ ¬ tK (h 3) n (sqS (h 3) n (ffS (h 3) n (fiM h n (tE (h 3) n s.1) F) (tE3 (h 3) n s)) j).1 = 2 := by
        first
          | exact Or.inl (fun z => c_92 (by rw [Int.toNat_natCast, gj]; exact z))
          | exact Or.inr (fun z => c_81 (by rw [mk]; exact mi3.mpr z))
      refine r_aload_n dX12_formRead_101 rfl rfl ?_
      refine r_iconst dX12_formRead_102 ?_
      refine r_bipush dX12_formRead_103 (by decide +kernel) ?_
      refine r_callVI (av := [_, _]) (M' := mX12_numberRead) dX12_formRead_105 vX12_numberRead ml_X12_250 sh_49 (by decide) rfl rfl rfl rfl (by simp [wtA]) (sp_X12_numberRead (n := n) (s := sqS (h 3) n (ffS (h 3) n (fiM h n (tE (h 3) n s.1) F) (tE3 (h 3) n s)) j) (by omega) (gf.mx hx) gp g0 (by decide) (by decide) (fun n1 w1 => ?_) (fun h_105 f0_105 f1_105 f2_105 => ?_))
      · refine r_if_ne (tgt := 113) dX12_formRead_108 rfl ⟨by decide, by decide⟩ (fun c_108 => ?_) (fun c_108 => absurd c_108 (by decide))
        rw [g3] at n1 w1
        have j12 : j < 12 := by
          rcases jj with z | z
          · clear gp gs mi3 n1
            omega
          · exact absurd n1.1 z
        try clear mk
        have cc : ptP (h 3) n j (sqS (h 3) n (ffS (h 3) n (fiM h n (tE (h 3) n s.1) F) (tE3 (h 3) n s)) j) := ⟨g0, Or.inr n1.1⟩
        have nt := nuS_tE (lo := 0) (hi := 99) g0 n1
        clear jj n1 mr mi3 gs
        have ej : g 57 ((F : Int)).toNat = j := by rw [Int.toNat_natCast]; exact gj
        refine r_aload_n dX12_formRead_113 rfl rfl ?_
        refine r_getR dX12_formRead_114 fl_X12_53 sh_49 rfl ?_
        refine r_bipush dX12_formRead_117 (by decide +kernel) ?_
        refine r_iload_n dX12_formRead_119 rfl rfl ?_
        refine r_imul dX12_formRead_120 ?_
        refine r_aload_n dX12_formRead_121 rfl rfl ?_
        refine r_getR dX12_formRead_122 fl_X12_50 sh_49 rfl ?_
        refine r_iload_n dX12_formRead_125 rfl rfl ?_
        refine r_iald dX12_formRead_126 sh_57 (by decide) (by omega) ?_
        rw [ej]
        refine r_iadd dX12_formRead_127 ?_
        refine r_aload_n dX12_formRead_128 rfl rfl ?_
        refine r_getI dX12_formRead_129 fl_X12_235 sh_49 rfl ?_
        refine r_iast dX12_formRead_132 sh_58 (by decide) (by omega) ?_
        rw [show (12 * (F : Int) + (j : Int)).toNat = 12 * F + j by omega, w1]
        refine r_gh (fun g1 eg => ?_)
        have p1 : Hid (MS g1 n (sqS (h 3) n (ffS (h 3) n (fiM h n (tE (h 3) n s.1) F) (tE3 (h 3) n s)) j)) := by rw [eg]; exact MS.up gp (by decide) (fun z => absurd z.1 (by decide))
        have x1 : MX g1 n := by rw [eg]; exact (gf.mx hx).up (by decide) (by decide) (by decide) (fun z => absurd z.1 (by decide))
        have b1 : g1 3 = h 3 := by rw [eg]; exact g3
        have u1 : g1 58 (12 * F + j) = nuV (h 3) n 0 99 (sqS (h 3) n (ffS (h 3) n (fiM h n (tE (h 3) n s.1) F) (tE3 (h 3) n s)) j) := by rw [eg, up_s, nt.2]
        have f1 : ∀ x k, ¬ (x = 58 ∧ k = 12 * F + j) → g1 x k = g x k := fun x k z => by rw [eg]; unfold upH; rw [if_neg z]
        clear eg w1
        refine r_aload_n dX12_formRead_133 rfl rfl ?_
        refine r_callVU (av := []) (M' := mX12_take) dX12_formRead_134 vX12_take ml_X12_253 sh_49 (by decide) rfl rfl rfl rfl (by simp [wtA]) (sp_X12_take (n := n) (p := tE (g1 3) n (sqS (h 3) n (ffS (h 3) n (fiM h n (tE (h 3) n s.1) F) (tE3 (h 3) n s)) j).1) (by omega) ⟨x1.1, x1.2.1⟩ ⟨(show MS g1 n (sqS (h 3) n (ffS (h 3) n (fiM h n (tE (h 3) n s.1) F) (tE3 (h 3) n s)) j) from p1).1.2.1, (tE_r (show MS g1 n (sqS (h 3) n (ffS (h 3) n (fiM h n (tE (h 3) n s.1) F) (tE3 (h 3) n s)) j) from p1).2.2.2.1).2.1⟩ x1.2.2.1 x1.2.2.2 (fun h_134 f0_134 f1_134 => ?_))
        have st := MS.step (show MS g1 n (sqS (h 3) n (ffS (h 3) n (fiM h n (tE (h 3) n s.1) F) (tE3 (h 3) n s)) j) from p1) f0_134 f1_134
        rw [b1, ← nt.1] at st
        obtain ⟨sp0, sq⟩ := st
        have sp : Hid (MS h_134 n (nuS (h 3) n 0 99 (sqS (h 3) n (ffS (h 3) n (fiM h n (tE (h 3) n s.1) F) (tE3 (h 3) n s)) j))) := sp0
        have z2 : (nuS (h 3) n 0 99 (sqS (h 3) n (ffS (h 3) n (fiM h n (tE (h 3) n s.1) F) (tE3 (h 3) n s)) j)).2.1 = 0 := by rw [nt.1]; exact g0
        have b134 := sq.b.trans b1
        have o134 : FrO F h h_134 := (gf.s58 j12 f1).q sq
        clear sp0 f0_134 f1_134 p1 nt
        refine r_aload_n dX12_formRead_137 rfl rfl ?_
        refine r_iconst dX12_formRead_138 ?_
        refine r_bipush dX12_formRead_139 (by decide +kernel) ?_
        refine r_callVI (av := [_, _]) (M' := mX12_numberRead) dX12_formRead_141 vX12_numberRead ml_X12_250 sh_49 (by decide) rfl rfl rfl rfl (by simp [wtA]) (sp_X12_numberRead (n := n) (s := nuS (h 3) n 0 99 (sqS (h 3) n (ffS (h 3) n (fiM h n (tE (h 3) n s.1) F) (tE3 (h 3) n s)) j)) (by omega) (sq.mx x1) sp z2 (by decide) (by decide) (fun n2 w2 => ?_) (fun h_141 f0_141 f1_141 f2_141 => ?_))
        · refine r_if_ne (tgt := 149) dX12_formRead_144 rfl ⟨by decide, by decide⟩ (fun c_144 => ?_) (fun c_144 => absurd c_144 (by decide))
          rw [b134] at n2 w2
          have nt2 := nuS_tE (lo := 0) (hi := 99) z2 n2
          clear n2
          have ej2 : h_134 57 ((F : Int)).toNat = j := by rw [Int.toNat_natCast, sq 57 F (fun z => absurd z.1 (by decide)), f1 57 F (fun z => absurd z.1 (by decide))]; exact gj
          refine r_aload_n dX12_formRead_149 rfl rfl ?_
          refine r_getR dX12_formRead_150 fl_X12_56 sh_49 rfl ?_
          refine r_bipush dX12_formRead_153 (by decide +kernel) ?_
          refine r_iload_n dX12_formRead_155 rfl rfl ?_
          refine r_imul dX12_formRead_156 ?_
          refine r_aload_n dX12_formRead_157 rfl rfl ?_
          refine r_getR dX12_formRead_158 fl_X12_50 sh_49 rfl ?_
          refine r_iload_n dX12_formRead_161 rfl rfl ?_
          refine r_iald dX12_formRead_162 sh_57 (by decide) (by omega) ?_
          rw [ej2]
          refine r_iadd dX12_formRead_163 ?_
          refine r_aload_n dX12_formRead_164 rfl rfl ?_
          refine r_getI dX12_formRead_165 fl_X12_235 sh_49 rfl ?_
          refine r_iast dX12_formRead_168 sh_59 (by decide) (by omega) ?_
          refine r_aload_n dX12_formRead_169 rfl rfl ?_
          refine r_getR dX12_formRead_170 fl_X12_50 sh_49 rfl ?_
          refine r_iload_n dX12_formRead_173 rfl rfl ?_
          refine r_dup2 dX12_formRead_174 ?_
          refine r_iald dX12_formRead_175 sh_57 (by decide) (by omega) ?_
          refine r_eqI (up_nc (by decide)) ?_
          refine r_iconst dX12_formRead_176 ?_
          refine r_iadd dX12_formRead_177 ?_
          refine r_iast dX12_formRead_178 sh_57 (by decide) (by omega) ?_
          rw [show (12 * (F : Int) + (j : Int)).toNat = 12 * F + j by omega, w2, Int.toNat_natCast]
          rw [Int.toNat_natCast] at ej2
          refine r_gh (fun g2 eg => ?_)
          have p2 : Hid (MS g2 n (nuS (h 3) n 0 99 (sqS (h 3) n (ffS (h 3) n (fiM h n (tE (h 3) n s.1) F) (tE3 (h 3) n s)) j))) := by rw [eg]; exact MS.up (MS.up sp (by decide) (fun z => absurd z.1 (by decide))) (by decide) (fun z => absurd z.1 (by decide))
          have x2 : MX g2 n := by rw [eg]; exact ((sq.mx x1).up (by decide) (by decide) (by decide) (fun z => absurd z.1 (by decide))).up (by decide) (by decide) (by decide) (fun z => absurd z.1 (by decide))
          have b2 : g2 3 = h 3 := by rw [eg]; exact b134
          have u2 : g2 59 (12 * F + j) = nuV (h 3) n 0 99 (nuS (h 3) n 0 99 (sqS (h 3) n (ffS (h 3) n (fiM h n (tE (h 3) n s.1) F) (tE3 (h 3) n s)) j)) := by rw [eg, up_nc (by decide), up_s, nt2.2]
          have u3 : g2 57 F = j + 1 := by rw [eg, up_s, ej2]
          have f2 : ∀ x k, ¬ (x = 59 ∧ k = 12 * F + j) → ¬ (x = 57 ∧ k = F) → g2 x k = h_134 x k := fun x k y1 y2 => by rw [eg]; unfold upH; rw [if_neg y2, if_neg y1]
          clear eg w2
          refine r_aload_n dX12_formRead_179 rfl rfl ?_
          refine r_callVU (av := []) (M' := mX12_take) dX12_formRead_180 vX12_take ml_X12_253 sh_49 (by decide) rfl rfl rfl rfl (by simp [wtA]) (sp_X12_take (n := n) (p := tE (g2 3) n (nuS (h 3) n 0 99 (sqS (h 3) n (ffS (h 3) n (fiM h n (tE (h 3) n s.1) F) (tE3 (h 3) n s)) j)).1) (by omega) ⟨x2.1, x2.2.1⟩ ⟨(show MS g2 n (nuS (h 3) n 0 99 (sqS (h 3) n (ffS (h 3) n (fiM h n (tE (h 3) n s.1) F) (tE3 (h 3) n s)) j)) from p2).1.2.1, (tE_r (show MS g2 n (nuS (h 3) n 0 99 (sqS (h 3) n (ffS (h 3) n (fiM h n (tE (h 3) n s.1) F) (tE3 (h 3) n s)) j)) from p2).2.2.2.1).2.1⟩ x2.2.2.1 x2.2.2.2 (fun h_180 f0_180 f1_180 => ?_))
          have st2 := MS.step (show MS g2 n (nuS (h 3) n 0 99 (sqS (h 3) n (ffS (h 3) n (fiM h n (tE (h 3) n s.1) F) (tE3 (h 3) n s)) j)) from p2) f0_180 f1_180
          rw [b2, ← nt2.1] at st2
          have e1 : sqS (h 3) n (ffS (h 3) n (fiM h n (tE (h 3) n s.1) F) (tE3 (h 3) n s)) (j + 1) = nuS (h 3) n 0 99 (nuS (h 3) n 0 99 (sqS (h 3) n (ffS (h 3) n (fiM h n (tE (h 3) n s.1) F) (tE3 (h 3) n s)) j)) := by rw [sqS, if_pos cc]
          have c1 : sqC (h 3) n (ffS (h 3) n (fiM h n (tE (h 3) n s.1) F) (tE3 (h 3) n s)) (j + 1) = j + 1 := by rw [sqC, if_pos cc, gc]
          rw [← e1] at st2
          obtain ⟨tp0, tq⟩ := st2
          have tp : Hid (MS h_180 n (sqS (h 3) n (ffS (h 3) n (fiM h n (tE (h 3) n s.1) F) (tE3 (h 3) n s)) (j + 1))) := tp0
          have b180 := tq.b.trans b2
          have z3 : (sqS (h 3) n (ffS (h 3) n (fiM h n (tE (h 3) n s.1) F) (tE3 (h 3) n s)) (j + 1)).2.1 = 0 := by rw [e1, nt2.1]; exact z2
          clear tp0 f0_180 f1_180 p2 nt2 sp cc
          have o180 : FrO F h h_180 := (o134.s59 j12 f2).q tq
          have v180 : ∀ q : Nat, q < j + 1 → h_180 58 (12 * F + q) = nuV (h 3) n 0 99 (sqS (h 3) n (ffS (h 3) n (fiM h n (tE (h 3) n s.1) F) (tE3 (h 3) n s)) q) ∧ h_180 59 (12 * F + q) = nuV (h 3) n 0 99 (nuS (h 3) n 0 99 (sqS (h 3) n (ffS (h 3) n (fiM h n (tE (h 3) n s.1) F) (tE3 (h 3) n s)) q)) := fun q hq => by
            by_cases z : q = j
            · rw [z]
              refine ⟨?_, ?_⟩
              · rw [tq 58 _ (fun z => absurd z.1 (by decide)), f2 58 _ (fun z => absurd z.1 (by decide)) (fun z => absurd z.1 (by decide)), sq 58 _ (fun z => absurd z.1 (by decide))]; exact u1
              · rw [tq 59 _ (fun z => absurd z.1 (by decide))]; exact u2
            · rw [tq 58 _ (fun z => absurd z.1 (by decide)), f2 58 _ (fun z => absurd z.1 (by decide)) (fun z => absurd z.1 (by decide)), sq 58 _ (fun z => absurd z.1 (by decide)), f1 58 _ (fun y => ad12 z y.2), tq 59 _ (fun z => absurd z.1 (by decide)), f2 59 _ (fun y => ad12 z y.2) (fun z => absurd z.1 (by decide)), sq 59 _ (fun z => absurd z.1 (by decide)), f1 59 _ (fun z => absurd z.1 (by decide))]
              exact gv q (Nat.lt_of_le_of_ne (Nat.le_of_lt_succ hq) z)
          have j180 : h_180 57 F = (j + 1 : Nat) := by rw [tq 57 F (fun z => absurd z.1 (by decide))]; exact u3
          have k180 : h_180 49 24 = F := by rw [tq 49 24 (by decide), f2 49 24 (fun z => absurd z.1 (by decide)) (fun z => absurd z.1 (by decide)), sq 49 24 (by decide), f1 49 24 (fun z => absurd z.1 (by decide))]; exact gF
          have n180 : h_180 56 F = pkF (h 3) (tS (h 3) n (tE (h 3) n s.1)) (tE (h 3) n (tE (h 3) n s.1)) := by rw [tq 56 F (fun z => absurd z.1 (by decide)), f2 56 F (fun z => absurd z.1 (by decide)) (fun z => absurd z.1 (by decide)), sq 56 F (fun z => absurd z.1 (by decide)), f1 56 F (fun z => absurd z.1 (by decide))]; exact gn
          refine r_aload_n dX12_formRead_183 rfl rfl ?_
          refine r_bipush dX12_formRead_184 (by decide +kernel) ?_
          refine r_callVI (av := [_]) (M' := mX12_isSign) dX12_formRead_186 vX12_isSign ml_X12_256 sh_49 (by decide) rfl rfl rfl rfl (by simp [wtA]) (sp_X12_isSign (by omega) tp (by omega) (fun b_186 => ?_) (fun b_186 => ?_))
          · refine r_if_eq (tgt := 76) dX12_formRead_189 rfl ⟨by decide, by decide⟩ (fun c_189 => absurd c_189 (by decide)) (fun c_189 => ?_)
            refine r_aload_n dX12_formRead_192 rfl rfl ?_
            refine r_dup dX12_formRead_193 (fun _ h => by cases h) ?_
            refine r_getI dX12_formRead_194 fl_X12_244 sh_49 rfl ?_
            refine r_iconst dX12_formRead_197 ?_
            refine r_iadd dX12_formRead_198 ?_
            refine r_putI dX12_formRead_199 fl_X12_244 sh_49 rfl ?_
            rw [b180] at b_186
            have fe := fo_end (b := h 3) (n := n) (fi := (fiM h n (tE (h 3) n s.1) F)) (s := tE3 (h 3) n s) (j := j + 1) ⟨Nat.succ_pos j, j12⟩ (fun z => by rw [z.2] at b_186; exact absurd b_186 (by decide))
            refine r_gh (fun g4 eg => ?_)
            have p4 : Hid (MS g4 n (sqS (h 3) n (ffS (h 3) n (fiM h n (tE (h 3) n s.1) F) (tE3 (h 3) n s)) (j + 1))) := by rw [eg]; exact MS.up tp (by decide) (by decide)
            have x4 : MX g4 n := by rw [eg]; exact (o180.mx hx).up (by decide) (by decide) (by decide) (by decide)
            have b4 : g4 3 = h 3 := by rw [eg]; exact b180
            have k4 : g4 49 24 = F + 1 := by rw [eg, up_s, k180]
            have f4 : ∀ x k, ¬ (x = 49 ∧ k = 24) → g4 x k = h_180 x k := fun x k z => by rw [eg]; unfold upH; rw [if_neg z]
            clear eg
            refine r_aload_n dX12_formRead_202 rfl rfl ?_
            refine r_callVU (av := []) (M' := mX12_take) dX12_formRead_203 vX12_take ml_X12_253 sh_49 (by decide) rfl rfl rfl rfl (by simp [wtA]) (sp_X12_take (n := n) (p := tE (g4 3) n (sqS (h 3) n (ffS (h 3) n (fiM h n (tE (h 3) n s.1) F) (tE3 (h 3) n s)) (j + 1)).1) (by omega) ⟨x4.1, x4.2.1⟩ ⟨(show MS g4 n (sqS (h 3) n (ffS (h 3) n (fiM h n (tE (h 3) n s.1) F) (tE3 (h 3) n s)) (j + 1)) from p4).1.2.1, (tE_r (show MS g4 n (sqS (h 3) n (ffS (h 3) n (fiM h n (tE (h 3) n s.1) F) (tE3 (h 3) n s)) (j + 1)) from p4).2.2.2.1).2.1⟩ x4.2.2.1 x4.2.2.2 (fun h_203 f0_203 f1_203 => ?_))
            refine r_iconst dX12_formRead_206 ?_
            refine r_zret dX12_formRead_207 rfl (.inr rfl) ?_
            have st4 := MS.step (show MS g4 n (sqS (h 3) n (ffS (h 3) n (fiM h n (tE (h 3) n s.1) F) (tE3 (h 3) n s)) (j + 1)) from p4) f0_203 f1_203
            rw [b4] at st4
            have e : siS (h 3) n 59 (foS (h 3) n (fiM h n (tE (h 3) n s.1) F) (tE3 (h 3) n s)) = tE3 (h 3) n (sqS (h 3) n (ffS (h 3) n (fiM h n (tE (h 3) n s.1) F) (tE3 (h 3) n s)) (j + 1)) := by
              rw [fe.1]
              unfold siS
              rw [if_pos z3, if_pos b_186, tE3_0 z3]
            refine ⟨_, rfl, kt _ ((o180.s24 f4).q st4.2) (by rw [e]; exact st4.1) (by rw [e]; exact z3) ⟨?_, ?_, ?_⟩ (fun q hq => ?_)⟩
            · rw [st4.2 49 24 (by decide)]; exact k4
            · rw [st4.2 56 F (fun z => absurd z.1 (by decide)), f4 56 F (fun z => absurd z.1 (by decide))]; exact n180
            · rw [fe.2, c1, st4.2 57 F (fun z => absurd z.1 (by decide)), f4 57 F (fun z => absurd z.1 (by decide))]; exact j180
            · rw [fe.2, c1] at hq
              rw [st4.2 58 _ (fun z => absurd z.1 (by decide)), f4 58 _ (fun z => absurd z.1 (by decide)), st4.2 59 _ (fun z => absurd z.1 (by decide)), f4 59 _ (fun z => absurd z.1 (by decide))]
              exact v180 q hq
          · refine r_if_eq (tgt := 76) dX12_formRead_189 rfl ⟨by decide, by decide⟩ (fun c_189 => ?_) (fun c_189 => absurd c_189 (by decide))
            rw [b180] at b_186
            exact ih (j + 1) h_180 (Nat.succ_le_of_lt j12) o180 tp z3 c1 (fun _ => b_186) j180 k180 n180 v180 (by omega)
        · refine r_if_ne (tgt := 149) dX12_formRead_144 rfl ⟨by decide, by decide⟩ (fun c_144 => absurd c_144 (by decide)) (fun c_144 => ?_)
          refine r_iconst dX12_formRead_147 ?_
          refine r_zret dX12_formRead_148 rfl (.inl rfl) ?_
          rw [b134] at f1_141 f2_141
          have e1 : sqS (h 3) n (ffS (h 3) n (fiM h n (tE (h 3) n s.1) F) (tE3 (h 3) n s)) (j + 1) = nuS (h 3) n 0 99 (nuS (h 3) n 0 99 (sqS (h 3) n (ffS (h 3) n (fiM h n (tE (h 3) n s.1) F) (tE3 (h 3) n s)) j)) := by rw [sqS, if_pos cc]
          have e : siS (h 3) n 59 (foS (h 3) n (fiM h n (tE (h 3) n s.1) F) (tE3 (h 3) n s)) = nuS (h 3) n 0 99 (nuS (h 3) n 0 99 (sqS (h 3) n (ffS (h 3) n (fiM h n (tE (h 3) n s.1) F) (tE3 (h 3) n s)) j)) := by
            have fe := (fo_end (b := h 3) (n := n) (fi := (fiM h n (tE (h 3) n s.1) F)) (s := tE3 (h 3) n s) (j := j + 1) ⟨Nat.succ_pos j, j12⟩ (by rw [e1]; exact fun z => f2_141 z.1)).1
            rw [fe, e1, siS_f f2_141]
          exact ⟨_, rfl, kf _ (o134.q f0_141) (by rw [e]; exact f1_141) (by rw [e]; exact f2_141)⟩
      · refine r_if_ne (tgt := 113) dX12_formRead_108 rfl ⟨by decide, by decide⟩ (fun c_108 => absurd c_108 (by decide)) (fun c_108 => ?_)
        refine r_iconst dX12_formRead_111 ?_
        refine r_zret dX12_formRead_112 rfl (.inl rfl) ?_
        rw [g3] at f1_105 f2_105
        have e : siS (h 3) n 59 (foS (h 3) n (fiM h n (tE (h 3) n s.1) F) (tE3 (h 3) n s)) = nuS (h 3) n 0 99 (sqS (h 3) n (ffS (h 3) n (fiM h n (tE (h 3) n s.1) F) (tE3 (h 3) n s)) j) := nfail hj g0 gs jj f2_105
        exact ⟨_, rfl, kf _ (gf.q f0_105) (by rw [e]; exact f1_105) (by rw [e]; exact f2_105)⟩
    · have k2 : tK (h 3) n (sqS (h 3) n (ffS (h 3) n (fiM h n (tE (h 3) n s.1) F) (tE3 (h 3) n s)) j).1 = 2 := mi3.mp (by rw [← mk]; exact c_81)
      have ej : g 57 ((F : Int)).toNat = j := by rw [Int.toNat_natCast]; exact gj
      clear mk
      refine r_aload_n dX12_formRead_84 rfl rfl ?_
      refine r_getR dX12_formRead_85 fl_X12_50 sh_49 rfl ?_
      refine r_iload_n dX12_formRead_88 rfl rfl ?_
      refine r_iald dX12_formRead_89 sh_57 (by decide) (by omega) ?_
      refine r_bipush dX12_formRead_90 (by decide +kernel) ?_
      refine r_icmp_ne (tgt := 101) dX12_formRead_92 rfl (by omega) ⟨by decide, by decide⟩ (fun c_92 => ?_) (fun c_92 => ?_)
      · have jj : ¬ (j : Int) = 12 ∨ ¬ tK (h 3) n (sqS (h 3) n (ffS (h 3) n (fiM h n (tE (h 3) n s.1) F) (tE3 (h 3) n s)) j).1 = 2 := by
          first
            | exact Or.inl (fun z => c_92 (by rw [Int.toNat_natCast, gj]; exact z))
            | exact Or.inr (fun z => c_81 (by rw [mk]; exact mi3.mpr z))
        refine r_aload_n dX12_formRead_101 rfl rfl ?_
        refine r_iconst dX12_formRead_102 ?_
        refine r_bipush dX12_formRead_103 (by decide +kernel) ?_
        refine r_callVI (av := [_, _]) (M' := mX12_numberRead) dX12_formRead_105 vX12_numberRead ml_X12_250 sh_49 (by decide) rfl rfl rfl rfl (by simp [wtA]) (sp_X12_numberRead (n := n) (s := sqS (h 3) n (ffS (h 3) n (fiM h n (tE (h 3) n s.1) F) (tE3 (h 3) n s)) j) (by omega) (gf.mx hx) gp g0 (by decide) (by decide) (fun n1 w1 => ?_) (fun h_105 f0_105 f1_105 f2_105 => ?_))
        · refine r_if_ne (tgt := 113) dX12_formRead_108 rfl ⟨by decide, by decide⟩ (fun c_108 => ?_) (fun c_108 => absurd c_108 (by decide))
          rw [g3] at n1 w1
          have j12 : j < 12 := by
            rcases jj with z | z
            · clear gp gs mi3 n1
              omega
            · exact absurd n1.1 z
          try clear mk
          have cc : ptP (h 3) n j (sqS (h 3) n (ffS (h 3) n (fiM h n (tE (h 3) n s.1) F) (tE3 (h 3) n s)) j) := ⟨g0, Or.inr n1.1⟩
          have nt := nuS_tE (lo := 0) (hi := 99) g0 n1
          clear jj n1 mr mi3 gs
          have ej : g 57 ((F : Int)).toNat = j := by rw [Int.toNat_natCast]; exact gj
          refine r_aload_n dX12_formRead_113 rfl rfl ?_
          refine r_getR dX12_formRead_114 fl_X12_53 sh_49 rfl ?_
          refine r_bipush dX12_formRead_117 (by decide +kernel) ?_
          refine r_iload_n dX12_formRead_119 rfl rfl ?_
          refine r_imul dX12_formRead_120 ?_
          refine r_aload_n dX12_formRead_121 rfl rfl ?_
          refine r_getR dX12_formRead_122 fl_X12_50 sh_49 rfl ?_
          refine r_iload_n dX12_formRead_125 rfl rfl ?_
          refine r_iald dX12_formRead_126 sh_57 (by decide) (by omega) ?_
          rw [ej]
          refine r_iadd dX12_formRead_127 ?_
          refine r_aload_n dX12_formRead_128 rfl rfl ?_
          refine r_getI dX12_formRead_129 fl_X12_235 sh_49 rfl ?_
          refine r_iast dX12_formRead_132 sh_58 (by decide) (by omega) ?_
          rw [show (12 * (F : Int) + (j : Int)).toNat = 12 * F + j by omega, w1]
          refine r_gh (fun g1 eg => ?_)
          have p1 : Hid (MS g1 n (sqS (h 3) n (ffS (h 3) n (fiM h n (tE (h 3) n s.1) F) (tE3 (h 3) n s)) j)) := by rw [eg]; exact MS.up gp (by decide) (fun z => absurd z.1 (by decide))
          have x1 : MX g1 n := by rw [eg]; exact (gf.mx hx).up (by decide) (by decide) (by decide) (fun z => absurd z.1 (by decide))
          have b1 : g1 3 = h 3 := by rw [eg]; exact g3
          have u1 : g1 58 (12 * F + j) = nuV (h 3) n 0 99 (sqS (h 3) n (ffS (h 3) n (fiM h n (tE (h 3) n s.1) F) (tE3 (h 3) n s)) j) := by rw [eg, up_s, nt.2]
          have f1 : ∀ x k, ¬ (x = 58 ∧ k = 12 * F + j) → g1 x k = g x k := fun x k z => by rw [eg]; unfold upH; rw [if_neg z]
          clear eg w1
          refine r_aload_n dX12_formRead_133 rfl rfl ?_
          refine r_callVU (av := []) (M' := mX12_take) dX12_formRead_134 vX12_take ml_X12_253 sh_49 (by decide) rfl rfl rfl rfl (by simp [wtA]) (sp_X12_take (n := n) (p := tE (g1 3) n (sqS (h 3) n (ffS (h 3) n (fiM h n (tE (h 3) n s.1) F) (tE3 (h 3) n s)) j).1) (by omega) ⟨x1.1, x1.2.1⟩ ⟨(show MS g1 n (sqS (h 3) n (ffS (h 3) n (fiM h n (tE (h 3) n s.1) F) (tE3 (h 3) n s)) j) from p1).1.2.1, (tE_r (show MS g1 n (sqS (h 3) n (ffS (h 3) n (fiM h n (tE (h 3) n s.1) F) (tE3 (h 3) n s)) j) from p1).2.2.2.1).2.1⟩ x1.2.2.1 x1.2.2.2 (fun h_134 f0_134 f1_134 => ?_))
          have st := MS.step (show MS g1 n (sqS (h 3) n (ffS (h 3) n (fiM h n (tE (h 3) n s.1) F) (tE3 (h 3) n s)) j) from p1) f0_134 f1_134
          rw [b1, ← nt.1] at st
          obtain ⟨sp0, sq⟩ := st
          have sp : Hid (MS h_134 n (nuS (h 3) n 0 99 (sqS (h 3) n (ffS (h 3) n (fiM h n (tE (h 3) n s.1) F) (tE3 (h 3) n s)) j))) := sp0
          have z2 : (nuS (h 3) n 0 99 (sqS (h 3) n (ffS (h 3) n (fiM h n (tE (h 3) n s.1) F) (tE3 (h 3) n s)) j)).2.1 = 0 := by rw [nt.1]; exact g0
          have b134 := sq.b.trans b1
          have o134 : FrO F h h_134 := (gf.s58 j12 f1).q sq
          clear sp0 f0_134 f1_134 p1 nt
          refine r_aload_n dX12_formRead_137 rfl rfl ?_
          refine r_iconst dX12_formRead_138 ?_
          refine r_bipush dX12_formRead_139 (by decide +kernel) ?_
          refine r_callVI (av := [_, _]) (M' := mX12_numberRead) dX12_formRead_141 vX12_numberRead ml_X12_250 sh_49 (by decide) rfl rfl rfl rfl (by simp [wtA]) (sp_X12_numberRead (n := n) (s := nuS (h 3) n 0 99 (sqS (h 3) n (ffS (h 3) n (fiM h n (tE (h 3) n s.1) F) (tE3 (h 3) n s)) j)) (by omega) (sq.mx x1) sp z2 (by decide) (by decide) (fun n2 w2 => ?_) (fun h_141 f0_141 f1_141 f2_141 => ?_))
          · refine r_if_ne (tgt := 149) dX12_formRead_144 rfl ⟨by decide, by decide⟩ (fun c_144 => ?_) (fun c_144 => absurd c_144 (by decide))
            rw [b134] at n2 w2
            have nt2 := nuS_tE (lo := 0) (hi := 99) z2 n2
            clear n2
            have ej2 : h_134 57 ((F : Int)).toNat = j := by rw [Int.toNat_natCast, sq 57 F (fun z => absurd z.1 (by decide)), f1 57 F (fun z => absurd z.1 (by decide))]; exact gj
            refine r_aload_n dX12_formRead_149 rfl rfl ?_
            refine r_getR dX12_formRead_150 fl_X12_56 sh_49 rfl ?_
            refine r_bipush dX12_formRead_153 (by decide +kernel) ?_
            refine r_iload_n dX12_formRead_155 rfl rfl ?_
            refine r_imul dX12_formRead_156 ?_
            refine r_aload_n dX12_formRead_157 rfl rfl ?_
            refine r_getR dX12_formRead_158 fl_X12_50 sh_49 rfl ?_
            refine r_iload_n dX12_formRead_161 rfl rfl ?_
            refine r_iald dX12_formRead_162 sh_57 (by decide) (by omega) ?_
            rw [ej2]
            refine r_iadd dX12_formRead_163 ?_
            refine r_aload_n dX12_formRead_164 rfl rfl ?_
            refine r_getI dX12_formRead_165 fl_X12_235 sh_49 rfl ?_
            refine r_iast dX12_formRead_168 sh_59 (by decide) (by omega) ?_
            refine r_aload_n dX12_formRead_169 rfl rfl ?_
            refine r_getR dX12_formRead_170 fl_X12_50 sh_49 rfl ?_
            refine r_iload_n dX12_formRead_173 rfl rfl ?_
            refine r_dup2 dX12_formRead_174 ?_
            refine r_iald dX12_formRead_175 sh_57 (by decide) (by omega) ?_
            refine r_eqI (up_nc (by decide)) ?_
            refine r_iconst dX12_formRead_176 ?_
            refine r_iadd dX12_formRead_177 ?_
            refine r_iast dX12_formRead_178 sh_57 (by decide) (by omega) ?_
            rw [show (12 * (F : Int) + (j : Int)).toNat = 12 * F + j by omega, w2, Int.toNat_natCast]
            rw [Int.toNat_natCast] at ej2
            refine r_gh (fun g2 eg => ?_)
            have p2 : Hid (MS g2 n (nuS (h 3) n 0 99 (sqS (h 3) n (ffS (h 3) n (fiM h n (tE (h 3) n s.1) F) (tE3 (h 3) n s)) j))) := by rw [eg]; exact MS.up (MS.up sp (by decide) (fun z => absurd z.1 (by decide))) (by decide) (fun z => absurd z.1 (by decide))
            have x2 : MX g2 n := by rw [eg]; exact ((sq.mx x1).up (by decide) (by decide) (by decide) (fun z => absurd z.1 (by decide))).up (by decide) (by decide) (by decide) (fun z => absurd z.1 (by decide))
            have b2 : g2 3 = h 3 := by rw [eg]; exact b134
            have u2 : g2 59 (12 * F + j) = nuV (h 3) n 0 99 (nuS (h 3) n 0 99 (sqS (h 3) n (ffS (h 3) n (fiM h n (tE (h 3) n s.1) F) (tE3 (h 3) n s)) j)) := by rw [eg, up_nc (by decide), up_s, nt2.2]
            have u3 : g2 57 F = j + 1 := by rw [eg, up_s, ej2]
            have f2 : ∀ x k, ¬ (x = 59 ∧ k = 12 * F + j) → ¬ (x = 57 ∧ k = F) → g2 x k = h_134 x k := fun x k y1 y2 => by rw [eg]; unfold upH; rw [if_neg y2, if_neg y1]
            clear eg w2
            refine r_aload_n dX12_formRead_179 rfl rfl ?_
            refine r_callVU (av := []) (M' := mX12_take) dX12_formRead_180 vX12_take ml_X12_253 sh_49 (by decide) rfl rfl rfl rfl (by simp [wtA]) (sp_X12_take (n := n) (p := tE (g2 3) n (nuS (h 3) n 0 99 (sqS (h 3) n (ffS (h 3) n (fiM h n (tE (h 3) n s.1) F) (tE3 (h 3) n s)) j)).1) (by omega) ⟨x2.1, x2.2.1⟩ ⟨(show MS g2 n (nuS (h 3) n 0 99 (sqS (h 3) n (ffS (h 3) n (fiM h n (tE (h 3) n s.1) F) (tE3 (h 3) n s)) j)) from p2).1.2.1, (tE_r (show MS g2 n (nuS (h 3) n 0 99 (sqS (h 3) n (ffS (h 3) n (fiM h n (tE (h 3) n s.1) F) (tE3 (h 3) n s)) j)) from p2).2.2.2.1).2.1⟩ x2.2.2.1 x2.2.2.2 (fun h_180 f0_180 f1_180 => ?_))
            have st2 := MS.step (show MS g2 n (nuS (h 3) n 0 99 (sqS (h 3) n (ffS (h 3) n (fiM h n (tE (h 3) n s.1) F) (tE3 (h 3) n s)) j)) from p2) f0_180 f1_180
            rw [b2, ← nt2.1] at st2
            have e1 : sqS (h 3) n (ffS (h 3) n (fiM h n (tE (h 3) n s.1) F) (tE3 (h 3) n s)) (j + 1) = nuS (h 3) n 0 99 (nuS (h 3) n 0 99 (sqS (h 3) n (ffS (h 3) n (fiM h n (tE (h 3) n s.1) F) (tE3 (h 3) n s)) j)) := by rw [sqS, if_pos cc]
            have c1 : sqC (h 3) n (ffS (h 3) n (fiM h n (tE (h 3) n s.1) F) (tE3 (h 3) n s)) (j + 1) = j + 1 := by rw [sqC, if_pos cc, gc]
            rw [← e1] at st2
            obtain ⟨tp0, tq⟩ := st2
            have tp : Hid (MS h_180 n (sqS (h 3) n (ffS (h 3) n (fiM h n (tE (h 3) n s.1) F) (tE3 (h 3) n s)) (j + 1))) := tp0
            have b180 := tq.b.trans b2
            have z3 : (sqS (h 3) n (ffS (h 3) n (fiM h n (tE (h 3) n s.1) F) (tE3 (h 3) n s)) (j + 1)).2.1 = 0 := by rw [e1, nt2.1]; exact z2
            clear tp0 f0_180 f1_180 p2 nt2 sp cc
            have o180 : FrO F h h_180 := (o134.s59 j12 f2).q tq
            have v180 : ∀ q : Nat, q < j + 1 → h_180 58 (12 * F + q) = nuV (h 3) n 0 99 (sqS (h 3) n (ffS (h 3) n (fiM h n (tE (h 3) n s.1) F) (tE3 (h 3) n s)) q) ∧ h_180 59 (12 * F + q) = nuV (h 3) n 0 99 (nuS (h 3) n 0 99 (sqS (h 3) n (ffS (h 3) n (fiM h n (tE (h 3) n s.1) F) (tE3 (h 3) n s)) q)) := fun q hq => by
              by_cases z : q = j
              · rw [z]
                refine ⟨?_, ?_⟩
                · rw [tq 58 _ (fun z => absurd z.1 (by decide)), f2 58 _ (fun z => absurd z.1 (by decide)) (fun z => absurd z.1 (by decide)), sq 58 _ (fun z => absurd z.1 (by decide))]; exact u1
                · rw [tq 59 _ (fun z => absurd z.1 (by decide))]; exact u2
              · rw [tq 58 _ (fun z => absurd z.1 (by decide)), f2 58 _ (fun z => absurd z.1 (by decide)) (fun z => absurd z.1 (by decide)), sq 58 _ (fun z => absurd z.1 (by decide)), f1 58 _ (fun y => ad12 z y.2), tq 59 _ (fun z => absurd z.1 (by decide)), f2 59 _ (fun y => ad12 z y.2) (fun z => absurd z.1 (by decide)), sq 59 _ (fun z => absurd z.1 (by decide)), f1 59 _ (fun z => absurd z.1 (by decide))]
                exact gv q (Nat.lt_of_le_of_ne (Nat.le_of_lt_succ hq) z)
            have j180 : h_180 57 F = (j + 1 : Nat) := by rw [tq 57 F (fun z => absurd z.1 (by decide))]; exact u3
            have k180 : h_180 49 24 = F := by rw [tq 49 24 (by decide), f2 49 24 (fun z => absurd z.1 (by decide)) (fun z => absurd z.1 (by decide)), sq 49 24 (by decide), f1 49 24 (fun z => absurd z.1 (by decide))]; exact gF
            have n180 : h_180 56 F = pkF (h 3) (tS (h 3) n (tE (h 3) n s.1)) (tE (h 3) n (tE (h 3) n s.1)) := by rw [tq 56 F (fun z => absurd z.1 (by decide)), f2 56 F (fun z => absurd z.1 (by decide)) (fun z => absurd z.1 (by decide)), sq 56 F (fun z => absurd z.1 (by decide)), f1 56 F (fun z => absurd z.1 (by decide))]; exact gn
            refine r_aload_n dX12_formRead_183 rfl rfl ?_
            refine r_bipush dX12_formRead_184 (by decide +kernel) ?_
            refine r_callVI (av := [_]) (M' := mX12_isSign) dX12_formRead_186 vX12_isSign ml_X12_256 sh_49 (by decide) rfl rfl rfl rfl (by simp [wtA]) (sp_X12_isSign (by omega) tp (by omega) (fun b_186 => ?_) (fun b_186 => ?_))
            · refine r_if_eq (tgt := 76) dX12_formRead_189 rfl ⟨by decide, by decide⟩ (fun c_189 => absurd c_189 (by decide)) (fun c_189 => ?_)
              refine r_aload_n dX12_formRead_192 rfl rfl ?_
              refine r_dup dX12_formRead_193 (fun _ h => by cases h) ?_
              refine r_getI dX12_formRead_194 fl_X12_244 sh_49 rfl ?_
              refine r_iconst dX12_formRead_197 ?_
              refine r_iadd dX12_formRead_198 ?_
              refine r_putI dX12_formRead_199 fl_X12_244 sh_49 rfl ?_
              rw [b180] at b_186
              have fe := fo_end (b := h 3) (n := n) (fi := (fiM h n (tE (h 3) n s.1) F)) (s := tE3 (h 3) n s) (j := j + 1) ⟨Nat.succ_pos j, j12⟩ (fun z => by rw [z.2] at b_186; exact absurd b_186 (by decide))
              refine r_gh (fun g4 eg => ?_)
              have p4 : Hid (MS g4 n (sqS (h 3) n (ffS (h 3) n (fiM h n (tE (h 3) n s.1) F) (tE3 (h 3) n s)) (j + 1))) := by rw [eg]; exact MS.up tp (by decide) (by decide)
              have x4 : MX g4 n := by rw [eg]; exact (o180.mx hx).up (by decide) (by decide) (by decide) (by decide)
              have b4 : g4 3 = h 3 := by rw [eg]; exact b180
              have k4 : g4 49 24 = F + 1 := by rw [eg, up_s, k180]
              have f4 : ∀ x k, ¬ (x = 49 ∧ k = 24) → g4 x k = h_180 x k := fun x k z => by rw [eg]; unfold upH; rw [if_neg z]
              clear eg
              refine r_aload_n dX12_formRead_202 rfl rfl ?_
              refine r_callVU (av := []) (M' := mX12_take) dX12_formRead_203 vX12_take ml_X12_253 sh_49 (by decide) rfl rfl rfl rfl (by simp [wtA]) (sp_X12_take (n := n) (p := tE (g4 3) n (sqS (h 3) n (ffS (h 3) n (fiM h n (tE (h 3) n s.1) F) (tE3 (h 3) n s)) (j + 1)).1) (by omega) ⟨x4.1, x4.2.1⟩ ⟨(show MS g4 n (sqS (h 3) n (ffS (h 3) n (fiM h n (tE (h 3) n s.1) F) (tE3 (h 3) n s)) (j + 1)) from p4).1.2.1, (tE_r (show MS g4 n (sqS (h 3) n (ffS (h 3) n (fiM h n (tE (h 3) n s.1) F) (tE3 (h 3) n s)) (j + 1)) from p4).2.2.2.1).2.1⟩ x4.2.2.1 x4.2.2.2 (fun h_203 f0_203 f1_203 => ?_))
              refine r_iconst dX12_formRead_206 ?_
              refine r_zret dX12_formRead_207 rfl (.inr rfl) ?_
              have st4 := MS.step (show MS g4 n (sqS (h 3) n (ffS (h 3) n (fiM h n (tE (h 3) n s.1) F) (tE3 (h 3) n s)) (j + 1)) from p4) f0_203 f1_203
              rw [b4] at st4
              have e : siS (h 3) n 59 (foS (h 3) n (fiM h n (tE (h 3) n s.1) F) (tE3 (h 3) n s)) = tE3 (h 3) n (sqS (h 3) n (ffS (h 3) n (fiM h n (tE (h 3) n s.1) F) (tE3 (h 3) n s)) (j + 1)) := by
                rw [fe.1]
                unfold siS
                rw [if_pos z3, if_pos b_186, tE3_0 z3]
              refine ⟨_, rfl, kt _ ((o180.s24 f4).q st4.2) (by rw [e]; exact st4.1) (by rw [e]; exact z3) ⟨?_, ?_, ?_⟩ (fun q hq => ?_)⟩
              · rw [st4.2 49 24 (by decide)]; exact k4
              · rw [st4.2 56 F (fun z => absurd z.1 (by decide)), f4 56 F (fun z => absurd z.1 (by decide))]; exact n180
              · rw [fe.2, c1, st4.2 57 F (fun z => absurd z.1 (by decide)), f4 57 F (fun z => absurd z.1 (by decide))]; exact j180
              · rw [fe.2, c1] at hq
                rw [st4.2 58 _ (fun z => absurd z.1 (by decide)), f4 58 _ (fun z => absurd z.1 (by decide)), st4.2 59 _ (fun z => absurd z.1 (by decide)), f4 59 _ (fun z => absurd z.1 (by decide))]
                exact v180 q hq
            · refine r_if_eq (tgt := 76) dX12_formRead_189 rfl ⟨by decide, by decide⟩ (fun c_189 => ?_) (fun c_189 => absurd c_189 (by decide))
              rw [b180] at b_186
              exact ih (j + 1) h_180 (Nat.succ_le_of_lt j12) o180 tp z3 c1 (fun _ => b_186) j180 k180 n180 v180 (by omega)
          · refine r_if_ne (tgt := 149) dX12_formRead_144 rfl ⟨by decide, by decide⟩ (fun c_144 => absurd c_144 (by decide)) (fun c_144 => ?_)
            refine r_iconst dX12_formRead_147 ?_
            refine r_zret dX12_formRead_148 rfl (.inl rfl) ?_
            rw [b134] at f1_141 f2_141
            have e1 : sqS (h 3) n (ffS (h 3) n (fiM h n (tE (h 3) n s.1) F) (tE3 (h 3) n s)) (j + 1) = nuS (h 3) n 0 99 (nuS (h 3) n 0 99 (sqS (h 3) n (ffS (h 3) n (fiM h n (tE (h 3) n s.1) F) (tE3 (h 3) n s)) j)) := by rw [sqS, if_pos cc]
            have e : siS (h 3) n 59 (foS (h 3) n (fiM h n (tE (h 3) n s.1) F) (tE3 (h 3) n s)) = nuS (h 3) n 0 99 (nuS (h 3) n 0 99 (sqS (h 3) n (ffS (h 3) n (fiM h n (tE (h 3) n s.1) F) (tE3 (h 3) n s)) j)) := by
              have fe := (fo_end (b := h 3) (n := n) (fi := (fiM h n (tE (h 3) n s.1) F)) (s := tE3 (h 3) n s) (j := j + 1) ⟨Nat.succ_pos j, j12⟩ (by rw [e1]; exact fun z => f2_141 z.1)).1
              rw [fe, e1, siS_f f2_141]
            exact ⟨_, rfl, kf _ (o134.q f0_141) (by rw [e]; exact f1_141) (by rw [e]; exact f2_141)⟩
        · refine r_if_ne (tgt := 113) dX12_formRead_108 rfl ⟨by decide, by decide⟩ (fun c_108 => absurd c_108 (by decide)) (fun c_108 => ?_)
          refine r_iconst dX12_formRead_111 ?_
          refine r_zret dX12_formRead_112 rfl (.inl rfl) ?_
          rw [g3] at f1_105 f2_105
          have e : siS (h 3) n 59 (foS (h 3) n (fiM h n (tE (h 3) n s.1) F) (tE3 (h 3) n s)) = nuS (h 3) n 0 99 (sqS (h 3) n (ffS (h 3) n (fiM h n (tE (h 3) n s.1) F) (tE3 (h 3) n s)) j) := nfail hj g0 gs jj f2_105
          exact ⟨_, rfl, kf _ (gf.q f0_105) (by rw [e]; exact f1_105) (by rw [e]; exact f2_105)⟩
      · refine r_aload_n dX12_formRead_95 rfl rfl ?_
        refine r_iconst dX12_formRead_96 ?_
        refine r_callVI (av := [_]) (M' := mX12_wrong) dX12_formRead_97 vX12_wrong ml_X12_247 sh_49 (by decide) rfl rfl rfl rfl (by simp [wtA]) (sp_X12_wrong (by omega) (gf.mx hx) gp g0 (by omega) (fun h_97 f0_97 f1_97 => ?_))
        refine r_zret dX12_formRead_100 rfl (.inl rfl) ?_
        have j12 : j = 12 := by omega
        rw [g3] at f1_97
        have e : siS (h 3) n 59 (foS (h 3) n (fiM h n (tE (h 3) n s.1) F) (tE3 (h 3) n s)) = flS (h 3) n 2 (sqS (h 3) n (ffS (h 3) n (fiM h n (tE (h 3) n s.1) F) (tE3 (h 3) n s)) j) := by
          have ef : foS (h 3) n (fiM h n (tE (h 3) n s.1) F) (tE3 (h 3) n s) = flS (h 3) n 2 (sqS (h 3) n (ffS (h 3) n (fiM h n (tE (h 3) n s.1) F) (tE3 (h 3) n s)) j) := by
            unfold foS
            rw [← j12, if_pos k2]
          rw [ef, siS_f (flS_n (by decide))]
        exact ⟨_, rfl, kf _ (gf.q f0_97) (by rw [e]; exact f1_97) (by rw [e]; exact flS_n (by decide))⟩
theorem ff_1 {b : Nat → Int} {n : Nat} {fi : Int} {s : Sg} (h0 : s.2.1 = 0) (c : ¬ nmP b n s.1) : ffS b n fi s = flS b n 1 s := by
  unfold ffS flS
  rw [if_pos h0, if_pos h0, if_neg c]
theorem ff_3 {b : Nat → Int} {n : Nat} {fi : Int} {s : Sg} (h0 : s.2.1 = 0) (c : nmP b n s.1) (e : 0 ≤ fi) : ffS b n fi s = flS b n 3 s := by
  unfold ffS flS
  rw [if_pos h0, if_pos h0, if_pos c, if_pos e]
theorem ff_g {b : Nat → Int} {n : Nat} {fi : Int} {s : Sg} (h0 : s.2.1 = 0) (c : nmP b n s.1) (e : ¬ 0 ≤ fi) : ffS b n fi s = tE3 b n s := by
  unfold ffS
  rw [if_pos h0, if_pos c, if_neg e, tE3_0 h0]
theorem fo_f {b : Nat → Int} {n : Nat} {fi : Int} {s : Sg} (h : ¬ (ffS b n fi s).2.1 = 0) : siS b n 59 (foS b n fi s) = ffS b n fi s := by
  have e : foS b n fi s = ffS b n fi s := by
    unfold foS
    rw [sq_f h, flS_f h]
    split <;> rfl
  rw [e, siS_f h]
set_option maxRecDepth 20000 in
set_option maxHeartbeats 400000 in
theorem sp_X12_formRead {d : Nat} (hd : 7 ≤ d) {h : Hp} {n F : Nat} {s : Sg} (hx : MX h n) (hp : MS h n s) (h0 : s.2.1 = 0) (hF : h 49 24 = F ∧ F < 8) (hn : ∀ k : Nat, k < F → R32 (h 56 k)) {P : Int → Hp → Prop} (kt : ∀ h' : Hp, FrO F h h' → MS h' n (siS (h 3) n 59 (foS (h 3) n (fiM h n (tE (h 3) n s.1) F) (tE3 (h 3) n s))) → (siS (h 3) n 59 (foS (h 3) n (fiM h n (tE (h 3) n s.1) F) (tE3 (h 3) n s))).2.1 = 0 → (h' 49 24 = F + 1 ∧ h' 56 F = pkF (h 3) (tS (h 3) n (tE (h 3) n s.1)) (tE (h 3) n (tE (h 3) n s.1)) ∧ h' 57 F = sqC (h 3) n (ffS (h 3) n (fiM h n (tE (h 3) n s.1) F) (tE3 (h 3) n s)) 12) → (∀ q : Nat, q < sqC (h 3) n (ffS (h 3) n (fiM h n (tE (h 3) n s.1) F) (tE3 (h 3) n s)) 12 → h' 58 (12 * F + q) = nuV (h 3) n 0 99 (sqS (h 3) n (ffS (h 3) n (fiM h n (tE (h 3) n s.1) F) (tE3 (h 3) n s)) q) ∧ h' 59 (12 * F + q) = nuV (h 3) n 0 99 (nuS (h 3) n 0 99 (sqS (h 3) n (ffS (h 3) n (fiM h n (tE (h 3) n s.1) F) (tE3 (h 3) n s)) q))) → P 1 h') (kf : ∀ h' : Hp, FrO F h h' → MS h' n (siS (h 3) n 59 (foS (h 3) n (fiM h n (tE (h 3) n s.1) F) (tE3 (h 3) n s))) → ¬ (siS (h 3) n 59 (foS (h 3) n (fiM h n (tE (h 3) n s.1) F) (tE3 (h 3) n s))).2.1 = 0 → P 0 h') : Cl d mX12_formRead [.inr (.inr 49)] h (pI P) := by
  refine Cl.of (L := [some (.inr (.inr 49)), none]) (by decide +kernel) (Nat.le_of_ble_eq_true rfl) rfl ?_
  obtain ⟨d, rfl⟩ : ∃ q, d = q + 1 := ⟨d - 1, by omega⟩
  refine r_aload_n dX12_formRead_0 rfl rfl ?_
  refine r_getI dX12_formRead_1 fl_X12_244 sh_49 rfl ?_
  refine r_bipush dX12_formRead_4 (by decide +kernel) ?_
  refine r_icmp_ne (tgt := 15) dX12_formRead_6 rfl (by omega) ⟨by decide, by decide⟩ (fun c_6 => ?_) (fun c_6 => False.elim (by omega))
  refine r_aload_n dX12_formRead_15 rfl rfl ?_
  refine r_callVU (av := []) (M' := mX12_take) dX12_formRead_16 vX12_take ml_X12_253 sh_49 (by decide) rfl rfl rfl rfl (by simp [wtA]) (sp_X12_take (n := n) (p := tE (h 3) n s.1) (by omega) ⟨hx.1, hx.2.1⟩ ⟨hp.1.2.1, (tE_r hp.2.2.2.1).2.1⟩ hx.2.2.1 hx.2.2.2 (fun h_16 f0_16 f1_16 => ?_))
  have st := hp.step f0_16 f1_16
  have p1 := st.1
  have z1 : (tE3 (h 3) n s).2.1 = 0 := h0
  have b1 := st.2.b
  have F1 : FrO F h h_16 := fun x k y1 _ _ => st.2 x k (by omega)
  have mk := p1.1.2.2.1
  have sr := p1.2.2.2
  rw [b1] at mk
  have sr1 : tE (h 3) n s.1 ≤ n := sr.1
  have mi := mK_i (b := h 3) (n := n) (p := tE (h 3) n s.1) sr1
  have mi5 : mK (h 3) n (tE (h 3) n s.1) = 2 ↔ nmP (h 3) n (tE (h 3) n s.1) := mi.2.2.2.2.1
  have mk2 : h_16 49 15 = mK (h 3) n (tE (h 3) n s.1) := mk
  have mr : 0 ≤ h_16 49 15 ∧ h_16 49 15 ≤ 5 := by rw [mk2]; exact mi.2.2.2.2.2
  clear mi
  refine r_aload_n dX12_formRead_19 rfl rfl ?_
  refine r_getI dX12_formRead_20 fl_X12_225 sh_49 rfl ?_
  refine r_iconst dX12_formRead_23 ?_
  refine r_icmp_eq (tgt := 33) dX12_formRead_24 rfl (by omega) ⟨by decide, by decide⟩ (fun c_24 => ?_) (fun c_24 => ?_)
  · have nm : nmP (h 3) n (tE (h 3) n s.1) := mi5.mp (by rw [← mk2]; exact c_24)
    have lt := nm_LT sr1 nm
    have wq : h_16 49 16 = pkF (h 3) (tS (h 3) n (tE (h 3) n s.1)) (tE (h 3) n (tE (h 3) n s.1)) := by
      have := p1.1.2.2.2
      rw [b1] at this
      rw [this (by rw [show (tE3 (h 3) n s).1 = tE (h 3) n s.1 from rfl, nm.1]; decide)]
      exact mW_n nm
    have pq := pkF_r lt
    have fr := fiN_r (g := h 56) (z := pkF (h 3) (tS (h 3) n (tE (h 3) n s.1)) (tE (h 3) n (tE (h 3) n s.1))) (n := F) (j := 0)
    have fm : fiN (h_16 56) (h_16 49 16) 0 F = fiM h n (tE (h 3) n s.1) F := by
      unfold fiM
      rw [wq, show h_16 56 = h 56 from funext fun j => st.2 56 j (by omega)]
    have fr2 : -1 ≤ fiM h n (tE (h 3) n s.1) F ∧ fiM h n (tE (h 3) n s.1) F < F := ⟨fr.1, by have := fr.2; rw [Nat.zero_add] at this; exact this⟩
    refine r_aload_n dX12_formRead_33 rfl rfl ?_
    refine r_aload_n dX12_formRead_34 rfl rfl ?_
    refine r_getI dX12_formRead_35 fl_X12_235 sh_49 rfl ?_
    refine r_callVI (av := [_]) (M' := mX12_formOf) dX12_formRead_38 vX12_formOf ml_X12_263 sh_49 (by decide) rfl rfl rfl rfl (by simp [wtA]) (sp_X12_formOf (by omega) (F := F) ⟨(st.2 49 24 (by decide)).trans hF.1, by omega⟩ (by omega) (fun k hk => by rw [st.2 56 k (by omega)]; exact hn k hk) ?_)
    refine r_eqI fm ?_
    refine r_if_lt (tgt := 50) dX12_formRead_41 rfl (by omega) (fun c_41 => ?_) (fun c_41 => ?_)
    · refine r_aload_n dX12_formRead_50 rfl rfl ?_
      refine r_getI dX12_formRead_51 fl_X12_244 sh_49 rfl ?_
      rw [show h_16 49 24 = (F : Int) from (st.2 49 24 (by decide)).trans hF.1]
      refine r_istore_n (L' := [_, _]) dX12_formRead_54 rfl rfl (by decide) rfl ?_
      refine r_aload_n dX12_formRead_55 rfl rfl ?_
      refine r_getR dX12_formRead_56 fl_X12_47 sh_49 rfl ?_
      refine r_iload_n dX12_formRead_59 rfl rfl ?_
      refine r_aload_n dX12_formRead_60 rfl rfl ?_
      refine r_getI dX12_formRead_61 fl_X12_235 sh_49 rfl ?_
      refine r_iast dX12_formRead_64 sh_56 (by decide) (by omega) ?_
      refine r_aload_n dX12_formRead_65 rfl rfl ?_
      refine r_getR dX12_formRead_66 fl_X12_50 sh_49 rfl ?_
      refine r_iload_n dX12_formRead_69 rfl rfl ?_
      refine r_iconst dX12_formRead_70 ?_
      refine r_iast dX12_formRead_71 sh_57 (by decide) (by omega) ?_
      rw [Int.toNat_natCast, wq]
      refine r_gh (fun g eg => ?_)
      have gp : MS g n (tE3 (h 3) n s) := by rw [eg]; exact (p1.up (by decide) (by omega)).up (by decide) (by omega)
      have gx : MX g n := by rw [eg]; exact ((st.2.mx hx).up (by decide) (by decide) (by decide) (by omega)).up (by decide) (by decide) (by decide) (by omega)
      have g3 : g 3 = h 3 := by rw [eg]; exact b1
      have gF : FrO F h g := fun x k y1 y2 y3 => by
        rw [eg]
        unfold upH
        rw [if_neg (by omega), if_neg (by omega)]
        exact st.2 x k (by omega)
      have gn : g 56 F = pkF (h 3) (tS (h 3) n (tE (h 3) n s.1)) (tE (h 3) n (tE (h 3) n s.1)) := by rw [eg, up_nc (by decide), up_s]
      have gj : g 57 F = 0 := by rw [eg, up_s]
      have gk : g 49 24 = F := by rw [eg, up_nc (by decide), up_nc (by decide)]; exact (st.2 49 24 (by decide)).trans hF.1
      clear eg
      refine r_aload_n dX12_formRead_72 rfl rfl ?_
      refine r_callVU (av := []) (M' := mX12_take) dX12_formRead_73 vX12_take ml_X12_253 sh_49 (by decide) rfl rfl rfl rfl (by simp [wtA]) (sp_X12_take (n := n) (p := tE (g 3) n (tE3 (h 3) n s).1) (by omega) ⟨gx.1, gx.2.1⟩ ⟨gp.1.2.1, (tE_r gp.2.2.2.1).2.1⟩ gx.2.2.1 gx.2.2.2 (fun h_73 f0_73 f1_73 => ?_))
      have st2 := gp.step f0_73 f1_73
      rw [g3] at st2
      have e0 : ffS (h 3) n (fiM h n (tE (h 3) n s.1) F) (tE3 (h 3) n s) = tE3 (h 3) n (tE3 (h 3) n s) := ff_g z1 nm (by omega)
      rw [← e0] at st2
      exact lp_mform (h := h) (by omega) hx hF.2 kt kf 13 0 h_73 (by omega) (gF.q st2.2) st2.1 (by show (ffS (h 3) n (fiM h n (tE (h 3) n s.1) F) (tE3 (h 3) n s)).2.1 = 0; rw [e0]; exact h0) rfl (fun z => absurd z (Nat.lt_irrefl 0)) ((st2.2 57 F (by omega)).trans gj) ((st2.2 49 24 (by decide)).trans gk) ((st2.2 56 F (by omega)).trans gn) (fun q hq => absurd hq (Nat.not_lt_zero q)) (by omega)
    · refine r_aload_n dX12_formRead_44 rfl rfl ?_
      refine r_iconst dX12_formRead_45 ?_
      refine r_callVI (av := [_]) (M' := mX12_wrong) dX12_formRead_46 vX12_wrong ml_X12_247 sh_49 (by decide) rfl rfl rfl rfl (by simp [wtA]) (sp_X12_wrong (by omega) (st.2.mx hx) p1 z1 (by omega) (fun h_46 f0_46 f1_46 => ?_))
      refine r_zret dX12_formRead_49 rfl (.inl rfl) ?_
      have e0 : ffS (h 3) n (fiM h n (tE (h 3) n s.1) F) (tE3 (h 3) n s) = flS (h 3) n 3 (tE3 (h 3) n s) := ff_3 z1 nm (by omega)
      have ne : ¬ (ffS (h 3) n (fiM h n (tE (h 3) n s.1) F) (tE3 (h 3) n s)).2.1 = 0 := by rw [e0]; exact flS_n (by decide)
      have e := fo_f ne
      rw [b1, ← e0] at f1_46
      exact ⟨_, rfl, kf _ (F1.q f0_46) (by rw [e]; exact f1_46) (by rw [e]; exact ne)⟩
  · refine r_aload_n dX12_formRead_27 rfl rfl ?_
    refine r_iconst dX12_formRead_28 ?_
    refine r_callVI (av := [_]) (M' := mX12_wrong) dX12_formRead_29 vX12_wrong ml_X12_247 sh_49 (by decide) rfl rfl rfl rfl (by simp [wtA]) (sp_X12_wrong (by omega) (st.2.mx hx) p1 z1 (by omega) (fun h_29 f0_29 f1_29 => ?_))
    refine r_zret dX12_formRead_32 rfl (.inl rfl) ?_
    have c0 : ¬ nmP (h 3) n (tE (h 3) n s.1) := fun z => c_24 (by rw [mk2]; exact mi5.mpr z)
    have e0 : ffS (h 3) n (fiM h n (tE (h 3) n s.1) F) (tE3 (h 3) n s) = flS (h 3) n 1 (tE3 (h 3) n s) := ff_1 z1 c0
    have ne : ¬ (ffS (h 3) n (fiM h n (tE (h 3) n s.1) F) (tE3 (h 3) n s)).2.1 = 0 := by rw [e0]; exact flS_n (by decide)
    have e := fo_f ne
    rw [b1, ← e0] at f1_29
    exact ⟨_, rfl, kf _ (F1.q f0_29) (by rw [e]; exact f1_29) (by rw [e]; exact ne)⟩
set_option maxRecDepth 20000 in
set_option maxHeartbeats 400000 in
theorem sp_formFull {d : Nat} (hd : 3 ≤ d) {h : Hp} {n : Nat} {s : Sg} (hx : MX h n) (hp : MS h n s) (h0 : s.2.1 = 0) (hF : h 49 24 = 8) {P : Int → Hp → Prop} (k : ∀ h' : Hp, (FrQ h h') → (MS h' n (flS (h 3) n 2 s)) → P (0) h') : Cl d mX12_formRead [.inr (.inr 49)] h (pI P) := by
  refine Cl.of (L := [some (.inr (.inr 49)), none]) (by decide +kernel) (Nat.le_of_ble_eq_true rfl) rfl ?_
  obtain ⟨d, rfl⟩ : ∃ q, d = q + 1 := ⟨d - 1, by omega⟩
  refine r_aload_n dX12_formRead_0 rfl rfl ?_
  refine r_getI dX12_formRead_1 fl_X12_244 sh_49 rfl ?_
  refine r_bipush dX12_formRead_4 (by decide +kernel) ?_
  refine r_icmp_ne (tgt := 15) dX12_formRead_6 rfl (by omega) ⟨by decide, by decide⟩ (fun c_6 => False.elim (by omega)) (fun c_6 => ?_)
  refine r_aload_n dX12_formRead_9 rfl rfl ?_
  refine r_iconst dX12_formRead_10 ?_
  refine r_callVI (av := [_]) (M' := mX12_wrong) dX12_formRead_11 vX12_wrong ml_X12_247 sh_49 (by decide) rfl rfl rfl rfl (by simp [wtA]) (sp_X12_wrong (by omega) hx hp h0 (by omega) (fun h_11 f0_11 f1_11 => ?_))
  refine r_zret dX12_formRead_14 rfl (.inl rfl) ?_
  exact ⟨_, rfl, k _ f0_11 f1_11⟩
