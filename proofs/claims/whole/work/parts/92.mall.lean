/-! DOALL, FROM ITS BEGIN; the other machine's moves stay -/
def Mb (h g : Hp) : Prop := (∀ a k, ¬ (a = 49 ∧ (k = 29 ∨ k = 34 ∨ k = 35)) → ¬ (60 ≤ a ∧ a ≤ 62 ∧ k = 0) → a ≠ 63 → g a k = h a k) ∧ g 60 0 = (h 49 3).tdiv 2 ∧ g 61 0 = h 49 4 ∧ g 62 0 = 0 ∧ psM 0 g = (0, 0, 0, (0, 1, h 49 3, h 49 4), (0, g 60, g 61, g 62, h 49 12))
theorem Mb.j {h g : Hp} (m : Mb h g) : FrJ h g := fun a k z1 z2 => m.1 a k (by omega) (by omega) (by omega)
set_option maxRecDepth 20000 in
set_option maxHeartbeats 400000 in
theorem sp_X12_doAll {d : Nat} (hd : 9 ≤ d) {h : Hp} {x : Hp} {F i : Nat} (hw : MOK h) (hD : DM x h F i) (v : PV x F i) (wn : WN x 5 0 i) (h0 : h 49 12 = 0) {P : Hp → Prop} (k : ∀ g u : Hp, Mb h g → FrJ g u → gmM u = (pfL x (rpD x 5) i 61 0 (psM 0 g)).2.2.2.2 → P u) : Cl d mX12_doAll [.inr (.inr 49)] h (pV P) := by
  refine Cl.of (L := [some (.inr (.inr 49)), none, none, none, none]) (by decide +kernel) (Nat.le_of_ble_eq_true rfl) rfl ?_
  obtain ⟨d, rfl⟩ : ∃ q, d = q + 1 := ⟨d - 1, by omega⟩
  refine r_aload_n dX12_doAll_0 rfl rfl ?_
  refine r_iconst dX12_doAll_1 ?_
  refine r_putI dX12_doAll_2 fl_X12_164 sh_49 rfl ?_
  refine r_aload_n dX12_doAll_5 rfl rfl ?_
  refine r_iconst dX12_doAll_6 ?_
  refine r_callVU (av := [_]) (M' := mX12_home) dX12_doAll_7 vX12_home ml_X12_167 sh_49 (by decide) rfl rfl rfl rfl (by simp [wtA]) (sp_X12_home (h := upH h 49 29 0) (p := 0) (by omega) (show MOK (upH h 49 29 0) from hw) ⟨by decide, by decide⟩ ?_)
  refine r_aload_n dX12_doAll_10 rfl rfl ?_
  refine r_iconst dX12_doAll_11 ?_
  refine r_putI dX12_doAll_12 fl_X12_297 sh_49 rfl ?_
  refine r_aload_n dX12_doAll_15 rfl rfl ?_
  refine r_iconst dX12_doAll_16 ?_
  refine r_putI dX12_doAll_17 fl_X12_300 sh_49 rfl ?_
  refine r_aload_n dX12_doAll_20 rfl rfl ?_
  refine r_getR dX12_doAll_21 fl_X12_69 sh_49 rfl ?_
  refine r_iconst dX12_doAll_24 ?_
  refine r_iconst dX12_doAll_25 ?_
  refine r_iast dX12_doAll_26 sh_63 (by decide) ⟨by decide, by decide⟩ ?_
  refine r_aload_n dX12_doAll_27 rfl rfl ?_
  refine r_getR dX12_doAll_28 fl_X12_69 sh_49 rfl ?_
  refine r_iconst dX12_doAll_31 ?_
  refine r_aload_n dX12_doAll_32 rfl rfl ?_
  refine r_getI dX12_doAll_33 fl_X12_13 sh_49 rfl ?_
  refine r_eqI (((up_nc (by decide)).trans (((up_nk (by decide)).trans (((up_nk (by decide)).trans (((up_nc (by decide)).trans (((up_nc (by decide)).trans (((up_nc (by decide)).trans (up_nk (by decide)))))))))))))) ?_
  refine r_iast dX12_doAll_36 sh_63 (by decide) ⟨by decide, by decide⟩ ?_
  refine r_aload_n dX12_doAll_37 rfl rfl ?_
  refine r_getR dX12_doAll_38 fl_X12_69 sh_49 rfl ?_
  refine r_iconst dX12_doAll_41 ?_
  refine r_iconst dX12_doAll_42 ?_
  refine r_iast dX12_doAll_43 sh_63 (by decide) ⟨by decide, by decide⟩ ?_
  refine r_aload_n dX12_doAll_44 rfl rfl ?_
  refine r_getR dX12_doAll_45 fl_X12_69 sh_49 rfl ?_
  refine r_iconst dX12_doAll_48 ?_
  refine r_aload_n dX12_doAll_49 rfl rfl ?_
  refine r_getI dX12_doAll_50 fl_X12_17 sh_49 rfl ?_
  refine r_eqI (((up_nc (by decide)).trans (((up_nc (by decide)).trans (((up_nc (by decide)).trans (((up_nk (by decide)).trans (((up_nk (by decide)).trans (((up_nc (by decide)).trans (((up_nc (by decide)).trans (((up_nc (by decide)).trans (up_nk (by decide)))))))))))))))))) ?_
  refine r_iast dX12_doAll_53 sh_63 (by decide) ⟨by decide, by decide⟩ ?_
  refine r_iconst dX12_doAll_54 ?_
  refine r_istore_n (L' := [_, _, _, _, _]) dX12_doAll_55 rfl rfl (by decide) rfl ?_
  refine r_iconst dX12_doAll_56 ?_
  refine r_istore_n (L' := [_, _, _, _, _]) dX12_doAll_57 rfl rfl (by decide) rfl ?_
  refine r_iconst dX12_doAll_58 ?_
  refine r_istore_n (L' := [_, _, _, _, _]) dX12_doAll_59 rfl rfl (by decide) rfl ?_
  refine r_gh (fun g eg => ?_)
  have mb : Mb h g := by
    rw [eg]
    refine ⟨fun a k z1 z2 z3 => ?_, rfl, rfl, rfl, rfl⟩
    have t0 : Int.toNat 0 = 0 := rfl
    unfold upH
    rw [if_neg (by omega), if_neg (by omega), if_neg (by omega), if_neg (by omega), if_neg (by omega), if_neg (by omega), if_neg (by omega), if_neg (by omega), if_neg (by omega), if_neg (by omega)]
  clear eg
  have i60 := v.1.2
  have x1 : x 1 0 = h 49 3 := hD.2.1.1.symm
  have x2 : x 1 1 = h 49 4 := hD.2.1.2.symm
  have cw : WH (x 1 0) (x 1 1) := by
    rw [x1, x2]
    unfold WH
    clear v wn hD mb
    omega
  have ok0 : PQ (x 1 0) (x 1 1) 0 (psM 0 g) (psM 0 g) := by
    have q := pq_0 (W := h 49 3) (H := h 49 4) (by clear v wn hD mb cw; omega) mb.2.1 mb.2.2.1 mb.2.2.2.1
    rw [mb.2.2.2.2, x1, x2, h0]
    exact q
  have g0 : g 49 12 = 0 := (mb.1 49 12 (by decide) (by decide) (by decide)).trans h0
  refine do_all (d := d) (x := x) (F := F) (i := i) (by omega) v cw 5 0 i wn (Nat.le_refl _) 61 0 0 0 _ g (Nat.le_refl _) (by omega) (by omega) rfl (hD.f mb.j) ok0 g0 (Or.inl rfl) (fun u dn o sk e z => ?_) (fun u f e z => k g u mb f e)
  have hu := hD.f (mb.j.tr sk.1)
  refine r_iload_n dX12_doAll_60 rfl rfl ?_
  refine r_if_le (tgt := 173) dX12_doAll_61 rfl ⟨by decide, by decide⟩ (fun c_61 => ?_) (fun c_61 => absurd c_61 (by decide))
  refine r_iload_n dX12_doAll_173 rfl rfl ?_
  refine r_aload_n dX12_doAll_174 rfl rfl ?_
  refine r_getI dX12_doAll_175 fl_X12_276 sh_49 rfl ?_
  rw [hu.1]
  refine r_icmp_ne (tgt := 182) dX12_doAll_178 rfl (by omega) (by omega) (fun c_178 => absurd rfl c_178) (fun c_178 => ?_)
  refine r_vret dX12_doAll_181 rfl ?_
  exact ⟨rfl, k g u mb sk.1 (congrArg (fun q : Ps => q.2.2.2.2) e)⟩
def Hi (z g : Gm) : Prop := (0 ≤ g.1 ∧ g.1 ≤ 150) ∧ ∀ k : Nat, 151 ≤ k → g.2.1 k = z.2.1 k ∧ g.2.2.1 k = z.2.2.1 k ∧ g.2.2.2.1 k = z.2.2.2.1 k
theorem Hi.a {z g : Gm} {x y d : Int} (h : Hi z g) : Hi z (gmA x y d g) := by
  have h1 := h.1
  by_cases c : g.1 < 150
  · rw [gmA_y c]
    refine ⟨?_, fun k hk => ?_⟩
    · show 0 ≤ g.1 + 1 ∧ g.1 + 1 ≤ 150
      omega
    · show upG g.2.1 (g.1 + 1).toNat x k = z.2.1 k ∧ upG g.2.2.1 (g.1 + 1).toNat y k = z.2.2.1 k ∧ upG g.2.2.2.1 (g.1 + 1).toNat d k = z.2.2.2.1 k
      have e : k ≠ (g.1 + 1).toNat := by omega
      rw [upG_n e, upG_n e, upG_n e]
      exact h.2 k hk
  · rw [gmA_n c]
    exact h
theorem Hi.m1 {z g : Gm} {x y : Int} (h : Hi z g) : Hi z (mv1 x y g) := by
  unfold mv1
  split
  · exact h
  · exact h.a
theorem Hi.li {z g : Gm} {w t : Q4} (h : Hi z g) : Hi z (liF w t g) := by
  by_cases c : lnN w t
  · rw [liF_n c]
    exact h
  · rw [liF_e c]
    unfold mv2
    split
    · exact h.m1.a
    · exact h.m1
theorem Hi.to {z g : Gm} {w : Q4} {x y : Int} (h : Hi z g) : Hi z (toF w x y g) := by
  unfold toF
  split
  · exact h.m1
  · exact h
theorem Hi.it {z : Gm} {w : Q4} {E : Nat → Q4} : ∀ (n j : Nat) (g : Gm), Hi z g → Hi z (itF w E n j g)
  | 0, _, _, h => h
  | n + 1, j, g, h => by
    rw [itF]
    split
    · exact Hi.it n (j + 1) _ h.li
    · exact h
theorem Hi.ac {z g : Gm} {x : Hp} {s : Nat} {sx sy : Int} {w : Q4} (h : Hi z g) : Hi z (acG x s sx sy w g) := by
  unfold acG
  split
  · exact Hi.it _ _ _ h
  · split
    · exact h.li
    · split
      · exact h.to
      · split
        · exact Hi.it _ _ _ h
        · exact h
theorem Hi.pf {z : Gm} {x : Hp} {R : Nat → Ps → Ps} {b : Nat} (hR : ∀ (s : Nat) (p : Ps), Hi z p.2.2.2.2 → Hi z (R s p).2.2.2.2) : ∀ (m s : Nat) (p : Ps), Hi z p.2.2.2.2 → Hi z (pfL x R b m s p).2.2.2.2
  | 0, _, _, h => h
  | m + 1, s, p, h => by
    rw [pfL]
    split
    · split
      · exact h
      · split
        · exact Hi.pf hR m _ _ (hR s _ h)
        · exact Hi.pf hR m _ _ h.ac
    · exact h
theorem Hi.rp {z : Gm} {T : Ps → Ps} {dx dy : Int} (hT : ∀ p : Ps, Hi z p.2.2.2.2 → Hi z (T p).2.2.2.2) : ∀ (t : Nat) (p : Ps), Hi z p.2.2.2.2 → Hi z (rpF T dx dy t p).2.2.2.2
  | 0, _, h => h
  | t + 1, p, h => by
    rw [rpF]
    split
    · exact Hi.rp hT t _ (hT p h)
    · exact h
theorem Hi.rd {z : Gm} {x : Hp} : ∀ (r s : Nat) (p : Ps), Hi z p.2.2.2.2 → Hi z (rpD x r s p).2.2.2.2
  | 0, _, _, h => h
  | r + 1, s, p, h => by
    rw [rpD]
    exact Hi.rp (fun p h => Hi.pf (Hi.rd r) _ _ _ h) _ p h
