/-! THE REFERENCE'S READING, ALONG THE CLASS'S TRACE -/
theorem FrD.tr {h g u : Hp} (f : FrD h g) (f2 : FrD g u) : FrD h u := fun x k z1 z2 => (f2 x k z1 z2).trans (f x k z1 z2)
theorem SR.hn {x g : Hp} {n F i : Nat} (r : SR x g n F i) (c : NF x F) : ∀ k : Nat, k < F → R32 (g 56 k) := fun k hk => by
  have e := (r.2.2.2.2.2 k hk).1
  have q := pkF_r (c.2.2 k hk).2.2.2.2
  rw [e]
  unfold nmF
  omega
theorem SR.hq {x g : Hp} {n F i : Nat} {s : Sg} (r : SR x g n F i) (c : CI x n s F i) : ∀ q : Nat, (q : Int) < g 49 22 → 0 ≤ g 55 q ∧ g 55 q < i := fun q hq => by
  rw [r.2.2.1.2.2] at hq
  rw [r.2.2.2.2.1 q hq]
  exact c.2.2.2 q hq
theorem SR.kz {x g : Hp} {n F i : Nat} {s : Sg} (r : SR x g n F i) (m : MS g n s) : (g 49 15 = 0 ↔ tK (x 3) n s.1 = 0) ∧ 0 ≤ g 49 15 ∧ g 49 15 ≤ 5 := by
  have mi := mK_i (b := g 3) (n := n) m.2.2.2.1
  rw [m.1.2.2.1, ← r.1]
  exact ⟨mi.2.1, mi.2.2.2.2.2⟩
/-- a statement without a fault: both go on -/
theorem SR.on {x y g u : Hp} {n F i : Nat} {s : Sg} (r : SR x g n F i) (c : CI x n s F i) (s0 : s.2.1 = 0) (hk : tK (x 3) n s.1 ≠ 0) (c12 : F12 x F) (t : StC x y n F i s) (f : FrD g u) (p : Hid (MS u n (acS (x 3) n (fiH x n (tE (x 3) n s.1) F) (x 14 4) i F s))) (z : (acS (x 3) n (fiH x n (tE (x 3) n s.1) F) (x 14 4) i F s).2.1 = 0) (m : MtG g u n F i (vbF (x 3) n s.1) (tE3 (x 3) n s)) : ∃ (s2 : Sg) (F2 : Nat), CI y n s2 F2 (i + 1) ∧ s2.2.1 = 0 ∧ SR y u n F2 (i + 1) ∧ Hid (MS u n s2) ∧ F12 y F2 := by
  have e3 : y 3 = x 3 := funext fun j => t.1 3 j (by omega)
  have ac := t.ac
  have good := ac.2 z
  obtain ⟨F2, r2, c2, y4⟩ := r.step c12 c.1.2.2.1 c.2.1.1 e3 f good m
  obtain ⟨s2, b2, n2⟩ := t.next c s0 hk
  have z2 : s2.2.1 = 0 := by rw [← b2.2.1.2.1, ac.1.2.1]; exact z
  obtain ⟨-, F3, i3, c3⟩ := n2 z2
  have eF : F3 = F2 := Int.ofNat.inj (c3.2.1.1.symm.trans y4)
  have ei : i3 = i + 1 := by
    have a := c3.2.2.1.1
    have b := good.1.1
    have q := c.2.2.1.1
    clear n2 r r2 m good ac t
    omega
  rw [eF, ei] at c3
  exact ⟨s2, F2, c3, z2, r2, MS_cg (f.b.trans (r.1.trans e3.symm)) ac.1 b2.2.1 p, c2⟩
set_option maxRecDepth 20000 in
set_option maxHeartbeats 400000 in
theorem lp_mdraw {d : Nat} (hd : 8 ≤ d) {P : Int → Hp → Prop} {n : Nat} {z : Int} {x g0 : Hp} (he : ¬ x 14 2 = 0 ∨ x 2 1 = 0) (K1 : ∀ (u : Hp) (s : Sg) (F i : Nat), FrD g0 u → SR x u n F i → CI x n s F i → F12 x F → x 14 2 = 0 → x 2 1 = 0 → (u 49 10 = x 14 2 ∧ u 49 11 = x 14 3) → x 14 4 = 0 → WW mX12_draw (d + 1) (pI P) 92 [some (.inr (.inr 49)), some (.inl z)] [] u) (K0 : ∀ u : Hp, FrD g0 u → ((¬ x 14 2 = 0 ∧ u 49 10 = x 14 2 ∧ u 49 11 = x 14 3) ∨ (x 14 2 = 0 ∧ x 2 1 = 0 ∧ 0 < x 14 4 ∧ u 49 10 = 1 ∧ u 49 11 = x 2 2)) → P (-1) u) : ∀ (m : Nat) (x0 g : Hp) (s : Sg) (F i : Nat), Rch n m x0 x → CI x0 n s F i → s.2.1 = 0 → SR x0 g n F i → Hid (MS g n s) → F12 x0 F → FrD g0 g → WW mX12_draw (d + 1) (pI P) 69 [some (.inr (.inr 49)), some (.inl z)] [] g := by
  intro m
  induction m with
  | zero =>
    intro x0 g s F i hr c s0 r ms c12 fd
    have kz := r.kz ms
    have r22 : g 49 22 = x0 14 4 := r.2.2.1.2.2
    have ob := c.1.2.2
    have r3 : g 3 = x0 3 := r.1
    have fi := fun p => r.fi p
    have hr : x = x0 := hr
    subst hr
    have f0 : x 14 2 = 0 := c.1.2.1.2.1.trans s0
    have k1 : x 2 1 = 0 := he.resolve_left (fun q => q f0)
    have tk : tK (x 3) n s.1 = 0 := c.1.2.1.1.1.symm.trans k1
    have tk2 : tK (g 3) n s.1 = 0 := by rw [r3]; exact tk
    have vn : vbF (g 3) n s.1 = -1 := if_neg (by rw [tk2]; decide)
    have tp : x 2 2 = tS (x 3) n s.1 := c.1.2.1.1.2.1
    have ms2 : MS g n s := ms
    have K2 := K1 g s F i fd r c c12 f0 k1 ⟨ms2.2.1.trans c.1.2.1.2.1.symm, ms2.2.2.1.trans c.1.2.1.2.2.1.symm⟩
    clear ms2
    have kq : g 49 15 = 0 := kz.1.mpr tk
    have ob2 : 0 ≤ g 49 22 ∧ g 49 22 ≤ 5 := by rw [r22]; exact ob
    clear kz
    refine r_aload_n dX12_draw_69 rfl rfl ?_
    refine r_getI dX12_draw_70 fl_X12_225 sh_49 rfl ?_
    refine r_if_ne (tgt := 83) dX12_draw_73 rfl (by omega) (fun c_73 => absurd kq c_73) (fun c_73 => ?_)
    refine r_aload_n dX12_draw_76 rfl rfl ?_
    refine r_getI dX12_draw_77 fl_X12_273 sh_49 rfl ?_
    refine r_if_le (tgt := 92) dX12_draw_80 rfl (by omega) (fun c_80 => ?_) (fun c_80 => ?_)
    · exact K2 (by rw [← r22]; exact Int.le_antisymm c_80 ob2.1)
    · refine r_aload_n dX12_draw_83 rfl rfl ?_
      refine r_callVI (av := []) (M' := mX12_actRead) dX12_draw_84 vX12_actRead ml_X12_338 sh_49 (by decide) rfl rfl rfl rfl (by simp [wtA]) (sp_X12_actRead (h := g) (n := n) (F := F) (i := i) (s := s) (by omega) r.2.1 ms s0 ⟨r.2.2.1.2.1, c.2.1.2.1⟩ (r.hn c.2.1) ⟨r.2.2.1.1, c.2.2.1.2⟩ (by rw [r.2.2.1.2.2]; exact c.1.2.2) (r.hq c) (fun cc u f p mc => ?_) (fun nc u f p zz vv mg => ?_) (fun nc u f p zz => ?_))
      · refine r_if_ne (tgt := 69) dX12_draw_87 rfl ⟨by decide, by decide⟩ (fun c_87 => ?_) (fun c_87 => absurd c_87 (by decide))
        exact absurd (tk2.symm.trans cc.1) (by decide)
      · refine r_if_ne (tgt := 69) dX12_draw_87 rfl ⟨by decide, by decide⟩ (fun c_87 => ?_) (fun c_87 => absurd c_87 (by decide))
        exact absurd vv.1 (by rw [vn]; decide)
      · refine r_if_ne (tgt := 69) dX12_draw_87 rfl ⟨by decide, by decide⟩ (fun c_87 => absurd c_87 (by decide)) (fun c_87 => ?_)
        refine r_iconst dX12_draw_90 ?_
        refine r_iret dX12_draw_91 rfl ?_
        have ea : acS (g 3) n (fiM g n (tE (g 3) n s.1) F) (g 49 22) i F s = flS (g 3) n 1 s := if_pos (by rw [vn]; decide)
        have p2 : MS u n (flS (g 3) n 1 s) := by rw [← ea]; exact p
        have e1 : flS (g 3) n 1 s = (s.1, 1, (tS (g 3) n s.1 : Int)) := if_pos s0
        rw [e1] at p2
        refine ⟨_, rfl, K0 u (fd.tr f) (Or.inr ⟨f0, k1, by rw [← r22]; exact Int.not_le.mp c_80, p2.2.1, ?_⟩)⟩
        rw [p2.2.2.1, tp, r3]
  | succ m ih =>
    intro x0 g sA F i hr cA s0A r msA c12 fd
    obtain ⟨x1, ⟨s, F', i', c, s0, hk, st⟩, hr⟩ := hr
    have eF : F' = F := Int.ofNat.inj (c.2.1.1.symm.trans cA.2.1.1)
    have ei : i' = i := Int.ofNat.inj (c.2.2.1.1.symm.trans cA.2.2.1.1)
    rw [eF, ei] at c
    rw [eF, ei] at st
    have ms : Hid (MS g n s) := MS_cg r.1 cA.1.2.1 c.1.2.1 msA
    clear cA s0A msA eF ei
    have kz := r.kz ms
    have r22 : g 49 22 = x0 14 4 := r.2.2.1.2.2
    have ob := c.1.2.2
    have r3 : g 3 = x0 3 := r.1
    have fi := fun p => r.fi p
    have kq : ¬ g 49 15 = 0 := fun q => hk (kz.1.mp q)
    have kr := kz.2
    clear kz
    refine r_aload_n dX12_draw_69 rfl rfl ?_
    refine r_getI dX12_draw_70 fl_X12_225 sh_49 rfl ?_
    refine r_if_ne (tgt := 83) dX12_draw_73 rfl (by clear st; omega) (fun c_73 => ?_) (fun c_73 => absurd c_73 kq)
    refine r_aload_n dX12_draw_83 rfl rfl ?_
    refine r_callVI (av := []) (M' := mX12_actRead) dX12_draw_84 vX12_actRead ml_X12_338 sh_49 (by decide) rfl rfl rfl rfl (by simp [wtA]) (sp_X12_actRead (h := g) (n := n) (F := F) (i := i) (s := s) (by omega) r.2.1 ms s0 ⟨r.2.2.1.2.1, c.2.1.2.1⟩ (r.hn c.2.1) ⟨r.2.2.1.1, c.2.2.1.2⟩ (by rw [r.2.2.1.2.2]; exact c.1.2.2) (r.hq c) (fun cc u f p mc => ?_) (fun nc u f p zz vv mg => ?_) (fun nc u f p zz => ?_))
    · refine r_if_ne (tgt := 69) dX12_draw_87 rfl ⟨by decide, by decide⟩ (fun c_87 => ?_) (fun c_87 => absurd c_87 (by decide))
      rw [r3, r22] at cc
      have st := (st.resolve_right (fun q => q.1 cc)).2.2
      have nx := st.next c hk cc.2
      have cl := r.close c12 cc.2 c.2.2.1.1 f st mc
      rw [r3] at p
      exact ih x1 u (tE3 (x0 3) n s) F i hr nx.1 s0 cl.1 p cl.2 (fd.tr f)
    · refine r_if_ne (tgt := 69) dX12_draw_87 rfl ⟨by decide, by decide⟩ (fun c_87 => ?_) (fun c_87 => absurd c_87 (by decide))
      rw [r3, r22] at nc
      rw [r3, fi, r22] at p zz
      rw [r3] at mg
      have st := (st.resolve_left (fun q => nc ⟨q.1, q.2.1⟩)).2
      obtain ⟨s2, F2, c2, z2, r2, m2, d2⟩ := r.on c s0 hk c12 st f p zz mg
      exact ih x1 u s2 F2 (i + 1) hr c2 z2 r2 m2 d2 (fd.tr f)
    · refine r_if_ne (tgt := 69) dX12_draw_87 rfl ⟨by decide, by decide⟩ (fun c_87 => absurd c_87 (by decide)) (fun c_87 => ?_)
      refine r_iconst dX12_draw_90 ?_
      refine r_iret dX12_draw_91 rfl ?_
      rw [r3, r22] at nc
      rw [r3, fi, r22] at p zz
      have st := (st.resolve_left (fun q => nc ⟨q.1, q.2.1⟩)).2
      have ac := st.ac
      have p2 : MS u n (acS (x0 3) n (fiH x0 n (tE (x0 3) n s.1) F) (x0 14 4) i F s) := p
      have nf : ¬ x1 14 2 = 0 := by rw [ac.1.2.1]; exact zz
      have ex : x = x1 := by
        match m, hr with
        | 0, hr => exact hr
        | m + 1, ⟨_, ⟨s3, _, _, c3, s3z, _⟩, _⟩ => exact absurd (c3.1.2.1.2.1.trans s3z) nf
      subst ex
      exact ⟨_, rfl, K0 u (fd.tr f) (Or.inl ⟨nf, p2.2.1.trans ac.1.2.1.symm, p2.2.2.1.trans ac.1.2.2.1.symm⟩)⟩
