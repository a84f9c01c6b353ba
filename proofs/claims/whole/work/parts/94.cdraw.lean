/-! DRAW, THE CLASS -/
theorem rch_fr {n : Nat} : ∀ {m : Nat} {x g : Hp}, Rch n m x g → FrB x g
  | 0, x, g, r => by
    have r : g = x := r
    rw [r]
    exact fun _ _ _ => rfl
  | m + 1, x, g, ⟨y, ⟨_, _, _, _, _, _, st⟩, r⟩ => fun a k z => by
    rw [rch_fr r a k z]
    rcases st with ⟨-, -, c⟩ | ⟨-, c⟩
    · exact c.1 a k z
    · exact c.1 a k z
theorem rd_fr {n m : Nat} {h h0 x : Hp} (s : St0 h h0 n) (r : Rch n m h0 x) : ∀ a k, (a = 0 ∨ a = 1 ∨ a = 3 ∨ 16 ≤ a) → x a k = h a k := fun a k z => (rch_fr r a k (by omega)).trans (s.1 a k (by omega) (by omega) (by omega))
theorem rd_c {n m : Nat} {h h0 x : Hp} (s : St0 h h0 n) (r : Rch n m h0 x) {a : Nat} (z : a = 0 ∨ a = 1 ∨ a = 3 ∨ 16 ≤ a) : x a = h a := funext fun k => rd_fr s r a k z
/-- the class behind a drawing: h ahead of it, x behind the reading, T what was plotted -/
def Cs (h x g : Hp) (T : Ps) : Prop :=
  (∀ a k, ¬ (a = 0 ∧ k = 12) → ¬ (a = 2) → ¬ (4 ≤ a ∧ a ≤ 15) → ¬ (a = 16 ∧ k = 0) → ¬ (17 ≤ a ∧ a ≤ 22) → ¬ (a = 30 ∨ a = 31) → ¬ (a = 33 ∧ k = 0) → ¬ (a = 48 ∧ k = 0) → g a k = h a k) ∧
  (g 2 0 = 0 ∧ g 0 12 = flP T ∧ g 14 2 = x 14 2 ∧ g 14 3 = x 14 3) ∧ (g 16 0 = T.2.2.2.2.1 ∧ g 17 = T.2.2.2.2.2.1 ∧ g 18 = T.2.2.2.2.2.2.1 ∧ g 19 = T.2.2.2.2.2.2.2.1) ∧
  (∀ p : Nat, (p : Int) ≤ g 16 0 → g 20 p = stF (h 1 2) (h 1 3) (100 * g 17 p) (100 * g 18 p) ∧ g 21 p = stF (h 1 2) (h 1 3) (100 * h 1 0 - 100 * g 17 p) (100 * g 18 p)) ∧ (∀ p : Nat, p < 300 → g 22 p = 0) ∧ g 33 0 = 0 ∧ g 48 0 = 0
set_option maxRecDepth 20000 in
set_option maxHeartbeats 400000 in
theorem sp_X11_draw {d : Nat} (hd : 20 ≤ d) {z : Int} {h : Hp}  (hw : WOK h) (hz : R32 z) (hT : 0 ≤ h 2 0 ∧ h 2 0 ≤ 500) (hb : BY (h 3)) {P : Int → Hp → Prop} (kb : z < 0 ∨ h 2 0 < z → P (-2) h) (k0 : ∀ (n : Nat) (h0 x g2 : Hp) (m : Nat) (s : Sg), z = n → (n : Int) ≤ h 2 0 → St0 h h0 n → Rch n m h0 x → CB x n s → FrP x g2 → ((¬ s.2.1 = 0 ∧ PS g2 n s) ∨ (s.2.1 = 0 ∧ tK (x 3) n s.1 = 0 ∧ (∃ F i : Nat, CI x n s F i) ∧ 0 < x 14 4 ∧ PS g2 n (flS (x 3) n 1 s))) → P (-1) (upH (upH g2 2 0 0) 0 12 0)) (k1 : ∀ (n : Nat) (h0 x : Hp) (m : Nat) (s : Sg) (F i : Nat) (xx g : Hp) (T : Ps), z = n → (n : Int) ≤ h 2 0 → St0 h h0 n → Rch n m h0 x → CI x n s F i → s.2.1 = 0 → tK (x 3) n s.1 = 0 → x 14 4 = 0 → PV xx F i → WN xx 5 0 i → (∀ a : Nat, a = 1 ∨ (4 ≤ a ∧ a ≤ 13) → xx a = x a) → xx 1 = h 1 → (xx 17 0 = (h 1 0).tdiv 2 ∧ xx 18 0 = h 1 1 ∧ xx 19 0 = 0 ∧ psC xx = (0, 0, 0, (0, 1, h 1 0, h 1 1), (0, xx 17, xx 18, xx 19, 0))) → T = pfL xx (rpD xx 5) i 61 0 (psC xx) → PQ (h 1 0) (h 1 1) 0 T T → Cs h x g T → P (g 16 0) g) : Cl d mX11_draw [.inr (.inr 0), .inl z] h (pI P) := by
  refine Cl.of (L := [some (.inr (.inr 0)), some (.inl z), none]) (by decide +kernel) (Nat.le_of_ble_eq_true rfl) rfl ?_
  obtain ⟨d, rfl⟩ : ∃ q, d = q + 1 := ⟨d - 1, by omega⟩
  refine r_iload_n dX11_draw_0 rfl rfl ?_
  refine r_if_lt (tgt := 15) dX11_draw_1 rfl hz (fun c_1 => ?_) (fun c_1 => ?_)
  · refine r_bipush dX11_draw_15 (by decide +kernel) ?_
    refine r_iret dX11_draw_17 rfl ?_
    exact ⟨_, rfl, kb (by omega)⟩
  · refine r_iload_n dX11_draw_4 rfl rfl ?_
    refine r_aload_n dX11_draw_5 rfl rfl ?_
    refine r_getR dX11_draw_6 fl_X11_19 sh_0 rfl ?_
    refine r_getI dX11_draw_9 fl_X11_108 sh_2 rfl ?_
    refine r_icmp_le (tgt := 18) dX11_draw_12 rfl hz (by omega) (fun c_12 => ?_) (fun c_12 => ?_)
    · obtain ⟨n, rfl⟩ : ∃ n : Nat, z = n := ⟨z.toNat, by omega⟩
      refine r_aload_n dX11_draw_18 rfl rfl ?_
      refine r_getR dX11_draw_19 fl_X11_35 sh_0 rfl ?_
      refine r_iload_n dX11_draw_22 rfl rfl ?_
      refine r_callVI (av := [_]) (M' := mX3_read) dX11_draw_23 vX3_read ml_X11_147 sh_14 (by decide) rfl rfl rfl rfl (by simp [wtA]) (sp_X3_read (n := n) (by omega) ⟨c_12, hT.2⟩ hb (fun h0 x m s F i st rc ci s0 tk ox => ?_) (fun h0 x g2 m s st rc cb fp e => ?_))
      · refine r_istore_n (L' := [_, _, _]) dX11_draw_26 rfl rfl (by decide) rfl ?_
        refine r_aload_n dX11_draw_27 rfl rfl ?_
        refine r_getR dX11_draw_28 fl_X11_19 sh_0 rfl ?_
        refine r_iconst dX11_draw_31 ?_
        refine r_putI dX11_draw_32 fl_X11_108 sh_2 rfl ?_
        refine r_aload_n dX11_draw_35 rfl rfl ?_
        refine r_iconst dX11_draw_36 ?_
        refine r_putZ dX11_draw_37 fl_X11_101 sh_0 rfl (.inl rfl) ?_
        refine r_iload_n dX11_draw_40 rfl rfl ?_
        refine r_if_ne (tgt := 46) dX11_draw_41 rfl ⟨by decide, by decide⟩ (fun c_41 => ?_) (fun c_41 => absurd c_41 (by decide))
        have pn := rch_pn rc st.2.1 PV.st (NI.st st.2.2) ci s0
        have wn := pn.2.wn ox
        have fr := rd_fr st rc
        refine r_aload_n dX11_draw_46 rfl rfl ?_
        refine r_callVU (av := []) (M' := mX11_dropWhatHangsOnMoves) dX11_draw_47 vX11_dropWhatHangsOnMoves ml_X11_132 sh_0 (by decide) rfl rfl rfl rfl (by simp [wtA]) (sp_X11_dropWhatHangsOnMoves (by omega) (fun h_47 f0_47 f1_47 f2_47 f3_47 => ?_))
        have hc : ∀ a : Nat, a = 1 ∨ (4 ≤ a ∧ a ≤ 13) → h_47 a = x a := fun a ha => funext fun j => (f0_47 a j (by omega) (by omega) (by omega)).trans ((up_nc (by omega)).trans (up_nc (by omega)))
        have h1 : h_47 1 = h 1 := (hc 1 (by decide)).trans (funext fun j => fr 1 j (by decide))
        have hw2 : WOK h_47 := by
          unfold WOK
          rw [h1]
          exact hw
        refine r_aload_n dX11_draw_50 rfl rfl ?_
        refine r_aload_n dX11_draw_51 rfl rfl ?_
        refine r_getR dX11_draw_52 fl_X11_56 sh_0 rfl ?_
        refine r_callVI (av := []) (M' := mX5_plotAll) dX11_draw_55 vX5_plotAll ml_X11_151 sh_30 (by decide) rfl rfl rfl rfl (by simp [wtA]) (sp_X5_plotAll (F := F) (i := i) (by omega) hw2 (pn.1.cg (fun a ha => hc a (by omega))) (wn.cg (fun t _ _ => ⟨congrFun (hc 5 (by decide)) t, congrFun (hc 6 (by decide)) t⟩)) (by rw [hc 4 (by decide)]; exact ci.2.2.1.1) (fun xx cc pb fv ep oz => ?_))
        refine r_putZ dX11_draw_58 fl_X11_101 sh_0 rfl oz ?_
        refine r_gh (fun c2 ec => ?_)
        have xc : ∀ a : Nat, a = 1 ∨ (4 ≤ a ∧ a ≤ 13) → xx a = x a := fun a ha => (pb.c (by omega) (by omega)).trans (hc a ha)
        have x1 : xx 1 = h 1 := (pb.c (by decide) (by decide)).trans h1
        have v2 : PV xx F i := pn.1.cg (fun a ha => xc a (by omega))
        have wn2 : WN xx 5 0 i := wn.cg (fun t _ _ => ⟨congrFun (xc 5 (by decide)) t, congrFun (xc 6 (by decide)) t⟩)
        have cw : WH (xx 1 0) (xx 1 1) := by
          rw [x1]
          unfold WH
          clear k0 k1 kb pn wn v2 wn2
          omega
        have st0 : xx 17 0 = (h 1 0).tdiv 2 ∧ xx 18 0 = h 1 1 ∧ xx 19 0 = 0 ∧ psC xx = (0, 0, 0, (0, 1, h 1 0, h 1 1), (0, xx 17, xx 18, xx 19, 0)) := by
          have q := pb.2
          rw [h1] at q
          exact q
        have ok0 : PQ (h 1 0) (h 1 1) 0 (psC xx) (psC xx) := by
          have q := pq_0 (W := h 1 0) (H := h 1 1) (by clear k0 k1 kb pn wn v2 wn2; omega) st0.1 st0.2.1 st0.2.2.1
          rw [st0.2.2.2]
          exact q
        have okT := PQ.pf v2 (Nat.le_refl _) cw (PQ.rd v2 cw 5 0 i wn2 (Nat.le_refl _)) 61 0 0 _ _ (Nat.le_refl _) (by rw [x1]; exact ok0)
        rw [x1] at okT
        have cc1 : cc 1 = h 1 := (fv.c (by decide)).trans x1
        have c21 : c2 1 = h 1 := by rw [ec]; exact (upH_f (by decide)).trans cc1
        have hw3 : WOK c2 := by
          unfold WOK
          rw [c21]
          exact hw
        have gi := okT.2.2.2.1
        have t1 : c2 16 0 = (pfL xx (rpD xx 5) i 61 0 (psC xx)).2.2.2.2.1 := by rw [ec, ← ep, up_nc (by decide)]; rfl
        have t2 : c2 17 = (pfL xx (rpD xx 5) i 61 0 (psC xx)).2.2.2.2.2.1 := by rw [ec, ← ep, upH_f (by decide)]; rfl
        have t3 : c2 18 = (pfL xx (rpD xx 5) i 61 0 (psC xx)).2.2.2.2.2.2.1 := by rw [ec, ← ep, upH_f (by decide)]; rfl
        have t4 : c2 19 = (pfL xx (rpD xx 5) i 61 0 (psC xx)).2.2.2.2.2.2.2.1 := by rw [ec, ← ep, upH_f (by decide)]; rfl
        have t5 : c2 0 12 = flP (pfL xx (rpD xx 5) i 61 0 (psC xx)) := by rw [ec, ← ep, up_s]; rfl
        have g1 := gi.1
        have g2 := gi.2.1
        rw [← t1] at g1
        rw [← t1, ← t2, ← t3] at g2
        refine r_aload_n dX11_draw_61 rfl rfl ?_
        refine r_getR dX11_draw_62 fl_X11_44 sh_0 rfl ?_
        refine r_callVU (av := []) (M' := mX2_measure) dX11_draw_65 vX2_measure ml_X11_138 sh_16 (by decide) rfl rfl rfl rfl (by simp [wtA]) (sp_X2_measure_16 (n := c2 16 0) (by omega) hw3 ⟨rfl, g1.1, g1.2⟩ (fun p hp => by rw [c21]; exact ⟨(g2 p hp).1.1, (g2 p hp).1.2, Int.le_trans (by decide) (g2 p hp).2.1.1, (g2 p hp).2.1.2⟩) (fun g9 m1 m2 => ?_))
        refine r_aload_n dX11_draw_68 rfl rfl ?_
        refine r_getR dX11_draw_69 fl_X11_44 sh_0 rfl ?_
        refine r_getI dX11_draw_72 fl_X11_155 sh_16 rfl ?_
        refine r_iret dX11_draw_75 rfl ?_
        refine ⟨_, rfl, k1 n h0 x m s F i xx g9 _ rfl c_12 st rc ci s0 tk ox v2 wn2 xc x1 st0 rfl okT ?_⟩
        have k16 := m1 16 0 (by decide) (by decide)
        have k17 : g9 17 = c2 17 := funext fun j => m1 17 j (by decide) (by decide)
        have k18 : g9 18 = c2 18 := funext fun j => m1 18 j (by decide) (by decide)
        have k19 : g9 19 = c2 19 := funext fun j => m1 19 j (by decide) (by decide)
        rw [c21] at m2
        have cq : ∀ a k, ¬ (a = 0 ∧ k = 12) → ¬ (a = 16 ∧ k = 0) → ¬ (17 ≤ a ∧ a ≤ 21) → ¬ (a = 30 ∨ a = 31) → g9 a k = h_47 a k := fun a k z1 z2 z3 z4 => by
          rw [m1 a k (by omega) (by omega), ec]
          have e : upH cc 0 12 (cc 30 10) a k = cc a k := by
            unfold upH
            rw [if_neg z1]
          rw [e, fv a k z2 (by omega) (by omega) (by omega) (by omega) (by omega)]
          exact pb.1 a k z2 (by omega) (by omega)
        refine ⟨fun a k z1 z2 z3 z4 z5 z6 z7 z8 => ?_, ⟨?_, ?_, ?_, ?_⟩, ⟨?_, ?_, ?_, ?_⟩, fun p hp => ?_, fun p hp => ?_, ?_, ?_⟩
        · rw [cq a k z1 z4 (by omega) z6, f0_47 a k (by omega) z7 z8]
          have e : upH (upH x 2 0 0) 0 12 0 a k = x a k := by
            unfold upH
            rw [if_neg z1, if_neg (by omega)]
          rw [e]
          exact fr a k (by omega)
        · rw [cq 2 0 (by decide) (by decide) (by decide) (by decide), f0_47 2 0 (by decide) (by decide) (by decide)]
          rfl
        · rw [m1 0 12 (by decide) (by decide)]; exact t5
        · rw [cq 14 2 (by decide) (by decide) (by decide) (by decide), f0_47 14 2 (by decide) (by decide) (by decide)]
          rfl
        · rw [cq 14 3 (by decide) (by decide) (by decide) (by decide), f0_47 14 3 (by decide) (by decide) (by decide)]
          rfl
        · exact k16.trans t1
        · exact k17.trans t2
        · exact k18.trans t3
        · exact k19.trans t4
        · rw [k16] at hp
          rw [k17, k18]
          exact m2 p hp
        · rw [cq 22 p (by omega) (by omega) (by omega) (by omega)]
          exact f1_47 p hp
        · rw [cq 33 0 (by decide) (by decide) (by decide) (by decide)]
          exact f2_47
        · rw [cq 48 0 (by decide) (by decide) (by decide) (by decide)]
          exact f3_47
      · refine r_istore_n (L' := [_, _, _]) dX11_draw_26 rfl rfl (by decide) rfl ?_
        refine r_aload_n dX11_draw_27 rfl rfl ?_
        refine r_getR dX11_draw_28 fl_X11_19 sh_0 rfl ?_
        refine r_iconst dX11_draw_31 ?_
        refine r_putI dX11_draw_32 fl_X11_108 sh_2 rfl ?_
        refine r_aload_n dX11_draw_35 rfl rfl ?_
        refine r_iconst dX11_draw_36 ?_
        refine r_putZ dX11_draw_37 fl_X11_101 sh_0 rfl (.inl rfl) ?_
        refine r_iload_n dX11_draw_40 rfl rfl ?_
        refine r_if_ne (tgt := 46) dX11_draw_41 rfl ⟨by decide, by decide⟩ (fun c_41 => absurd c_41 (by decide)) (fun c_41 => ?_)
        refine r_iconst dX11_draw_44 ?_
        refine r_iret dX11_draw_45 rfl ?_
        exact ⟨_, rfl, k0 n h0 x g2 m s rfl c_12 st rc cb fp e⟩
    · refine r_bipush dX11_draw_15 (by decide +kernel) ?_
      refine r_iret dX11_draw_17 rfl ?_
      exact ⟨_, rfl, kb (by omega)⟩
