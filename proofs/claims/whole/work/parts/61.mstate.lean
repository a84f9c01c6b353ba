/-! STATEMENTS OF THE REFERENCE -/
abbrev FrA (a : Nat) (h g : Hp) : Prop := ∀ x k, ¬ (x = 49 ∧ (k = 10 ∨ k = 11 ∨ k = 14 ∨ k = 15 ∨ k = 16 ∨ k = 17)) → ¬ (x = 53 ∧ 5 * a ≤ k ∧ k < 5 * a + 5) → g x k = h x k
theorem FrA.of {a : Nat} {h g : Hp} (f : FrQ h g) : FrA a h g := fun x k z _ => f x k z
theorem FrA.tr {a : Nat} {h g k : Hp} (f : FrA a h g) (f2 : FrA a g k) : FrA a h k := fun x q z y => (f2 x q z y).trans (f x q z y)
theorem FrA.b {a : Nat} {h g : Hp} (f : FrA a h g) : g 3 = h 3 := funext fun j => f 3 j (by omega) (by omega)
theorem FrA.mx {a n : Nat} {h g : Hp} (f : FrA a h g) (t : MX h n) : MX g n := ⟨(f 49 13 (by decide) (by omega)).trans t.1, t.2.1, fun j hj => by rw [f.b, f 50 j (by omega) (by omega)]; exact t.2.2.1 j hj, fun j hj => by rw [f 51 j (by omega) (by omega)]; exact t.2.2.2 j hj⟩
def fiM (h : Hp) (n p F : Nat) : Int := fiN (h 56) (pkF (h 3) (tS (h 3) n p) (tE (h 3) n p)) 0 F
theorem pkF_r {b : Nat → Int} {s e : Nat} (h : LT b s e) : 0 ≤ pkF b s e ∧ pkF b s e < 1073741824 := by
  have key : ∀ j : Nat, 0 ≤ pkN b s e j ∧ pkN b s e j < 32 ^ j := by
    intro j
    induction j with
    | zero => rw [pkN]; decide
    | succ j ih =>
      have d := dgN_r h j
      have e1 : pkN b s e (j + 1) = pkN b s e j * 32 + dgN b s e j := rfl
      rw [e1, Int.pow_succ]
      omega
  exact key 6
theorem nm_LT {b : Nat → Int} {n p : Nat} (hp : p ≤ n) (h : nmP b n p) : LT b (tS b n p) (tE b n p) := ⟨(tE_r hp).1, h.2.1, fun i a c => kd_1 (((tRun hp (Or.inl h.1)).2.2.1 i a c).trans h.1)⟩
set_option maxRecDepth 20000 in
set_option maxHeartbeats 400000 in
theorem sp_X12_putRead {d : Nat} (hd : 6 ≤ d) {h : Hp} {n a F : Nat} {s : Sg} (hx : MX h n) (hp : MS h n s) (h0 : s.2.1 = 0) (ha : a < 60) (hF : h 49 24 = F ∧ F ≤ 8) (hn : ∀ k : Nat, k < F → R32 (h 56 k)) {P : Int → Hp → Prop} (k0 : ∀ h' : Hp, (FrA a h h') → (MS h' n (siS (h 3) n 59 (puS (h 3) n (fiM h n (tE (h 3) n s.1) F) (tE3 (h 3) n s)))) → ((siS (h 3) n 59 (puS (h 3) n (fiM h n (tE (h 3) n s.1) F) (tE3 (h 3) n s))).2.1 = 0) → (h' 53 (5 * a + 0) = fiM h n (tE (h 3) n s.1) F) → (h' 53 (5 * a + 1) = nuV (h 3) n 0 999 (fpS (h 3) n (fiM h n (tE (h 3) n s.1) F) (tE3 (h 3) n s))) → (h' 53 (5 * a + 2) = nuV (h 3) n 0 999 (nuS (h 3) n 0 999 (fpS (h 3) n (fiM h n (tE (h 3) n s.1) F) (tE3 (h 3) n s)))) → (h' 53 (5 * a + 3) = nuV (h 3) n 0 99 (nuS (h 3) n 0 999 (nuS (h 3) n 0 999 (fpS (h 3) n (fiM h n (tE (h 3) n s.1) F) (tE3 (h 3) n s))))) → P (1) h') (k1 : ∀ h' : Hp, (FrA a h h') → (MS h' n (siS (h 3) n 59 (puS (h 3) n (fiM h n (tE (h 3) n s.1) F) (tE3 (h 3) n s)))) → (¬ (siS (h 3) n 59 (puS (h 3) n (fiM h n (tE (h 3) n s.1) F) (tE3 (h 3) n s))).2.1 = 0) → P (0) h') : Cl d mX12_putRead [.inr (.inr 49), .inl (a : Int)] h (pI P) := by
  refine Cl.of (L := [some (.inr (.inr 49)), some (.inl (a : Int)), none]) (by decide +kernel) (Nat.le_of_ble_eq_true rfl) rfl ?_
  obtain ⟨d, rfl⟩ : ∃ q, d = q + 1 := ⟨d - 1, by omega⟩
  refine r_aload_n dX12_putRead_0 rfl rfl ?_
  refine r_callVU (av := []) (M' := mX12_take) dX12_putRead_1 vX12_take ml_X12_253 sh_49 (by decide) rfl rfl rfl rfl (by simp [wtA]) (sp_X12_take (n := n) (p := tE (h 3) n s.1) (by omega) ⟨hx.1, hx.2.1⟩ ⟨hp.1.2.1, (tE_r hp.2.2.2.1).2.1⟩ hx.2.2.1 hx.2.2.2 (fun h_1 f0_1 f1_1 => ?_))
  have st := hp.step f0_1 f1_1
  have p1 := st.1
  have z1 : (tE3 (h 3) n s).2.1 = 0 := h0
  have F1 : FrA a h h_1 := FrA.of st.2
  have b1 := st.2.b
  have mk := p1.1.2.2.1
  have sr := p1.2.2.2
  rw [b1] at mk
  have sr1 : tE (h 3) n s.1 ≤ n := sr.1
  have mi := mK_i (b := h 3) (n := n) (p := tE (h 3) n s.1) sr1
  have mi5 : mK (h 3) n (tE (h 3) n s.1) = 2 ↔ nmP (h 3) n (tE (h 3) n s.1) := mi.2.2.2.2.1
  have mk2 : h_1 49 15 = mK (h 3) n (tE (h 3) n s.1) := mk
  have mr : 0 ≤ h_1 49 15 ∧ h_1 49 15 ≤ 5 := by rw [mk2]; exact mi.2.2.2.2.2
  refine r_aload_n dX12_putRead_4 rfl rfl ?_
  refine r_getI dX12_putRead_5 fl_X12_225 sh_49 rfl ?_
  refine r_iconst dX12_putRead_8 ?_
  refine r_icmp_eq (tgt := 18) dX12_putRead_9 rfl (by omega) ⟨by decide, by decide⟩ (fun c_9 => ?_) (fun c_9 => ?_)
  · have nm : nmP (h 3) n (tE (h 3) n s.1) := mi5.mp (by rw [← mk2]; exact c_9)
    have lt := nm_LT sr1 nm
    have wq : h_1 49 16 = pkF (h 3) (tS (h 3) n (tE (h 3) n s.1)) (tE (h 3) n (tE (h 3) n s.1)) := by
      have := p1.1.2.2.2
      rw [b1] at this
      rw [this (by rw [show (tE3 (h 3) n s).1 = tE (h 3) n s.1 from rfl, nm.1]; decide)]
      exact mW_n nm
    have pq := pkF_r lt
    have fr := fiN_r (g := h 56) (z := pkF (h 3) (tS (h 3) n (tE (h 3) n s.1)) (tE (h 3) n (tE (h 3) n s.1))) (n := F) (j := 0)
    have fm : fiN (h_1 56) (h_1 49 16) 0 F = fiM h n (tE (h 3) n s.1) F := by
      unfold fiM
      rw [wq, show h_1 56 = h 56 from funext fun j => st.2 56 j (by omega)]
    refine r_aload_n dX12_putRead_18 rfl rfl ?_
    refine r_aload_n dX12_putRead_19 rfl rfl ?_
    refine r_getI dX12_putRead_20 fl_X12_235 sh_49 rfl ?_
    refine r_callVI (av := [_]) (M' := mX12_formOf) dX12_putRead_23 vX12_formOf ml_X12_263 sh_49 (by decide) rfl rfl rfl rfl (by simp [wtA]) (sp_X12_formOf (by omega) (F := F) ⟨(st.2 49 24 (by decide)).trans hF.1, hF.2⟩ (by omega) (fun k hk => by rw [st.2 56 k (by omega)]; exact hn k hk) ?_)
    refine r_eqI fm ?_
    have fr2 : -1 ≤ fiM h n (tE (h 3) n s.1) F ∧ fiM h n (tE (h 3) n s.1) F < F := ⟨fr.1, by have := fr.2; rw [Nat.zero_add] at this; exact this⟩
    refine r_istore_n (L' := [_, _, _]) dX12_putRead_26 rfl rfl (by decide) rfl ?_
    refine r_iload_n dX12_putRead_27 rfl rfl ?_
    refine r_if_ge (tgt := 37) dX12_putRead_28 rfl (by omega) (fun c_28 => ?_) (fun c_28 => ?_)
    · refine r_aload_n dX12_putRead_37 rfl rfl ?_
      refine r_getR dX12_putRead_38 fl_X12_38 sh_49 rfl ?_
      refine r_iconst dX12_putRead_41 ?_
      refine r_iload_n dX12_putRead_42 rfl rfl ?_
      refine r_imul dX12_putRead_43 ?_
      refine r_iload_n dX12_putRead_44 rfl rfl ?_
      refine r_iast dX12_putRead_45 sh_53 (by decide) (by omega) ?_
      rw [show (5 * (a : Int)).toNat = 5 * a by omega]
      refine r_gh (fun g eg => ?_)
      have gp : MS g n (tE3 (h 3) n s) := by rw [eg]; exact p1.up (by decide) (by omega)
      have gx : MX g n := by rw [eg]; exact (st.2.mx hx).up (by decide) (by decide) (by decide) (by omega)
      have g3 : g 3 = h 3 := by rw [eg]; exact b1
      have gF : FrA a h g := fun x k y1 y2 => by
        rw [eg]
        unfold upH
        rw [if_neg (by omega)]
        exact st.2 x k y1
      have g0 : g 53 (5 * a + 0) = fiM h n (tE (h 3) n s.1) F := by rw [eg]; exact up_s _ _ _ _
      refine r_aload_n dX12_putRead_46 rfl rfl ?_
      refine r_callVU (av := []) (M' := mX12_take) dX12_putRead_47 vX12_take ml_X12_253 sh_49 (by decide) rfl rfl rfl rfl (by simp [wtA]) (sp_X12_take (n := n) (p := tE (g 3) n (tE3 (h 3) n s).1) (by omega) ⟨gx.1, gx.2.1⟩ ⟨gp.1.2.1, (tE_r gp.2.2.2.1).2.1⟩ gx.2.2.1 gx.2.2.2 (fun h_47 f0_47 f1_47 => ?_))
      have st2 := gp.step f0_47 f1_47
      have F47 : FrA a h h_47 := gF.tr (FrA.of st2.2)
      have e47 : fpS (h 3) n (fiM h n (tE (h 3) n s.1) F) (tE3 (h 3) n s) = tE3 (g 3) n (tE3 (h 3) n s) := by
        rw [g3]
        unfold fpS
        rw [if_pos z1, if_pos (show nmP (h 3) n (tE3 (h 3) n s).1 from nm), if_pos c_28]
        unfold tE3
        rw [h0]
      have p47 : MS h_47 n (fpS (h 3) n (fiM h n (tE (h 3) n s.1) F) (tE3 (h 3) n s)) := by rw [e47]; exact st2.1
      have z47 : (fpS (h 3) n (fiM h n (tE (h 3) n s.1) F) (tE3 (h 3) n s)).2.1 = 0 := by rw [e47]; exact h0
      have v47_0 : h_47 53 (5 * a + 0) = fiM h n (tE (h 3) n s.1) F := by rw [st2.2 53 _ (by omega)]; exact g0
      refine r_aload_n dX12_putRead_50 rfl rfl ?_
      refine r_iload_n dX12_putRead_51 rfl rfl ?_
      refine r_iconst dX12_putRead_52 ?_
      refine r_iconst dX12_putRead_53 ?_
      refine r_sipush dX12_putRead_54 (by decide +kernel) ?_
      refine r_callVI (av := [_, _, _, _]) (M' := mX12_told) dX12_putRead_57 vX12_told ml_X12_259 sh_49 (by decide) rfl rfl rfl rfl (by simp [wtA]) (sp_X12_told (n := n) (a := a) (q := 1) (s := fpS (h 3) n (fiM h n (tE (h 3) n s.1) F) (tE3 (h 3) n s)) (by omega) (F47.mx hx) p47 z47 ha (by decide) (by decide) (by decide) (fun h_57 f0_57 f1_57 f2_57 f3_57 => ?_) (fun h_57 f0_57 f1_57 f2_57 => ?_))
      · refine r_if_eq (tgt := 99) dX12_putRead_60 rfl ⟨by decide, by decide⟩ (fun c_60 => absurd c_60 (by decide)) (fun c_60 => ?_)
        rw [F47.b] at f1_57 f2_57 f3_57
        have F_57 : FrA a h h_57 := fun x k z1 z2 => (f0_57 x k z1 (by omega)).trans (F47 x k z1 z2)
        have v57_0 : h_57 53 (5 * a + 0) = fiM h n (tE (h 3) n s.1) F := by rw [f0_57 53 _ (by omega) (by omega)]; exact v47_0
        have v57_1 : h_57 53 (5 * a + 1) = nuV (h 3) n 0 999 (fpS (h 3) n (fiM h n (tE (h 3) n s.1) F) (tE3 (h 3) n s)) := f2_57
        refine r_aload_n dX12_putRead_63 rfl rfl ?_
        refine r_iload_n dX12_putRead_64 rfl rfl ?_
        refine r_iconst dX12_putRead_65 ?_
        refine r_iconst dX12_putRead_66 ?_
        refine r_sipush dX12_putRead_67 (by decide +kernel) ?_
        refine r_callVI (av := [_, _, _, _]) (M' := mX12_told) dX12_putRead_70 vX12_told ml_X12_259 sh_49 (by decide) rfl rfl rfl rfl (by simp [wtA]) (sp_X12_told (n := n) (a := a) (q := 2) (s := nuS (h 3) n 0 999 (fpS (h 3) n (fiM h n (tE (h 3) n s.1) F) (tE3 (h 3) n s))) (by omega) (F_57.mx hx) f1_57 f3_57 ha (by decide) (by decide) (by decide) (fun h_70 f0_70 f1_70 f2_70 f3_70 => ?_) (fun h_70 f0_70 f1_70 f2_70 => ?_))
        · refine r_if_eq (tgt := 99) dX12_putRead_73 rfl ⟨by decide, by decide⟩ (fun c_73 => absurd c_73 (by decide)) (fun c_73 => ?_)
          rw [F_57.b] at f1_70 f2_70 f3_70
          have F_70 : FrA a h h_70 := fun x k z1 z2 => (f0_70 x k z1 (by omega)).trans (F_57 x k z1 z2)
          have v70_0 : h_70 53 (5 * a + 0) = fiM h n (tE (h 3) n s.1) F := by rw [f0_70 53 _ (by omega) (by omega)]; exact v57_0
          have v70_1 : h_70 53 (5 * a + 1) = nuV (h 3) n 0 999 (fpS (h 3) n (fiM h n (tE (h 3) n s.1) F) (tE3 (h 3) n s)) := by rw [f0_70 53 _ (by omega) (by omega)]; exact v57_1
          have v70_2 : h_70 53 (5 * a + 2) = nuV (h 3) n 0 999 (nuS (h 3) n 0 999 (fpS (h 3) n (fiM h n (tE (h 3) n s.1) F) (tE3 (h 3) n s))) := f2_70
          refine r_aload_n dX12_putRead_76 rfl rfl ?_
          refine r_iload_n dX12_putRead_77 rfl rfl ?_
          refine r_iconst dX12_putRead_78 ?_
          refine r_iconst dX12_putRead_79 ?_
          refine r_bipush dX12_putRead_80 (by decide +kernel) ?_
          refine r_callVI (av := [_, _, _, _]) (M' := mX12_told) dX12_putRead_82 vX12_told ml_X12_259 sh_49 (by decide) rfl rfl rfl rfl (by simp [wtA]) (sp_X12_told (n := n) (a := a) (q := 3) (s := nuS (h 3) n 0 999 (nuS (h 3) n 0 999 (fpS (h 3) n (fiM h n (tE (h 3) n s.1) F) (tE3 (h 3) n s)))) (by omega) (F_70.mx hx) f1_70 f3_70 ha (by decide) (by decide) (by decide) (fun h_82 f0_82 f1_82 f2_82 f3_82 => ?_) (fun h_82 f0_82 f1_82 f2_82 => ?_))
          · refine r_if_eq (tgt := 99) dX12_putRead_85 rfl ⟨by decide, by decide⟩ (fun c_85 => absurd c_85 (by decide)) (fun c_85 => ?_)
            rw [F_70.b] at f1_82 f2_82 f3_82
            have F_82 : FrA a h h_82 := fun x k z1 z2 => (f0_82 x k z1 (by omega)).trans (F_70 x k z1 z2)
            have v82_0 : h_82 53 (5 * a + 0) = fiM h n (tE (h 3) n s.1) F := by rw [f0_82 53 _ (by omega) (by omega)]; exact v70_0
            have v82_1 : h_82 53 (5 * a + 1) = nuV (h 3) n 0 999 (fpS (h 3) n (fiM h n (tE (h 3) n s.1) F) (tE3 (h 3) n s)) := by rw [f0_82 53 _ (by omega) (by omega)]; exact v70_1
            have v82_2 : h_82 53 (5 * a + 2) = nuV (h 3) n 0 999 (nuS (h 3) n 0 999 (fpS (h 3) n (fiM h n (tE (h 3) n s.1) F) (tE3 (h 3) n s))) := by rw [f0_82 53 _ (by omega) (by omega)]; exact v70_2
            have v82_3 : h_82 53 (5 * a + 3) = nuV (h 3) n 0 99 (nuS (h 3) n 0 999 (nuS (h 3) n 0 999 (fpS (h 3) n (fiM h n (tE (h 3) n s.1) F) (tE3 (h 3) n s)))) := f2_82
            refine r_aload_n dX12_putRead_88 rfl rfl ?_
            refine r_callVI (av := []) (M' := mX12_ended) dX12_putRead_89 vX12_ended ml_X12_266 sh_49 (by decide) rfl rfl rfl rfl (by simp [wtA]) (sp_X12_ended (n := n) (s := nuS (h 3) n 0 99 (nuS (h 3) n 0 999 (nuS (h 3) n 0 999 (fpS (h 3) n (fiM h n (tE (h 3) n s.1) F) (tE3 (h 3) n s))))) (by omega) (F_82.mx hx) f1_82 f3_82 (fun h_89 f0_89 f1_89 f2_89 => ?_) (fun h_89 f0_89 f1_89 f2_89 => ?_))
            · refine r_if_eq (tgt := 99) dX12_putRead_92 rfl ⟨by decide, by decide⟩ (fun c_92 => absurd c_92 (by decide)) (fun c_92 => ?_)
              rw [F_82.b] at f1_89 f2_89
              have F_89 : FrA a h h_89 := FrA.tr (F_82) (FrA.of f0_89)
              have v89_0 : h_89 53 (5 * a + 0) = fiM h n (tE (h 3) n s.1) F := by rw [f0_89 53 _ (by omega)]; exact v82_0
              have v89_1 : h_89 53 (5 * a + 1) = nuV (h 3) n 0 999 (fpS (h 3) n (fiM h n (tE (h 3) n s.1) F) (tE3 (h 3) n s)) := by rw [f0_89 53 _ (by omega)]; exact v82_1
              have v89_2 : h_89 53 (5 * a + 2) = nuV (h 3) n 0 999 (nuS (h 3) n 0 999 (fpS (h 3) n (fiM h n (tE (h 3) n s.1) F) (tE3 (h 3) n s))) := by rw [f0_89 53 _ (by omega)]; exact v82_2
              have v89_3 : h_89 53 (5 * a + 3) = nuV (h 3) n 0 99 (nuS (h 3) n 0 999 (nuS (h 3) n 0 999 (fpS (h 3) n (fiM h n (tE (h 3) n s.1) F) (tE3 (h 3) n s)))) := by rw [f0_89 53 _ (by omega)]; exact v82_3
              refine r_iconst dX12_putRead_95 ?_
              refine r_goto (tgt := 100) dX12_putRead_96 rfl ?_
              refine r_zret dX12_putRead_100 rfl (.inr rfl) ?_
              exact ⟨_, rfl, k0 _ F_89 f1_89 f2_89 v89_0 v89_1 v89_2 v89_3⟩
            · refine r_if_eq (tgt := 99) dX12_putRead_92 rfl ⟨by decide, by decide⟩ (fun c_92 => ?_) (fun c_92 => absurd c_92 (by decide))
              refine r_iconst dX12_putRead_99 ?_
              refine r_zret dX12_putRead_100 rfl (.inl rfl) ?_
              rw [F_82.b] at f1_89 f2_89
              have e : siS (h 3) n 59 (puS (h 3) n (fiM h n (tE (h 3) n s.1) F) (tE3 (h 3) n s)) = siS (h 3) n 59 (nuS (h 3) n 0 99 (nuS (h 3) n 0 999 (nuS (h 3) n 0 999 (fpS (h 3) n (fiM h n (tE (h 3) n s.1) F) (tE3 (h 3) n s))))) := by
                show siS (h 3) n 59 (nuS (h 3) n 0 99 (nuS (h 3) n 0 999 (nuS (h 3) n 0 999 (fpS (h 3) n (fiM h n (tE (h 3) n s.1) F) (tE3 (h 3) n s))))) = _
                rfl
              exact ⟨_, rfl, k1 _ (FrA.tr (F_82) (FrA.of f0_89)) (by rw [e]; exact f1_89) (by rw [e]; exact f2_89)⟩
          · refine r_if_eq (tgt := 99) dX12_putRead_85 rfl ⟨by decide, by decide⟩ (fun c_85 => ?_) (fun c_85 => absurd c_85 (by decide))
            refine r_iconst dX12_putRead_99 ?_
            refine r_zret dX12_putRead_100 rfl (.inl rfl) ?_
            rw [F_70.b] at f1_82 f2_82
            have e : siS (h 3) n 59 (puS (h 3) n (fiM h n (tE (h 3) n s.1) F) (tE3 (h 3) n s)) = nuS (h 3) n 0 99 (nuS (h 3) n 0 999 (nuS (h 3) n 0 999 (fpS (h 3) n (fiM h n (tE (h 3) n s.1) F) (tE3 (h 3) n s)))) := by
              show siS (h 3) n 59 (nuS (h 3) n 0 99 (nuS (h 3) n 0 999 (nuS (h 3) n 0 999 (fpS (h 3) n (fiM h n (tE (h 3) n s.1) F) (tE3 (h 3) n s))))) = _
              rw [siS_f f2_82]
            exact ⟨_, rfl, k1 _ (FrA.tr (F_70) (FrA.of f0_82)) (by rw [e]; exact f1_82) (by rw [e]; exact f2_82)⟩
        · refine r_if_eq (tgt := 99) dX12_putRead_73 rfl ⟨by decide, by decide⟩ (fun c_73 => ?_) (fun c_73 => absurd c_73 (by decide))
          refine r_iconst dX12_putRead_99 ?_
          refine r_zret dX12_putRead_100 rfl (.inl rfl) ?_
          rw [F_57.b] at f1_70 f2_70
          have e : siS (h 3) n 59 (puS (h 3) n (fiM h n (tE (h 3) n s.1) F) (tE3 (h 3) n s)) = nuS (h 3) n 0 999 (nuS (h 3) n 0 999 (fpS (h 3) n (fiM h n (tE (h 3) n s.1) F) (tE3 (h 3) n s))) := by
            show siS (h 3) n 59 (nuS (h 3) n 0 99 (nuS (h 3) n 0 999 (nuS (h 3) n 0 999 (fpS (h 3) n (fiM h n (tE (h 3) n s.1) F) (tE3 (h 3) n s))))) = _
            rw [nuS_f f2_70, siS_f f2_70]
          exact ⟨_, rfl, k1 _ (FrA.tr (F_57) (FrA.of f0_70)) (by rw [e]; exact f1_70) (by rw [e]; exact f2_70)⟩
      · refine r_if_eq (tgt := 99) dX12_putRead_60 rfl ⟨by decide, by decide⟩ (fun c_60 => ?_) (fun c_60 => absurd c_60 (by decide))
        refine r_iconst dX12_putRead_99 ?_
        refine r_zret dX12_putRead_100 rfl (.inl rfl) ?_
        rw [F47.b] at f1_57 f2_57
        have e : siS (h 3) n 59 (puS (h 3) n (fiM h n (tE (h 3) n s.1) F) (tE3 (h 3) n s)) = nuS (h 3) n 0 999 (fpS (h 3) n (fiM h n (tE (h 3) n s.1) F) (tE3 (h 3) n s)) := by
          show siS (h 3) n 59 (nuS (h 3) n 0 99 (nuS (h 3) n 0 999 (nuS (h 3) n 0 999 (fpS (h 3) n (fiM h n (tE (h 3) n s.1) F) (tE3 (h 3) n s))))) = _
          rw [nuS_f f2_57, nuS_f f2_57, siS_f f2_57]
        exact ⟨_, rfl, k1 _ (FrA.tr (F47) (FrA.of f0_57)) (by rw [e]; exact f1_57) (by rw [e]; exact f2_57)⟩
    · refine r_aload_n dX12_putRead_31 rfl rfl ?_
      refine r_iconst dX12_putRead_32 ?_
      refine r_callVI (av := [_]) (M' := mX12_wrong) dX12_putRead_33 vX12_wrong ml_X12_247 sh_49 (by decide) rfl rfl rfl rfl (by simp [wtA]) (sp_X12_wrong (by omega) (st.2.mx hx) p1 z1 (by omega) (fun h_33 f0_33 f1_33 => ?_))
      refine r_zret dX12_putRead_36 rfl (.inl rfl) ?_
      have e0 : fpS (h 3) n (fiM h n (tE (h 3) n s.1) F) (tE3 (h 3) n s) = flS (h 3) n 4 (tE3 (h 3) n s) := by
        unfold fpS flS
        rw [if_pos z1, if_pos z1, if_pos (show nmP (h 3) n (tE3 (h 3) n s).1 from nm), if_neg c_28]
      have ne : ¬ (fpS (h 3) n (fiM h n (tE (h 3) n s.1) F) (tE3 (h 3) n s)).2.1 = 0 := by rw [e0]; exact flS_n (by decide)
      have e : siS (h 3) n 59 (puS (h 3) n (fiM h n (tE (h 3) n s.1) F) (tE3 (h 3) n s)) = fpS (h 3) n (fiM h n (tE (h 3) n s.1) F) (tE3 (h 3) n s) := by
        show siS _ _ _ (nuS _ _ _ _ (nuS _ _ _ _ (nuS _ _ _ _ (fpS (h 3) n (fiM h n (tE (h 3) n s.1) F) (tE3 (h 3) n s))))) = _
        rw [nuS_f ne, nuS_f ne, nuS_f ne, siS_f ne]
      rw [b1, ← e0] at f1_33
      exact ⟨_, rfl, k1 _ (F1.tr (FrA.of f0_33)) (by rw [e]; exact f1_33) (by rw [e]; exact ne)⟩
  · refine r_aload_n dX12_putRead_12 rfl rfl ?_
    refine r_iconst dX12_putRead_13 ?_
    refine r_callVI (av := [_]) (M' := mX12_wrong) dX12_putRead_14 vX12_wrong ml_X12_247 sh_49 (by decide) rfl rfl rfl rfl (by simp [wtA]) (sp_X12_wrong (by omega) (st.2.mx hx) p1 z1 (by omega) (fun h_14 f0_14 f1_14 => ?_))
    refine r_zret dX12_putRead_17 rfl (.inl rfl) ?_
    have c0 : ¬ nmP (h 3) n (tE (h 3) n s.1) := fun z => c_9 (by rw [mk2]; exact mi5.mpr z)
    have e0 : fpS (h 3) n (fiM h n (tE (h 3) n s.1) F) (tE3 (h 3) n s) = flS (h 3) n 1 (tE3 (h 3) n s) := by
      unfold fpS flS
      rw [if_pos z1, if_pos z1, if_neg (show ¬ nmP (h 3) n (tE3 (h 3) n s).1 from c0)]
    have ne : ¬ (fpS (h 3) n (fiM h n (tE (h 3) n s.1) F) (tE3 (h 3) n s)).2.1 = 0 := by rw [e0]; exact flS_n (by decide)
    have e : siS (h 3) n 59 (puS (h 3) n (fiM h n (tE (h 3) n s.1) F) (tE3 (h 3) n s)) = fpS (h 3) n (fiM h n (tE (h 3) n s.1) F) (tE3 (h 3) n s) := by
      show siS _ _ _ (nuS _ _ _ _ (nuS _ _ _ _ (nuS _ _ _ _ (fpS (h 3) n (fiM h n (tE (h 3) n s.1) F) (tE3 (h 3) n s))))) = _
      rw [nuS_f ne, nuS_f ne, nuS_f ne, siS_f ne]
    rw [b1, ← e0] at f1_14
    exact ⟨_, rfl, k1 _ (F1.tr (FrA.of f0_14)) (by rw [e]; exact f1_14) (by rw [e]; exact ne)⟩
