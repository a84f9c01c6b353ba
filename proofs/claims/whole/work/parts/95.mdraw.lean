/-! DRAW, THE REFERENCE -/
theorem SR.dm {x xx u : Hp} {n F i : Nat} (r : SR x u n F i) (h0 : x 14 4 = 0) (hc : ∀ a : Nat, a = 1 ∨ (4 ≤ a ∧ a ≤ 13) → xx a = x a) (h3 : u 49 3 = xx 1 0 ∧ u 49 4 = xx 1 1) : DM xx u F i := by
  obtain ⟨-, -, ⟨r18, -, -⟩, ra, -, rf⟩ := r
  unfold DM SRn
  rw [hc 5 (by decide), hc 6 (by decide), hc 7 (by decide), hc 8 (by decide), hc 11 (by decide), hc 12 (by decide), hc 13 (by decide)]
  refine ⟨r18, h3, fun k hk => ?_, fun k hk => (rf k hk).2⟩
  obtain ⟨a1, a2, a3⟩ := ra k hk
  refine ⟨a1, a2, fun h6 => ?_⟩
  rcases a3 h6 with ⟨q, q1, q2⟩ | y
  · rw [h0] at q1
    omega
  · exact y
/-- the reference behind a drawing -/
def Rs (h x w : Hp) (T : Ps) : Prop :=
  (∀ a k, ¬ (a = 49 ∧ (k = 1 ∨ k = 2 ∨ (10 ≤ k ∧ k ≤ 18) ∨ k = 22 ∨ k = 24 ∨ k = 29 ∨ k = 34 ∨ k = 35 ∨ k = 48 ∨ k = 62)) → ¬ (52 ≤ a ∧ a ≤ 69) → w a k = h a k) ∧
  (w 49 1 = 0 ∧ w 49 10 = x 14 2 ∧ w 49 11 = x 14 3 ∧ w 49 12 = flP T) ∧ (w 49 29 = T.2.2.2.2.1 ∧ w 60 = T.2.2.2.2.2.1 ∧ w 61 = T.2.2.2.2.2.2.1 ∧ w 62 = T.2.2.2.2.2.2.2.1) ∧ (∀ p : Nat, p < 300 → w 69 p = 0) ∧ w 49 48 = 0 ∧ w 49 62 = 0
abbrev FrZ (h u : Hp) : Prop := (∀ a k, ¬ (a = 49 ∧ (k = 1 ∨ k = 2 ∨ (10 ≤ k ∧ k ≤ 18) ∨ k = 22 ∨ k = 24)) → ¬ (52 ≤ a ∧ a ≤ 59) → u a k = h a k) ∧ u 49 1 = 0 ∧ u 49 12 = 0
theorem FrZ.D {h g u : Hp} (z : FrZ h g) (f : FrD g u) : FrZ h u := ⟨fun a k z1 z2 => (f a k (by omega) z2).trans (z.1 a k z1 z2), (f 49 1 (by decide) (by decide)).trans z.2.1, (f 49 12 (by decide) (by decide)).trans z.2.2⟩
/-- where the reference's plotting begins -/
def Sb (h g : Hp) : Prop := g 60 0 = (h 49 3).tdiv 2 ∧ g 61 0 = h 49 4 ∧ g 62 0 = 0 ∧ psM 0 g = (0, 0, 0, (0, 1, h 49 3, h 49 4), (0, g 60, g 61, g 62, 0)) ∧ ∀ k : Nat, 151 ≤ k → g 60 k = h 60 k ∧ g 61 k = h 61 k ∧ g 62 k = h 62 k
set_option maxRecDepth 20000 in
set_option maxHeartbeats 400000 in
theorem sp_mdraw {d : Nat} (hd : 20 ≤ d) {h : Hp} {n m : Nat} {h0 x xx : Hp} (hw : MOK h) (hT : (n : Int) ≤ h 49 1 ∧ h 49 1 ≤ 500) (ht : MT h) (hW : MWd h) (ci : CI h0 n (0, 0, -1) 0 0) (o0 : h0 14 4 = 0) (rc : Rch n m h0 x) (he : ¬ x 14 2 = 0 ∨ x 2 1 = 0) (e3 : h 3 = h0 3) (hX : ∀ (s : Sg) (F i : Nat), CI x n s F i → x 14 2 = 0 → x 14 4 = 0 → PV xx F i ∧ WN xx 5 0 i ∧ (∀ a : Nat, a = 1 ∨ (4 ≤ a ∧ a ≤ 13) → xx a = x a) ∧ h 49 3 = xx 1 0 ∧ h 49 4 = xx 1 1) {P : Int → Hp → Prop} (k0 : ∀ u : Hp, FrZ h u → ((¬ x 14 2 = 0 ∧ u 49 10 = x 14 2 ∧ u 49 11 = x 14 3) ∨ (x 14 2 = 0 ∧ x 2 1 = 0 ∧ 0 < x 14 4 ∧ u 49 10 = 1 ∧ u 49 11 = x 2 2)) → P (-1) u) (k1 : ∀ (F i : Nat) (g w : Hp) (T : Ps), x 14 2 = 0 → x 14 4 = 0 → x 4 0 = i → PV xx F i → WN xx 5 0 i → T = pfL xx (rpD xx 5) i 61 0 (psM 0 g) → Sb h g → Rs h x w T → P (w 49 29) w) : Cl d mX12_draw [.inr (.inr 49), .inl (n : Int)] h (pI P) := by
  refine Cl.of (L := [some (.inr (.inr 49)), some (.inl (n : Int))]) (by decide +kernel) (Nat.le_of_ble_eq_true rfl) rfl ?_
  obtain ⟨d, rfl⟩ : ∃ q, d = q + 1 := ⟨d - 1, by omega⟩
  refine r_aload_n dX12_draw_0 rfl rfl ?_
  refine r_iconst dX12_draw_1 ?_
  refine r_putI dX12_draw_2 fl_X12_127 sh_49 rfl ?_
  refine r_iload_n dX12_draw_5 rfl rfl ?_
  refine r_if_lt (tgt := 17) dX12_draw_6 rfl (by omega) (fun c_6 => absurd c_6 (by omega)) (fun c_6 => ?_)
  refine r_iload_n dX12_draw_9 rfl rfl ?_
  refine r_aload_n dX12_draw_10 rfl rfl ?_
  refine r_getI dX12_draw_11 fl_X12_130 sh_49 rfl ?_
  refine r_eqI (up_nk (by decide)) ?_
  refine r_icmp_le (tgt := 20) dX12_draw_14 rfl (by omega) (by omega) (fun c_14 => ?_) (fun c_14 => absurd (show (n : Int) ≤ h 49 1 from hT.1) c_14)
  refine r_aload_n dX12_draw_20 rfl rfl ?_
  refine r_iload_n dX12_draw_21 rfl rfl ?_
  refine r_putI dX12_draw_22 fl_X12_219 sh_49 rfl ?_
  refine r_aload_n dX12_draw_25 rfl rfl ?_
  refine r_iconst dX12_draw_26 ?_
  refine r_putI dX12_draw_27 fl_X12_130 sh_49 rfl ?_
  refine r_aload_n dX12_draw_30 rfl rfl ?_
  refine r_iconst dX12_draw_31 ?_
  refine r_putI dX12_draw_32 fl_X12_213 sh_49 rfl ?_
  refine r_aload_n dX12_draw_35 rfl rfl ?_
  refine r_iconst dX12_draw_36 ?_
  refine r_putI dX12_draw_37 fl_X12_32 sh_49 rfl ?_
  refine r_aload_n dX12_draw_40 rfl rfl ?_
  refine r_iconst dX12_draw_41 ?_
  refine r_putZ dX12_draw_42 fl_X12_291 sh_49 rfl (.inl rfl) ?_
  refine r_aload_n dX12_draw_45 rfl rfl ?_
  refine r_iconst dX12_draw_46 ?_
  refine r_putI dX12_draw_47 fl_X12_276 sh_49 rfl ?_
  refine r_aload_n dX12_draw_50 rfl rfl ?_
  refine r_iconst dX12_draw_51 ?_
  refine r_putI dX12_draw_52 fl_X12_273 sh_49 rfl ?_
  refine r_aload_n dX12_draw_55 rfl rfl ?_
  refine r_iconst dX12_draw_56 ?_
  refine r_putI dX12_draw_57 fl_X12_244 sh_49 rfl ?_
  refine r_aload_n dX12_draw_60 rfl rfl ?_
  refine r_iconst dX12_draw_61 ?_
  refine r_putI dX12_draw_62 fl_X12_222 sh_49 rfl ?_
  refine r_gh (fun w ew => ?_)
  have wz : (∀ a k, ¬ (a = 49 ∧ (k = 1 ∨ k = 2 ∨ (10 ≤ k ∧ k ≤ 18) ∨ k = 22 ∨ k = 24)) → w a k = h a k) ∧ (w 49 13 = n ∧ w 49 1 = 0 ∧ w 49 10 = 0 ∧ w 49 11 = -1 ∧ w 49 12 = 0 ∧ w 49 18 = 0 ∧ w 49 22 = 0 ∧ w 49 24 = 0 ∧ w 49 14 = 0) := by
    rw [ew]
    refine ⟨fun a k z => ?_, rfl, rfl, rfl, rfl, rfl, rfl, rfl, rfl, rfl⟩
    unfold upH
    rw [if_neg (by omega), if_neg (by omega), if_neg (by omega), if_neg (by omega), if_neg (by omega), if_neg (by omega), if_neg (by omega), if_neg (by omega), if_neg (by omega), if_neg (by omega)]
  clear ew
  have w3 : w 3 = h 3 := funext fun j => wz.1 3 j (by omega)
  have wt : MT w := fun j hj => by rw [w3, wz.1 50 j (by omega)]; exact ht j hj
  have wW : MWd w := fun j hj => by rw [wz.1 51 j (by omega)]; exact hW j hj
  refine r_aload_n dX12_draw_65 rfl rfl ?_
  refine r_callVU (av := []) (M' := mX12_take) dX12_draw_66 vX12_take ml_X12_253 sh_49 (by decide) rfl rfl rfl rfl (by simp [wtA]) (sp_X12_take (n := n) (p := 0) (by omega) ⟨wz.2.1, by omega⟩ ⟨wz.2.2.2.2.2.2.2.2.2, Nat.zero_le _⟩ wt wW (fun g ft mt => ?_))
  have g3 : g 3 = h0 3 := (funext fun j => ft 3 j (by omega)).trans (w3.trans e3)
  have gz : FrZ h g := ⟨fun a k z1 z2 => (ft a k (by omega)).trans (wz.1 a k z1), (ft 49 1 (by decide)).trans wz.2.2.1, (ft 49 12 (by decide)).trans wz.2.2.2.2.2.1⟩
  have sr : SR h0 g n 0 0 := ⟨g3, ⟨(ft 49 13 (by decide)).trans wz.2.1, by omega, fun j hj => by rw [show g 3 = w 3 from funext fun j => ft 3 j (by omega), ft 50 j (by omega)]; exact wt j hj, fun j hj => by rw [ft 51 j (by omega)]; exact wW j hj⟩, ⟨(ft 49 18 (by decide)).trans wz.2.2.2.2.2.2.1, (ft 49 24 (by decide)).trans wz.2.2.2.2.2.2.2.2.1, ((ft 49 22 (by decide)).trans wz.2.2.2.2.2.2.2.1).trans o0.symm⟩, fun k hk => absurd hk (Nat.not_lt_zero k), fun q hq => absurd hq (by rw [o0]; omega), fun k hk => absurd hk (Nat.not_lt_zero k)⟩
  have ms : Hid (MS g n (0, 0, -1)) := ⟨mt, (ft 49 10 (by decide)).trans wz.2.2.2.1, (ft 49 11 (by decide)).trans wz.2.2.2.2.1, ci.1.2.1.2.2.2⟩
  refine lp_mdraw (d := d) (x := x) (g0 := g) (by omega) he (fun u s F i fd r c _ f0 _ ue o4 => ?_) (fun u fd e => k0 u (gz.D fd) e) m h0 g (0, 0, -1) 0 0 rc ci rfl sr ms (fun k hk => absurd hk (Nat.not_lt_zero k)) (fun _ _ _ _ => rfl)
  have uz := gz.D fd
  have hX := hX s F i c f0 o4
  have mo : MOK u := by
    unfold MOK
    rw [uz.1 49 3 (by decide) (by decide), uz.1 49 4 (by decide) (by decide), uz.1 49 5 (by decide) (by decide), uz.1 49 6 (by decide) (by decide), uz.1 49 7 (by decide) (by decide), uz.1 49 8 (by decide) (by decide)]
    exact hw
  refine r_aload_n dX12_draw_92 rfl rfl ?_
  refine r_callVU (av := []) (M' := mX12_doAll) dX12_draw_93 vX12_doAll ml_X12_341 sh_49 (by decide) rfl rfl rfl rfl (by simp [wtA]) (sp_X12_doAll (x := xx) (F := F) (i := i) (by omega) mo (r.dm o4 hX.2.2.1 ⟨(uz.1 49 3 (by decide) (by decide)).trans hX.2.2.2.1, (uz.1 49 4 (by decide) (by decide)).trans hX.2.2.2.2⟩) hX.1 hX.2.1 uz.2.2 (fun g w mb fj eg => ?_))
  refine r_aload_n dX12_draw_96 rfl rfl ?_
  refine r_callVU (av := []) (M' := mX12_forgets) dX12_draw_97 vX12_forgets ml_X12_174 sh_49 (by decide) rfl rfl rfl rfl (by simp [wtA]) (sp_X12_forgets (by omega) (fun w2 f2 z2 y2 y3 => ?_))
  refine r_aload_n dX12_draw_100 rfl rfl ?_
  refine r_getI dX12_draw_101 fl_X12_164 sh_49 rfl ?_
  refine r_iret dX12_draw_104 rfl ?_
  refine ⟨_, rfl, k1 F i g w2 _ f0 o4 c.2.2.1.1 hX.1 hX.2.1 rfl ⟨?_, ?_, ?_, ?_, fun k hk => ⟨?_, ?_, ?_⟩⟩ ⟨fun a k y1 y2 => ?_, ⟨?_, ?_, ?_, ?_⟩, ⟨?_, ?_, ?_, ?_⟩, z2, y2, y3⟩⟩
  · rw [mb.2.1, uz.1 49 3 (by decide) (by decide)]
  · rw [mb.2.2.1, uz.1 49 4 (by decide) (by decide)]
  · exact mb.2.2.2.1
  · rw [mb.2.2.2.2, uz.1 49 3 (by decide) (by decide), uz.1 49 4 (by decide) (by decide), uz.2.2]
  · rw [mb.1 60 k (by omega) (by omega) (by omega)]; exact uz.1 60 k (by omega) (by omega)
  · rw [mb.1 61 k (by omega) (by omega) (by omega)]; exact uz.1 61 k (by omega) (by omega)
  · rw [mb.1 62 k (by omega) (by omega) (by omega)]; exact uz.1 62 k (by omega) (by omega)
  · rw [f2 a k (by omega) (by omega), fj a k (by omega) (by omega), mb.1 a k (by omega) (by omega) (by omega)]
    exact uz.1 a k (by omega) (by omega)
  · rw [f2 49 1 (by decide) (by decide), fj 49 1 (by decide) (by decide), mb.1 49 1 (by decide) (by decide) (by decide)]
    exact uz.2.1
  · rw [f2 49 10 (by decide) (by decide), fj 49 10 (by decide) (by decide), mb.1 49 10 (by decide) (by decide) (by decide)]
    exact ue.1
  · rw [f2 49 11 (by decide) (by decide), fj 49 11 (by decide) (by decide), mb.1 49 11 (by decide) (by decide) (by decide)]
    exact ue.2
  · rw [f2 49 12 (by decide) (by decide)]
    exact congrArg (fun q : Gm => q.2.2.2.2) eg
  · rw [f2 49 29 (by decide) (by decide)]
    exact congrArg (fun q : Gm => q.1) eg
  · rw [show w2 60 = w 60 from funext fun j => f2 60 j (by decide) (by omega)]
    exact congrArg (fun q : Gm => q.2.1) eg
  · rw [show w2 61 = w 61 from funext fun j => f2 61 j (by decide) (by omega)]
    exact congrArg (fun q : Gm => q.2.2.1) eg
  · rw [show w2 62 = w 62 from funext fun j => f2 62 j (by decide) (by omega)]
    exact congrArg (fun q : Gm => q.2.2.2.1) eg
