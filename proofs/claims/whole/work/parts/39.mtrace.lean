/-! HOW TRULY: the reference -/
set_option maxRecDepth 20000 in
set_option maxHeartbeats 400000 in
theorem lp_strays {d : Nat} (hd : 4 ≤ d) {P : Int → Hp → Prop} {h : Hp} {x0 y0 dx dy l r l2 r2 by_ : Int} (hw : MOK h) (a1 : (h 49 42) = l) (a2 : (h 49 43) = r) (a3 : (h 49 44) = l2 - l) (a4 : (h 49 45) = r2 - r) (a5 : (h 49 46) = tkN l r l2 r2) (hl : 0 ≤ l ∧ l ≤ 5660) (hr : 0 ≤ r ∧ r ≤ 5660) (hl2 : 0 ≤ l2 ∧ l2 ≤ 5660) (hr2 : 0 ≤ r2 ∧ r2 ≤ 5660) (hx0 : -300000000 ≤ x0 ∧ x0 ≤ 300000000) (hy0 : 0 ≤ y0 ∧ y0 ≤ 2019800) (hdx : -600000000 ≤ dx ∧ dx ≤ 600000000) (hdy : -2019800 ≤ dy ∧ dy ≤ 2019800) (hby : by_ = lnF dx dy) (k : P (strF (h 49 5) (h 49 3) (h 49 6) x0 y0 dx dy l r l2 r2) h) : ∀ (nn : Nat) (i : Nat) (mo : Int) (o14 o15 o16 o17 : Option AV), ((i : Int) ≤ tkN l r l2 r2 + 1) → (mo = mxN (trF (h 49 5) (h 49 3) (h 49 6) x0 y0 dx dy l r l2 r2 (tkN l r l2 r2)) i) → (tkN l r l2 r2).toNat + 1 - i < nn → WW mX12_strays (d + 1) (pI P) 32 [some (.inr (.inr 49)), some (.inr (.inl x0)), none, some (.inr (.inl y0)), none, some (.inr (.inl dx)), none, some (.inr (.inl dy)), none, some (.inr (.inl by_)), none, some (.inr (.inl mo)), none, some (.inl (i : Int)), o14, o15, o16, o17] [] h := by
  intro nn
  induction nn with
  | zero => intro i mo o14 o15 o16 o17 hi hmo; intros; omega
  | succ nn ih =>
    intro i mo o14 o15 o16 o17 hi hmo hmu
    have tk : 0 ≤ tkN l r l2 r2 ∧ tkN l r l2 r2 ≤ 5660 := by unfold tkN; omega
    have fr : ∀ j : Nat, (j : Int) ≤ tkN l r l2 r2 → (trF (h 49 5) (h 49 3) (h 49 6) x0 y0 dx dy l r l2 r2 (tkN l r l2 r2)) j ≤ 602019800 := fun j hj => by
      have b1 := btF_rB (f := l) (l := l2) (i := j) (n := tkN l r l2 r2) hl hl2 (by omega)
      have b2 := btF_rB (f := r) (l := r2) (i := j) (n := tkN l r l2 r2) hr hr2 (by omega)
      exact (dsF_r (by omega) (by omega) (by omega) (by omega) (by omega) hx0 hy0 hdx hdy).2.1
    have m0 := mxN_nn (trF (h 49 5) (h 49 3) (h 49 6) x0 y0 dx dy l r l2 r2 (tkN l r l2 r2)) i
    have m1 := mxN_le (f := (trF (h 49 5) (h 49 3) (h 49 6) x0 y0 dx dy l r l2 r2 (tkN l r l2 r2))) (B := 602019800) (by decide) i (fun j hj => fr j (by omega))
    refine r_iload dX12_strays_32 rfl ?_
    refine r_aload_n dX12_strays_34 rfl rfl ?_
    refine r_getI dX12_strays_35 fl_X12_371 sh_49 rfl ?_
    refine r_icmp_gt (tgt := 131) dX12_strays_38 rfl (by omega) (by omega) (fun c_38 => ?_) (fun c_38 => ?_)
    · refine r_lload dX12_strays_131 rfl ?_
      refine r_l2i dX12_strays_133 ?_
      refine r_iret dX12_strays_134 rfl ?_
      have e : i = (tkN l r l2 r2).toNat + 1 := by omega
      refine ⟨_, rfl, eqP k ?_⟩
      unfold strF
      rw [← e]
      exact hmo.symm
    · have b1 := btF_rB (f := l) (l := l2) (i := i) (n := tkN l r l2 r2) hl hl2 (by omega)
      have b2 := btF_rB (f := r) (l := r2) (i := i) (n := tkN l r l2 r2) hr hr2 (by omega)
      have ds := dsF_r (K := (h 49 5)) (W := (h 49 3)) (E := (h 49 6)) (x0 := x0) (y0 := y0) (dx := dx) (dy := dy) (l := btF l l2 i (tkN l r l2 r2)) (r := btF r r2 i (tkN l r l2 r2)) (by omega) (by omega) (by omega) (by omega) (by omega) hx0 hy0 hdx hdy
      have dpx := pX_r (K := (h 49 5)) (W := (h 49 3)) (E := (h 49 6)) (l := btF l l2 i (tkN l r l2 r2)) (r := btF r r2 i (tkN l r l2 r2)) (by omega) (by omega) (by omega) (by omega) (by omega)
      have dpy := pY_r (K := (h 49 5)) (W := (h 49 3)) (E := (h 49 6)) (l := btF l l2 i (tkN l r l2 r2)) (r := btF r r2 i (tkN l r l2 r2)) (by omega) (by omega) (by omega)
      have lg := lnF_ge dx dy
      have lg2 := lnF_le hdx hdy
      have tn := tdivNN (a := ((dx * (pY (h 49 5) (h 49 3) (h 49 6) (btF l l2 i (tkN l r l2 r2)) (btF r r2 i (tkN l r l2 r2)) - y0) - dy * (pX (h 49 5) (h 49 3) (h 49 6) (btF l l2 i (tkN l r l2 r2)) (btF r r2 i (tkN l r l2 r2)) - x0)).natAbs : Int)) (b := by_) (by omega) (by omega)
      refine r_aload_n dX12_strays_41 rfl rfl ?_
      refine r_iload dX12_strays_42 rfl ?_
      refine r_callVI (av := [_]) (M' := mX12_wayLeft) dX12_strays_44 vX12_wayLeft ml_X12_374 sh_49 (by decide) rfl rfl rfl rfl (by simp [wtA]) (sp_X12_wayLeft (by omega) (by omega) (by omega) (by omega) (by omega) ?_)
      refine r_eqI (y := btF l l2 i (tkN l r l2 r2)) (by rw [a1, a3, a5, show l + (l2 - l) = l2 by omega]) ?_
      refine r_istore (L' := [_, _, _, _, _, _, _, _, _, _, _, _, _, _, _, _, _, _]) dX12_strays_47 rfl (by decide) rfl ?_
      refine r_aload_n dX12_strays_49 rfl rfl ?_
      refine r_iload dX12_strays_50 rfl ?_
      refine r_callVI (av := [_]) (M' := mX12_wayRight) dX12_strays_52 vX12_wayRight ml_X12_377 sh_49 (by decide) rfl rfl rfl rfl (by simp [wtA]) (sp_X12_wayRight (by omega) (by omega) (by omega) (by omega) (by omega) ?_)
      refine r_eqI (y := btF r r2 i (tkN l r l2 r2)) (by rw [a2, a4, a5, show r + (r2 - r) = r2 by omega]) ?_
      refine r_istore (L' := [_, _, _, _, _, _, _, _, _, _, _, _, _, _, _, _, _, _]) dX12_strays_55 rfl (by decide) rfl ?_
      refine r_lload dX12_strays_57 rfl ?_
      refine r_aload_n dX12_strays_59 rfl rfl ?_
      refine r_iload dX12_strays_60 rfl ?_
      refine r_iload dX12_strays_62 rfl ?_
      refine r_callVI (av := [_, _]) (M' := mX12_placeY) dX12_strays_64 vX12_placeY ml_X12_195 sh_49 (by decide) rfl rfl rfl rfl (by simp [wtA]) (sp_X12_placeY (by omega) (by omega) (by omega) (by omega) ?_)
      refine r_i2l dX12_strays_67 (by omega) ?_
      refine r_lload_n dX12_strays_68 rfl rfl ?_
      refine r_lsub dX12_strays_69 ?_
      refine r_lmul dX12_strays_70 ?_
      refine r_lload dX12_strays_71 rfl ?_
      refine r_aload_n dX12_strays_73 rfl rfl ?_
      refine r_iload dX12_strays_74 rfl ?_
      refine r_iload dX12_strays_76 rfl ?_
      refine r_callVI (av := [_, _]) (M' := mX12_placeX) dX12_strays_78 vX12_placeX ml_X12_156 sh_49 (by decide) rfl rfl rfl rfl (by simp [wtA]) (sp_X12_placeX (by omega) (by omega) (by omega) (by omega) ?_)
      refine r_i2l dX12_strays_81 (by omega) ?_
      refine r_lload_n dX12_strays_82 rfl rfl ?_
      refine r_lsub dX12_strays_83 ?_
      refine r_lmul dX12_strays_84 ?_
      refine r_lsub dX12_strays_85 ?_
      refine r_nmJ (fun cr e_cr => ?_)
      refine r_lstore (L' := [_, _, _, _, _, _, _, _, _, _, _, _, _, _, _, _, _, _]) dX12_strays_86 rfl (by decide) rfl ?_
      refine r_lload dX12_strays_88 rfl ?_
      refine r_lconst (z := 0) dX12_strays_90 (by decide +kernel) ?_
      refine r_lcmp_ge (tgt := 101) dX12_strays_91 dX12_strays_92 rfl (by omega) ⟨by decide, by decide⟩ (fun c_91 => ?_) (fun c_91 => ?_)
      · refine r_lload dX12_strays_101 rfl ?_
        refine r_eqJ (y := ((dx * (pY (h 49 5) (h 49 3) (h 49 6) (btF l l2 i (tkN l r l2 r2)) (btF r r2 i (tkN l r l2 r2)) - y0) - dy * (pX (h 49 5) (h 49 3) (h 49 6) (btF l l2 i (tkN l r l2 r2)) (btF r r2 i (tkN l r l2 r2)) - x0)).natAbs : Int)) (by omega) ?_
        refine r_lload dX12_strays_103 rfl ?_
        refine r_ldiv dX12_strays_105 (by omega) (by omega) (by omega) ?_
        refine r_eqJ (y := (trF (h 49 5) (h 49 3) (h 49 6) x0 y0 dx dy l r l2 r2 (tkN l r l2 r2)) i) (by rw [hby]; rfl) ?_
        have hf := ds.2.1
        have hf0 := ds.1
        rw [show dsF (h 49 5) (h 49 3) (h 49 6) x0 y0 dx dy (btF l l2 i (tkN l r l2 r2)) (btF r r2 i (tkN l r l2 r2)) = (trF (h 49 5) (h 49 3) (h 49 6) x0 y0 dx dy l r l2 r2 (tkN l r l2 r2)) i from rfl] at hf hf0
        refine r_lstore (L' := [_, _, _, _, _, _, _, _, _, _, _, _, _, _, _, _, _, _]) dX12_strays_106 rfl (by decide) rfl ?_
        refine r_lload dX12_strays_108 rfl ?_
        refine r_lload dX12_strays_110 rfl ?_
        refine r_lcmp_le (tgt := 121) dX12_strays_112 dX12_strays_113 rfl (by omega) (by omega) (fun c_112 => ?_) (fun c_112 => ?_)
        · refine r_lload dX12_strays_121 rfl ?_
          refine r_eqJ (y := mxN (trF (h 49 5) (h 49 3) (h 49 6) x0 y0 dx dy l r l2 r2 (tkN l r l2 r2)) (i + 1)) (by rw [mxN]; omega) ?_
          refine r_lstore (L' := [_, _, _, _, _, _, _, _, _, _, _, _, _, _, _, _, _, _]) dX12_strays_123 rfl (by decide) rfl ?_
          refine r_iinc (L' := [_, _, _, _, _, _, _, _, _, _, _, _, _, _, _, _, _, _]) dX12_strays_125 rfl rfl (by decide) rfl ?_
          refine r_goto (tgt := 32) dX12_strays_128 rfl ?_
          exact ih (i + 1) _ _ _ _ _ (by omega) rfl (by omega)
        · refine r_lload dX12_strays_116 rfl ?_
          refine r_goto (tgt := 123) dX12_strays_118 rfl ?_
          refine r_eqJ (y := mxN (trF (h 49 5) (h 49 3) (h 49 6) x0 y0 dx dy l r l2 r2 (tkN l r l2 r2)) (i + 1)) (by rw [mxN]; omega) ?_
          refine r_lstore (L' := [_, _, _, _, _, _, _, _, _, _, _, _, _, _, _, _, _, _]) dX12_strays_123 rfl (by decide) rfl ?_
          refine r_iinc (L' := [_, _, _, _, _, _, _, _, _, _, _, _, _, _, _, _, _, _]) dX12_strays_125 rfl rfl (by decide) rfl ?_
          refine r_goto (tgt := 32) dX12_strays_128 rfl ?_
          exact ih (i + 1) _ _ _ _ _ (by omega) rfl (by omega)
      · refine r_lload dX12_strays_95 rfl ?_
        refine r_lneg dX12_strays_97 ?_
        refine r_goto (tgt := 103) dX12_strays_98 rfl ?_
        refine r_eqJ (y := ((dx * (pY (h 49 5) (h 49 3) (h 49 6) (btF l l2 i (tkN l r l2 r2)) (btF r r2 i (tkN l r l2 r2)) - y0) - dy * (pX (h 49 5) (h 49 3) (h 49 6) (btF l l2 i (tkN l r l2 r2)) (btF r r2 i (tkN l r l2 r2)) - x0)).natAbs : Int)) (by omega) ?_
        refine r_lload dX12_strays_103 rfl ?_
        refine r_ldiv dX12_strays_105 (by omega) (by omega) (by omega) ?_
        refine r_eqJ (y := (trF (h 49 5) (h 49 3) (h 49 6) x0 y0 dx dy l r l2 r2 (tkN l r l2 r2)) i) (by rw [hby]; rfl) ?_
        have hf := ds.2.1
        have hf0 := ds.1
        rw [show dsF (h 49 5) (h 49 3) (h 49 6) x0 y0 dx dy (btF l l2 i (tkN l r l2 r2)) (btF r r2 i (tkN l r l2 r2)) = (trF (h 49 5) (h 49 3) (h 49 6) x0 y0 dx dy l r l2 r2 (tkN l r l2 r2)) i from rfl] at hf hf0
        refine r_lstore (L' := [_, _, _, _, _, _, _, _, _, _, _, _, _, _, _, _, _, _]) dX12_strays_106 rfl (by decide) rfl ?_
        refine r_lload dX12_strays_108 rfl ?_
        refine r_lload dX12_strays_110 rfl ?_
        refine r_lcmp_le (tgt := 121) dX12_strays_112 dX12_strays_113 rfl (by omega) (by omega) (fun c_112 => ?_) (fun c_112 => ?_)
        · refine r_lload dX12_strays_121 rfl ?_
          refine r_eqJ (y := mxN (trF (h 49 5) (h 49 3) (h 49 6) x0 y0 dx dy l r l2 r2 (tkN l r l2 r2)) (i + 1)) (by rw [mxN]; omega) ?_
          refine r_lstore (L' := [_, _, _, _, _, _, _, _, _, _, _, _, _, _, _, _, _, _]) dX12_strays_123 rfl (by decide) rfl ?_
          refine r_iinc (L' := [_, _, _, _, _, _, _, _, _, _, _, _, _, _, _, _, _, _]) dX12_strays_125 rfl rfl (by decide) rfl ?_
          refine r_goto (tgt := 32) dX12_strays_128 rfl ?_
          exact ih (i + 1) _ _ _ _ _ (by omega) rfl (by omega)
        · refine r_lload dX12_strays_116 rfl ?_
          refine r_goto (tgt := 123) dX12_strays_118 rfl ?_
          refine r_eqJ (y := mxN (trF (h 49 5) (h 49 3) (h 49 6) x0 y0 dx dy l r l2 r2 (tkN l r l2 r2)) (i + 1)) (by rw [mxN]; omega) ?_
          refine r_lstore (L' := [_, _, _, _, _, _, _, _, _, _, _, _, _, _, _, _, _, _]) dX12_strays_123 rfl (by decide) rfl ?_
          refine r_iinc (L' := [_, _, _, _, _, _, _, _, _, _, _, _, _, _, _, _, _, _]) dX12_strays_125 rfl rfl (by decide) rfl ?_
          refine r_goto (tgt := 32) dX12_strays_128 rfl ?_
          exact ih (i + 1) _ _ _ _ _ (by omega) rfl (by omega)
set_option maxRecDepth 20000 in
set_option maxHeartbeats 400000 in
theorem sp_X12_strays {d : Nat} (hd : 5 ≤ d) {x0 y0 dx dy : Int} {h : Hp} {l r l2 r2 : Int} (hw : MOK h) (a1 : (h 49 42) = l) (a2 : (h 49 43) = r) (a3 : (h 49 44) = l2 - l) (a4 : (h 49 45) = r2 - r) (a5 : (h 49 46) = tkN l r l2 r2) (hl : 0 ≤ l ∧ l ≤ 5660) (hr : 0 ≤ r ∧ r ≤ 5660) (hl2 : 0 ≤ l2 ∧ l2 ≤ 5660) (hr2 : 0 ≤ r2 ∧ r2 ≤ 5660) (hx0 : -300000000 ≤ x0 ∧ x0 ≤ 300000000) (hy0 : 0 ≤ y0 ∧ y0 ≤ 2019800) (hdx : -600000000 ≤ dx ∧ dx ≤ 600000000) (hdy : -2019800 ≤ dy ∧ dy ≤ 2019800) {P : Int → Hp → Prop} (k : P (strF (h 49 5) (h 49 3) (h 49 6) x0 y0 dx dy l r l2 r2) (h)) : Cl d mX12_strays [.inr (.inr 49), .inr (.inl x0), .inr (.inl y0), .inr (.inl dx), .inr (.inl dy)] h (pI P) := by
  refine Cl.of (L := [some (.inr (.inr 49)), some (.inr (.inl x0)), none, some (.inr (.inl y0)), none, some (.inr (.inl dx)), none, some (.inr (.inl dy)), none, none, none, none, none, none, none, none, none, none]) (by decide +kernel) (Nat.le_of_ble_eq_true rfl) rfl ?_
  obtain ⟨d, rfl⟩ : ∃ q, d = q + 1 := ⟨d - 1, by omega⟩
  have q1 := mulS (a := dx) (b := dx) (A := 600000000) (B := 600000000) (by omega) (by omega)
  have q2 := mulS (a := dy) (b := dy) (A := 2019800) (B := 2019800) (by omega) (by omega)
  have n1 := sq_nn dx
  have n2 := sq_nn dy
  have g3 := rt0_nn (dx * dx + dy * dy)
  have g4 := rt0_le (n := dx * dx + dy * dy) (b := 1000000000) (by omega) (by omega)
  have g7 := rt0_eq (n := dx * dx + dy * dy) (by omega)
  refine r_lload dX12_strays_0 rfl ?_
  refine r_lload dX12_strays_2 rfl ?_
  refine r_lmul dX12_strays_4 ?_
  refine r_lload dX12_strays_5 rfl ?_
  refine r_lload dX12_strays_7 rfl ?_
  refine r_lmul dX12_strays_9 ?_
  refine r_ladd dX12_strays_10 ?_
  refine r_callSJ (av := [_]) (M' := mX12_root) dX12_strays_11 sX12_root ml_X12_140 rfl rfl (by simp [wtA]) (sp_X12_root (by omega) (by omega) ?_)
  refine r_eqJ g7.symm ?_
  refine r_lstore (L' := [_, _, _, _, _, _, _, _, _, _, _, _, _, _, _, _, _, _]) dX12_strays_14 rfl (by decide) rfl ?_
  refine r_lload dX12_strays_16 rfl ?_
  refine r_lconst (z := 0) dX12_strays_18 (by decide +kernel) ?_
  refine r_lcmp_ne (tgt := 26) dX12_strays_19 dX12_strays_20 rfl (by omega) ⟨by decide, by decide⟩ (fun c_19 => ?_) (fun c_19 => ?_)
  · refine r_lconst (z := 0) dX12_strays_26 (by decide +kernel) ?_
    refine r_lstore (L' := [_, _, _, _, _, _, _, _, _, _, _, _, _, _, _, _, _, _]) dX12_strays_27 rfl (by decide) rfl ?_
    refine r_iconst dX12_strays_29 ?_
    refine r_istore (L' := [_, _, _, _, _, _, _, _, _, _, _, _, _, _, _, _, _, _]) dX12_strays_30 rfl (by decide) rfl ?_
    exact lp_strays (by omega) hw a1 a2 a3 a4 a5 hl hr hl2 hr2 hx0 hy0 hdx hdy (by unfold lnF; omega) k 5663 0 0 _ _ _ _ (by unfold tkN; omega) rfl (by unfold tkN; omega)
  · refine r_lconst (z := 1) dX12_strays_23 (by decide +kernel) ?_
    refine r_lstore (L' := [_, _, _, _, _, _, _, _, _, _, _, _, _, _, _, _, _, _]) dX12_strays_24 rfl (by decide) rfl ?_
    refine r_lconst (z := 0) dX12_strays_26 (by decide +kernel) ?_
    refine r_lstore (L' := [_, _, _, _, _, _, _, _, _, _, _, _, _, _, _, _, _, _]) dX12_strays_27 rfl (by decide) rfl ?_
    refine r_iconst dX12_strays_29 ?_
    refine r_istore (L' := [_, _, _, _, _, _, _, _, _, _, _, _, _, _, _, _, _, _]) dX12_strays_30 rfl (by decide) rfl ?_
    exact lp_strays (by omega) hw a1 a2 a3 a4 a5 hl hr hl2 hr2 hx0 hy0 hdx hdy (by unfold lnF; omega) k 5663 0 0 _ _ _ _ (by unfold tkN; omega) rfl (by unfold tkN; omega)
set_option maxRecDepth 20000 in
set_option maxHeartbeats 400000 in
theorem sp_X12_sag {d : Nat} (hd : 6 ≤ d) {m : Int} {h : Hp}  (hw : MOK h) (hm : R32 m) (hn : 0 ≤ (h 49 29) ∧ (h 49 29) ≤ 150) (hxy : MXY (h 49 3) (h 49 4) (h 60) (h 61) 0 (h 49 29)) {P : Int → Hp → Prop} (k : ∀ h' : Hp, (FrM h h') → P (if 0 ≤ m ∧ m < (h 49 29) then sgF (h 49 5) (h 49 3) (h 49 6) (mL (h 49 5) (h 49 6) (h 60) (h 61)) (mR (h 49 3) (h 49 5) (h 49 6) (h 60) (h 61)) m.toNat else -1) h') : Cl d mX12_sag [.inr (.inr 49), .inl m] h (pI P) := by
  refine Cl.of (L := [some (.inr (.inr 49)), some (.inl m), none, none, none, none, none, none]) (by decide +kernel) (Nat.le_of_ble_eq_true rfl) rfl ?_
  obtain ⟨d, rfl⟩ : ∃ q, d = q + 1 := ⟨d - 1, by omega⟩
  refine r_aload_n dX12_sag_0 rfl rfl ?_
  refine r_iconst dX12_sag_1 ?_
  refine r_putI dX12_sag_2 fl_X12_127 sh_49 rfl ?_
  refine r_gh (fun g eg => ?_)
  have f : FrM h g := by rw [eg]; exact FrM.rf.up rfl
  have e3 : g 49 3 = h 49 3 := f 49 3 rfl
  have e4 : g 49 4 = h 49 4 := f 49 4 rfl
  have e5 : g 49 5 = h 49 5 := f 49 5 rfl
  have e6 : g 49 6 = h 49 6 := f 49 6 rfl
  have e7 : g 49 7 = h 49 7 := f 49 7 rfl
  have e8 : g 49 8 = h 49 8 := f 49 8 rfl
  have e29 : g 49 29 = h 49 29 := f 49 29 rfl
  have ea60 : g 60 = h 60 := funext fun j => f 60 j rfl
  have ea61 : g 61 = h 61 := funext fun j => f 61 j rfl
  have w : MOK g := by omega
  rw [← e3, ← e4, ← e29, ← ea60, ← ea61] at hxy
  rw [← e29] at hn
  rw [← e3, ← e5, ← e6, ← e29, ← ea60, ← ea61] at k
  refine r_aload_n dX12_sag_5 rfl rfl ?_
  refine r_iload_n dX12_sag_6 rfl rfl ?_
  refine r_callVI (av := [_]) (M' := mX12_isMove) dX12_sag_7 vX12_isMove ml_X12_350 sh_49 (by decide) rfl rfl rfl rfl (by simp [wtA]) (sp_X12_isMove (by omega) (by omega) (by omega) (fun b_7 => ?_) (fun b_7 => ?_))
  · refine r_if_ne (tgt := 15) dX12_sag_10 rfl ⟨by decide, by decide⟩ (fun c_10 => ?_) (fun c_10 => absurd c_10 (by decide))
    have e1 : (m + 1).toNat = m.toNat + 1 := by omega
    have hq := hxy.lr (K := g 49 5) (E := g 49 6) (by omega) (by omega) (by omega) (by omega)
    have x0 := hxy m.toNat (by omega)
    have x1 := hxy (m.toNat + 1) (by omega)
    rw [Nat.zero_add] at x0 x1
    have q0 := hq m.toNat (by omega)
    have q1 := hq (m.toNat + 1) (by omega)
    rw [← e1] at x1 q1
    refine r_aload_n dX12_sag_15 rfl rfl ?_
    refine r_aload_n dX12_sag_16 rfl rfl ?_
    refine r_iload_n dX12_sag_17 rfl rfl ?_
    refine r_callVI (av := [_]) (M' := mX12_leftAt) dX12_sag_18 vX12_leftAt ml_X12_344 sh_49 (by decide) rfl rfl rfl rfl (by simp [wtA]) (sp_X12_leftAt (by omega) (by omega) (by omega) (by omega) (by omega) ?_)
    refine r_aload_n dX12_sag_21 rfl rfl ?_
    refine r_iload_n dX12_sag_22 rfl rfl ?_
    refine r_callVI (av := [_]) (M' := mX12_rightAt) dX12_sag_23 vX12_rightAt ml_X12_347 sh_49 (by decide) rfl rfl rfl rfl (by simp [wtA]) (sp_X12_rightAt (by omega) (by omega) (by omega) (by omega) (by omega) ?_)
    refine r_aload_n dX12_sag_26 rfl rfl ?_
    refine r_iload_n dX12_sag_27 rfl rfl ?_
    refine r_iconst dX12_sag_28 ?_
    refine r_iadd dX12_sag_29 ?_
    refine r_callVI (av := [_]) (M' := mX12_leftAt) dX12_sag_30 vX12_leftAt ml_X12_344 sh_49 (by decide) rfl rfl rfl rfl (by simp [wtA]) (sp_X12_leftAt (by omega) (by omega) (by omega) (by omega) (by omega) ?_)
    refine r_aload_n dX12_sag_33 rfl rfl ?_
    refine r_iload_n dX12_sag_34 rfl rfl ?_
    refine r_iconst dX12_sag_35 ?_
    refine r_iadd dX12_sag_36 ?_
    refine r_callVI (av := [_]) (M' := mX12_rightAt) dX12_sag_37 vX12_rightAt ml_X12_347 sh_49 (by decide) rfl rfl rfl rfl (by simp [wtA]) (sp_X12_rightAt (by omega) (by omega) (by omega) (by omega) (by omega) ?_)
    refine r_callVU (av := [_, _, _, _]) (M' := mX12_layWay) dX12_sag_40 vX12_layWay ml_X12_380 sh_49 (by decide) rfl rfl rfl rfl (by simp [wtA]) (sp_X12_layWay (by omega) (by omega) (by omega) (by omega) (by omega) ?_)
    refine r_gh (fun w ew => ?_)
    have fw : FrM h w := by rw [ew]; exact ((((f.up rfl).up rfl).up rfl).up rfl).up rfl
    have c3 : w 49 3 = g 49 3 := by rw [ew]; rfl
    have c4 : w 49 4 = g 49 4 := by rw [ew]; rfl
    have c5 : w 49 5 = g 49 5 := by rw [ew]; rfl
    have c6 : w 49 6 = g 49 6 := by rw [ew]; rfl
    have c7 : w 49 7 = g 49 7 := by rw [ew]; rfl
    have c8 : w 49 8 = g 49 8 := by rw [ew]; rfl
    have c29 : w 49 29 = g 49 29 := by rw [ew]; rfl
    have b42 : w 49 42 = (mL (g 49 5) (g 49 6) (g 60) (g 61) m.toNat) := by rw [ew]; rfl
    have b43 : w 49 43 = (mR (g 49 3) (g 49 5) (g 49 6) (g 60) (g 61) m.toNat) := by rw [ew]; rfl
    have b44 : w 49 44 = (mL (g 49 5) (g 49 6) (g 60) (g 61) (m + 1).toNat) - (mL (g 49 5) (g 49 6) (g 60) (g 61) m.toNat) := by rw [ew]; rfl
    have b45 : w 49 45 = (mR (g 49 3) (g 49 5) (g 49 6) (g 60) (g 61) (m + 1).toNat) - (mR (g 49 3) (g 49 5) (g 49 6) (g 60) (g 61) m.toNat) := by rw [ew]; rfl
    have b46 : w 49 46 = tkN (mL (g 49 5) (g 49 6) (g 60) (g 61) m.toNat) (mR (g 49 3) (g 49 5) (g 49 6) (g 60) (g 61) m.toNat) (mL (g 49 5) (g 49 6) (g 60) (g 61) (m + 1).toNat) (mR (g 49 3) (g 49 5) (g 49 6) (g 60) (g 61) (m + 1).toNat) := by rw [ew]; rfl
    have mw : MOK w := by omega
    have tk : 0 ≤ tkN (mL (g 49 5) (g 49 6) (g 60) (g 61) m.toNat) (mR (g 49 3) (g 49 5) (g 49 6) (g 60) (g 61) m.toNat) (mL (g 49 5) (g 49 6) (g 60) (g 61) (m + 1).toNat) (mR (g 49 3) (g 49 5) (g 49 6) (g 60) (g 61) (m + 1).toNat) ∧ tkN (mL (g 49 5) (g 49 6) (g 60) (g 61) m.toNat) (mR (g 49 3) (g 49 5) (g 49 6) (g 60) (g 61) m.toNat) (mL (g 49 5) (g 49 6) (g 60) (g 61) (m + 1).toNat) (mR (g 49 3) (g 49 5) (g 49 6) (g 60) (g 61) (m + 1).toNat) ≤ 5660 := by unfold tkN; omega
    have g1 := pX_r (K := w 49 5) (W := w 49 3) (E := w 49 6) (l := (mL (g 49 5) (g 49 6) (g 60) (g 61) m.toNat)) (r := (mR (g 49 3) (g 49 5) (g 49 6) (g 60) (g 61) m.toNat)) (by omega) (by omega) (by omega) (by omega) (by omega)
    have g2 := pY_r (K := w 49 5) (W := w 49 3) (E := w 49 6) (l := (mL (g 49 5) (g 49 6) (g 60) (g 61) m.toNat)) (r := (mR (g 49 3) (g 49 5) (g 49 6) (g 60) (g 61) m.toNat)) (by omega) (by omega) (by omega)
    have g3 := pX_r (K := w 49 5) (W := w 49 3) (E := w 49 6) (l := (mL (g 49 5) (g 49 6) (g 60) (g 61) (m + 1).toNat)) (r := (mR (g 49 3) (g 49 5) (g 49 6) (g 60) (g 61) (m + 1).toNat)) (by omega) (by omega) (by omega) (by omega) (by omega)
    have g4 := pY_r (K := w 49 5) (W := w 49 3) (E := w 49 6) (l := (mL (g 49 5) (g 49 6) (g 60) (g 61) (m + 1).toNat)) (r := (mR (g 49 3) (g 49 5) (g 49 6) (g 60) (g 61) (m + 1).toNat)) (by omega) (by omega) (by omega)
    refine r_aload_n dX12_sag_43 rfl rfl ?_
    refine r_aload_n dX12_sag_44 rfl rfl ?_
    refine r_getI dX12_sag_45 fl_X12_371 sh_49 rfl ?_
    refine r_callVI (av := [_]) (M' := mX12_wayLeft) dX12_sag_48 vX12_wayLeft ml_X12_374 sh_49 (by decide) rfl rfl rfl rfl (by simp [wtA]) (sp_X12_wayLeft (by omega) (by omega) (by omega) (by omega) (by omega) ?_)
    refine r_eqI (y := (mL (g 49 5) (g 49 6) (g 60) (g 61) (m + 1).toNat)) (by rw [b42, b44, b46, show ∀ a b : Int, a + (b - a) = b from fun a b => by omega]; exact btF_n (by unfold tkN; omega)) ?_
    refine r_istore_n (L' := [_, _, _, _, _, _, _, _]) dX12_sag_51 rfl rfl (by decide) rfl ?_
    refine r_aload_n dX12_sag_52 rfl rfl ?_
    refine r_aload_n dX12_sag_53 rfl rfl ?_
    refine r_getI dX12_sag_54 fl_X12_371 sh_49 rfl ?_
    refine r_callVI (av := [_]) (M' := mX12_wayRight) dX12_sag_57 vX12_wayRight ml_X12_377 sh_49 (by decide) rfl rfl rfl rfl (by simp [wtA]) (sp_X12_wayRight (by omega) (by omega) (by omega) (by omega) (by omega) ?_)
    refine r_eqI (y := (mR (g 49 3) (g 49 5) (g 49 6) (g 60) (g 61) (m + 1).toNat)) (by rw [b43, b45, b46, show ∀ a b : Int, a + (b - a) = b from fun a b => by omega]; exact btF_n (by unfold tkN; omega)) ?_
    refine r_istore_n (L' := [_, _, _, _, _, _, _, _]) dX12_sag_60 rfl rfl (by decide) rfl ?_
    refine r_aload_n dX12_sag_61 rfl rfl ?_
    refine r_aload_n dX12_sag_62 rfl rfl ?_
    refine r_getI dX12_sag_63 fl_X12_359 sh_49 rfl ?_
    refine r_aload_n dX12_sag_66 rfl rfl ?_
    refine r_getI dX12_sag_67 fl_X12_362 sh_49 rfl ?_
    refine r_callVI (av := [_, _]) (M' := mX12_placeX) dX12_sag_70 vX12_placeX ml_X12_156 sh_49 (by decide) rfl rfl rfl rfl (by simp [wtA]) (sp_X12_placeX (by omega) (by omega) (by omega) (by omega) ?_)
    refine r_eqI (y := pX (w 49 5) (w 49 3) (w 49 6) (mL (g 49 5) (g 49 6) (g 60) (g 61) m.toNat) (mR (g 49 3) (g 49 5) (g 49 6) (g 60) (g 61) m.toNat)) (by rw [b42, b43]) ?_
    refine r_i2l dX12_sag_73 (by omega) ?_
    refine r_lstore (L' := [_, _, _, _, _, _, _, _]) dX12_sag_74 rfl (by decide) rfl ?_
    refine r_aload_n dX12_sag_76 rfl rfl ?_
    refine r_aload_n dX12_sag_77 rfl rfl ?_
    refine r_getI dX12_sag_78 fl_X12_359 sh_49 rfl ?_
    refine r_aload_n dX12_sag_81 rfl rfl ?_
    refine r_getI dX12_sag_82 fl_X12_362 sh_49 rfl ?_
    refine r_callVI (av := [_, _]) (M' := mX12_placeY) dX12_sag_85 vX12_placeY ml_X12_195 sh_49 (by decide) rfl rfl rfl rfl (by simp [wtA]) (sp_X12_placeY (by omega) (by omega) (by omega) (by omega) ?_)
    refine r_eqI (y := pY (w 49 5) (w 49 3) (w 49 6) (mL (g 49 5) (g 49 6) (g 60) (g 61) m.toNat) (mR (g 49 3) (g 49 5) (g 49 6) (g 60) (g 61) m.toNat)) (by rw [b42, b43]) ?_
    refine r_i2l dX12_sag_88 (by omega) ?_
    refine r_lstore (L' := [_, _, _, _, _, _, _, _]) dX12_sag_89 rfl (by decide) rfl ?_
    refine r_aload_n dX12_sag_91 rfl rfl ?_
    refine r_lload dX12_sag_92 rfl ?_
    refine r_lload dX12_sag_94 rfl ?_
    refine r_aload_n dX12_sag_96 rfl rfl ?_
    refine r_iload_n dX12_sag_97 rfl rfl ?_
    refine r_iload_n dX12_sag_98 rfl rfl ?_
    refine r_callVI (av := [_, _]) (M' := mX12_placeX) dX12_sag_99 vX12_placeX ml_X12_156 sh_49 (by decide) rfl rfl rfl rfl (by simp [wtA]) (sp_X12_placeX (by omega) (by omega) (by omega) (by omega) ?_)
    refine r_i2l dX12_sag_102 (by omega) ?_
    refine r_lload dX12_sag_103 rfl ?_
    refine r_lsub dX12_sag_105 ?_
    refine r_aload_n dX12_sag_106 rfl rfl ?_
    refine r_iload_n dX12_sag_107 rfl rfl ?_
    refine r_iload_n dX12_sag_108 rfl rfl ?_
    refine r_callVI (av := [_, _]) (M' := mX12_placeY) dX12_sag_109 vX12_placeY ml_X12_195 sh_49 (by decide) rfl rfl rfl rfl (by simp [wtA]) (sp_X12_placeY (by omega) (by omega) (by omega) (by omega) ?_)
    refine r_i2l dX12_sag_112 (by omega) ?_
    refine r_lload dX12_sag_113 rfl ?_
    refine r_lsub dX12_sag_115 ?_
    refine r_callVI (av := [_, _, _, _]) (M' := mX12_strays) dX12_sag_116 vX12_strays ml_X12_384 sh_49 (by decide) rfl rfl rfl rfl (by simp [wtA]) (sp_X12_strays (by omega) (by omega) b42 b43 b44 b45 b46 (by omega) (by omega) (by omega) (by omega) (by omega) (by omega) (by omega) (by omega) ?_)
    refine r_iret dX12_sag_119 rfl ?_
    refine ⟨_, rfl, eqP (k w fw) ?_⟩
    rw [if_pos (by omega), c3, c5, c6, e1]
    rfl
  · refine r_if_ne (tgt := 15) dX12_sag_10 rfl ⟨by decide, by decide⟩ (fun c_10 => absurd c_10 (by decide)) (fun c_10 => ?_)
    refine r_iconst dX12_sag_13 ?_
    refine r_iret dX12_sag_14 rfl ?_
    refine ⟨_, rfl, eqP (k g f) ?_⟩
    rw [if_neg (by omega)]
set_option maxRecDepth 20000 in
set_option maxHeartbeats 400000 in
theorem lp_straysIn {d : Nat} (hd : 5 ≤ d) {P : Int → Hp → Prop} {h : Hp} {m p : Int} (hw : MOK h) (hm : 0 ≤ m ∧ m ≤ 149) (hp : 1 ≤ p ∧ p ≤ 64) (q0 : 0 ≤ h 60 m.toNat ∧ h 60 m.toNat ≤ (h 49 3) ∧ 0 ≤ h 61 m.toNat ∧ h 61 m.toNat ≤ (h 49 4)) (q1 : 0 ≤ h 60 (m.toNat + 1) ∧ h 60 (m.toNat + 1) ≤ (h 49 3) ∧ 0 ≤ h 61 (m.toNat + 1) ∧ h 61 (m.toNat + 1) ≤ (h 49 4)) (k : ∀ g : Hp, FrM h g → P (sinF (h 49 5) (h 49 3) (h 49 6) (100 * h 60 m.toNat) (100 * h 61 m.toNat) (100 * h 60 (m.toNat + 1)) (100 * h 61 (m.toNat + 1)) p) g) : ∀ (nn : Nat) (i : Nat) (mo l r : Int) (g : Hp) (o11 o12 o13 o14 o15 : Option AV), ((i : Int) ≤ p) → (l = ptL (h 49 5) (h 49 6) (100 * h 60 m.toNat) (100 * h 61 m.toNat) (100 * h 60 (m.toNat + 1)) (100 * h 61 (m.toNat + 1)) p i) → (r = ptR (h 49 3) (h 49 5) (h 49 6) (100 * h 60 m.toNat) (100 * h 61 m.toNat) (100 * h 60 (m.toNat + 1)) (100 * h 61 (m.toNat + 1)) p i) → (mo = mxN (siF (h 49 5) (h 49 3) (h 49 6) (100 * h 60 m.toNat) (100 * h 61 m.toNat) (100 * h 60 (m.toNat + 1)) (100 * h 61 (m.toNat + 1)) p) i) → (FrM h g) → p.toNat - i < nn → WW mX12_straysIn (d + 1) (pI P) 76 [some (.inr (.inr 49)), some (.inl m), some (.inl p), some (.inl (100 * h 60 m.toNat)), some (.inl (100 * h 61 m.toNat)), some (.inl ((100 * h 60 (m.toNat + 1)) - (100 * h 60 m.toNat))), some (.inl ((100 * h 61 (m.toNat + 1)) - (100 * h 61 m.toNat))), some (.inl mo), some (.inl l), some (.inl r), some (.inl ((i : Int) + 1)), o11, o12, o13, o14, o15] [] g := by
  intro nn
  induction nn with
  | zero => intro i mo l r g o11 o12 o13 o14 o15 hi hl hr hmo hg; intros; omega
  | succ nn ih =>
    intro i mo l r g o11 o12 o13 o14 o15 hi hl hr hmo hg hmu
    have w3 := hg 49 3 rfl
    have w4 := hg 49 4 rfl
    have w5 := hg 49 5 rfl
    have w6 := hg 49 6 rfl
    have w7 := hg 49 7 rfl
    have w8 := hg 49 8 rfl
    have gw : MOK g := by omega
    have pi := pt_r (W := (h 49 3)) (H := (h 49 4)) (K := (h 49 5)) (E := (h 49 6)) (x0 := (100 * h 60 m.toNat)) (y0 := (100 * h 61 m.toNat)) (x1 := (100 * h 60 (m.toNat + 1))) (y1 := (100 * h 61 (m.toNat + 1))) (p := p) (i := i) (by omega) (by omega) (by omega) (by omega) (by omega) (by omega) (by omega) (by omega) hi
    have sr : ∀ j : Nat, (j : Int) < p → (siF (h 49 5) (h 49 3) (h 49 6) (100 * h 60 m.toNat) (100 * h 61 m.toNat) (100 * h 60 (m.toNat + 1)) (100 * h 61 (m.toNat + 1)) p) j ≤ 602019800 := fun j hj => by
      have p1 := pt_r (W := (h 49 3)) (H := (h 49 4)) (K := (h 49 5)) (E := (h 49 6)) (x0 := (100 * h 60 m.toNat)) (y0 := (100 * h 61 m.toNat)) (x1 := (100 * h 60 (m.toNat + 1))) (y1 := (100 * h 61 (m.toNat + 1))) (p := p) (i := j) (by omega) (by omega) (by omega) (by omega) (by omega) (by omega) (by omega) (by omega) (by omega)
      have p2 := pt_r (W := (h 49 3)) (H := (h 49 4)) (K := (h 49 5)) (E := (h 49 6)) (x0 := (100 * h 60 m.toNat)) (y0 := (100 * h 61 m.toNat)) (x1 := (100 * h 60 (m.toNat + 1))) (y1 := (100 * h 61 (m.toNat + 1))) (p := p) (i := j + 1) (by omega) (by omega) (by omega) (by omega) (by omega) (by omega) (by omega) (by omega) (by omega)
      exact (strF_r (by omega) (by omega) (by omega) p1.1 p1.2.1 p2.1 p2.2.1 (by omega) (by omega) (by omega) (by omega)).2
    have m0 := mxN_nn (siF (h 49 5) (h 49 3) (h 49 6) (100 * h 60 m.toNat) (100 * h 61 m.toNat) (100 * h 60 (m.toNat + 1)) (100 * h 61 (m.toNat + 1)) p) i
    have m1 := mxN_le (f := (siF (h 49 5) (h 49 3) (h 49 6) (100 * h 60 m.toNat) (100 * h 61 m.toNat) (100 * h 60 (m.toNat + 1)) (100 * h 61 (m.toNat + 1)) p)) (B := 602019800) (by decide) i (fun j hj => sr j (by omega))
    refine r_iload dX12_straysIn_76 rfl ?_
    refine r_iload_n dX12_straysIn_78 rfl rfl ?_
    refine r_icmp_gt (tgt := 184) dX12_straysIn_79 rfl (by omega) (by omega) (fun c_79 => ?_) (fun c_79 => ?_)
    · refine r_iload dX12_straysIn_184 rfl ?_
      refine r_iret dX12_straysIn_186 rfl ?_
      have e9 : p.toNat = i := by omega
      unfold sinF at k
      rw [e9] at k
      exact ⟨_, rfl, eqP (k g hg) hmo.symm⟩
    · have pj := pt_r (W := (h 49 3)) (H := (h 49 4)) (K := (h 49 5)) (E := (h 49 6)) (x0 := (100 * h 60 m.toNat)) (y0 := (100 * h 61 m.toNat)) (x1 := (100 * h 60 (m.toNat + 1))) (y1 := (100 * h 61 (m.toNat + 1))) (p := p) (i := i + 1) (by omega) (by omega) (by omega) (by omega) (by omega) (by omega) (by omega) (by omega) (by omega)
      have n1 := mulS (a := (100 * h 60 (m.toNat + 1)) - (100 * h 60 m.toNat)) (b := (i : Int) + 1) (A := 20000) (B := 64) (by omega) (by omega)
      have n2 := mulS (a := (100 * h 61 (m.toNat + 1)) - (100 * h 61 m.toNat)) (b := (i : Int) + 1) (A := 20000) (B := 64) (by omega) (by omega)
      have eb1 : (100 * h 60 m.toNat) + (((100 * h 60 (m.toNat + 1)) - (100 * h 60 m.toNat)) * ((i : Int) + 1)).tdiv p = btF (100 * h 60 m.toNat) (100 * h 60 (m.toNat + 1)) ((i + 1 : Nat) : Int) p := by
        unfold btF
        rw [if_pos (by omega), Int.mul_comm ((100 * h 60 (m.toNat + 1)) - (100 * h 60 m.toNat))]
        rfl
      have eb2 : (100 * h 61 m.toNat) + (((100 * h 61 (m.toNat + 1)) - (100 * h 61 m.toNat)) * ((i : Int) + 1)).tdiv p = btF (100 * h 61 m.toNat) (100 * h 61 (m.toNat + 1)) ((i + 1 : Nat) : Int) p := by
        unfold btF
        rw [if_pos (by omega), Int.mul_comm ((100 * h 61 (m.toNat + 1)) - (100 * h 61 m.toNat))]
        rfl
      have sn := sr i (by omega)
      have s0 : 0 ≤ (siF (h 49 5) (h 49 3) (h 49 6) (100 * h 60 m.toNat) (100 * h 61 m.toNat) (100 * h 60 (m.toNat + 1)) (100 * h 61 (m.toNat + 1)) p) i := (strF_r (by omega) (by omega) (by omega) pi.1 pi.2.1 pj.1 pj.2.1 (by omega) (by omega) (by omega) (by omega)).1
      refine r_iload_n dX12_straysIn_82 rfl rfl ?_
      refine r_iload dX12_straysIn_83 rfl ?_
      refine r_iload dX12_straysIn_85 rfl ?_
      refine r_imul dX12_straysIn_87 ?_
      refine r_iload_n dX12_straysIn_88 rfl rfl ?_
      refine r_idiv dX12_straysIn_89 (by omega) (by omega) (by omega) ?_
      refine r_iadd dX12_straysIn_90 ?_
      refine r_eqI eb1 ?_
      refine r_istore (L' := [_, _, _, _, _, _, _, _, _, _, _, _, _, _, _, _]) dX12_straysIn_91 rfl (by decide) rfl ?_
      refine r_iload dX12_straysIn_93 rfl ?_
      refine r_iload dX12_straysIn_95 rfl ?_
      refine r_iload dX12_straysIn_97 rfl ?_
      refine r_imul dX12_straysIn_99 ?_
      refine r_iload_n dX12_straysIn_100 rfl rfl ?_
      refine r_idiv dX12_straysIn_101 (by omega) (by omega) (by omega) ?_
      refine r_iadd dX12_straysIn_102 ?_
      refine r_eqI eb2 ?_
      refine r_istore (L' := [_, _, _, _, _, _, _, _, _, _, _, _, _, _, _, _]) dX12_straysIn_103 rfl (by decide) rfl ?_
      refine r_aload_n dX12_straysIn_105 rfl rfl ?_
      refine r_iload dX12_straysIn_106 rfl ?_
      refine r_iload dX12_straysIn_108 rfl ?_
      refine r_callVI (av := [_, _]) (M' := mX12_leftOf) dX12_straysIn_110 vX12_leftOf ml_X12_188 sh_49 (by decide) rfl rfl rfl rfl (by simp [wtA]) (sp_X12_leftOf (by omega) (by omega) (by omega) (by omega) ?_)
      refine r_eqI (y := ptL (h 49 5) (h 49 6) (100 * h 60 m.toNat) (100 * h 61 m.toNat) (100 * h 60 (m.toNat + 1)) (100 * h 61 (m.toNat + 1)) p (i + 1)) (by rw [w5, w6]; rfl) ?_
      refine r_istore (L' := [_, _, _, _, _, _, _, _, _, _, _, _, _, _, _, _]) dX12_straysIn_113 rfl (by decide) rfl ?_
      refine r_aload_n dX12_straysIn_115 rfl rfl ?_
      refine r_iload dX12_straysIn_116 rfl ?_
      refine r_iload dX12_straysIn_118 rfl ?_
      refine r_callVI (av := [_, _]) (M' := mX12_rightOf) dX12_straysIn_120 vX12_rightOf ml_X12_191 sh_49 (by decide) rfl rfl rfl rfl (by simp [wtA]) (sp_X12_rightOf (by omega) (by omega) (by omega) (by omega) ?_)
      refine r_eqI (y := ptR (h 49 3) (h 49 5) (h 49 6) (100 * h 60 m.toNat) (100 * h 61 m.toNat) (100 * h 60 (m.toNat + 1)) (100 * h 61 (m.toNat + 1)) p (i + 1)) (by rw [w3, w5, w6]; rfl) ?_
      refine r_istore (L' := [_, _, _, _, _, _, _, _, _, _, _, _, _, _, _, _]) dX12_straysIn_123 rfl (by decide) rfl ?_
      refine r_aload_n dX12_straysIn_125 rfl rfl ?_
      refine r_iload dX12_straysIn_126 rfl ?_
      refine r_iload dX12_straysIn_128 rfl ?_
      refine r_iload dX12_straysIn_130 rfl ?_
      refine r_iload dX12_straysIn_132 rfl ?_
      refine r_callVU (av := [_, _, _, _]) (M' := mX12_layWay) dX12_straysIn_134 vX12_layWay ml_X12_380 sh_49 (by decide) rfl rfl rfl rfl (by simp [wtA]) (sp_X12_layWay (by omega) (by omega) (by omega) (by omega) (by omega) ?_)
      refine r_gh (fun w ew => ?_)
      have fw : FrM h w := by rw [ew]; exact ((((hg.up rfl).up rfl).up rfl).up rfl).up rfl
      have c3 : w 49 3 = g 49 3 := by rw [ew]; rfl
      have c4 : w 49 4 = g 49 4 := by rw [ew]; rfl
      have c5 : w 49 5 = g 49 5 := by rw [ew]; rfl
      have c6 : w 49 6 = g 49 6 := by rw [ew]; rfl
      have c7 : w 49 7 = g 49 7 := by rw [ew]; rfl
      have c8 : w 49 8 = g 49 8 := by rw [ew]; rfl
      have b42 : w 49 42 = l := by rw [ew]; rfl
      have b43 : w 49 43 = r := by rw [ew]; rfl
      have b44 : w 49 44 = (ptL (h 49 5) (h 49 6) (100 * h 60 m.toNat) (100 * h 61 m.toNat) (100 * h 60 (m.toNat + 1)) (100 * h 61 (m.toNat + 1)) p (i + 1)) - l := by rw [ew]; rfl
      have b45 : w 49 45 = (ptR (h 49 3) (h 49 5) (h 49 6) (100 * h 60 m.toNat) (100 * h 61 m.toNat) (100 * h 60 (m.toNat + 1)) (100 * h 61 (m.toNat + 1)) p (i + 1)) - r := by rw [ew]; rfl
      have b46 : w 49 46 = tkN l r (ptL (h 49 5) (h 49 6) (100 * h 60 m.toNat) (100 * h 61 m.toNat) (100 * h 60 (m.toNat + 1)) (100 * h 61 (m.toNat + 1)) p (i + 1)) (ptR (h 49 3) (h 49 5) (h 49 6) (100 * h 60 m.toNat) (100 * h 61 m.toNat) (100 * h 60 (m.toNat + 1)) (100 * h 61 (m.toNat + 1)) p (i + 1)) := by rw [ew]; rfl
      have mw : MOK w := by omega
      refine r_aload_n dX12_straysIn_137 rfl rfl ?_
      refine r_iload_n dX12_straysIn_138 rfl rfl ?_
      refine r_i2l dX12_straysIn_139 (by omega) ?_
      refine r_iload dX12_straysIn_140 rfl ?_
      refine r_i2l dX12_straysIn_142 (by omega) ?_
      refine r_iload dX12_straysIn_143 rfl ?_
      refine r_i2l dX12_straysIn_145 (by omega) ?_
      refine r_iload dX12_straysIn_146 rfl ?_
      refine r_i2l dX12_straysIn_148 (by omega) ?_
      refine r_callVI (av := [_, _, _, _]) (M' := mX12_strays) dX12_straysIn_149 vX12_strays ml_X12_384 sh_49 (by decide) rfl rfl rfl rfl (by simp [wtA]) (sp_X12_strays (by omega) (by omega) b42 b43 b44 b45 b46 (by omega) (by omega) (by omega) (by omega) (by omega) (by omega) (by omega) (by omega) ?_)
      refine r_eqI (y := (siF (h 49 5) (h 49 3) (h 49 6) (100 * h 60 m.toNat) (100 * h 61 m.toNat) (100 * h 60 (m.toNat + 1)) (100 * h 61 (m.toNat + 1)) p) i) (by unfold siF; rw [c3, c5, c6, w3, w5, w6, hl, hr]) ?_
      refine r_istore (L' := [_, _, _, _, _, _, _, _, _, _, _, _, _, _, _, _]) dX12_straysIn_152 rfl (by decide) rfl ?_
      refine r_iload dX12_straysIn_154 rfl ?_
      refine r_iload dX12_straysIn_156 rfl ?_
      refine r_icmp_le (tgt := 166) dX12_straysIn_158 rfl (by omega) (by omega) (fun c_158 => ?_) (fun c_158 => ?_)
      · refine r_iload dX12_straysIn_166 rfl ?_
        refine r_eqI (y := mxN (siF (h 49 5) (h 49 3) (h 49 6) (100 * h 60 m.toNat) (100 * h 61 m.toNat) (100 * h 60 (m.toNat + 1)) (100 * h 61 (m.toNat + 1)) p) (i + 1)) (by rw [mxN]; omega) ?_
        refine r_istore (L' := [_, _, _, _, _, _, _, _, _, _, _, _, _, _, _, _]) dX12_straysIn_168 rfl (by decide) rfl ?_
        refine r_iload dX12_straysIn_170 rfl ?_
        refine r_istore (L' := [_, _, _, _, _, _, _, _, _, _, _, _, _, _, _, _]) dX12_straysIn_172 rfl (by decide) rfl ?_
        refine r_iload dX12_straysIn_174 rfl ?_
        refine r_istore (L' := [_, _, _, _, _, _, _, _, _, _, _, _, _, _, _, _]) dX12_straysIn_176 rfl (by decide) rfl ?_
        refine r_iinc (L' := [_, _, _, _, _, _, _, _, _, _, _, _, _, _, _, _]) dX12_straysIn_178 rfl rfl (by decide) rfl ?_
        refine r_goto (tgt := 76) dX12_straysIn_181 rfl ?_
        rw [show (i : Int) + 1 + 1 = ((i + 1 : Nat) : Int) + 1 by omega]
        exact ih (i + 1) _ _ _ _ _ _ _ _ _ (by omega) rfl rfl rfl fw (by omega)
      · refine r_iload dX12_straysIn_161 rfl ?_
        refine r_goto (tgt := 168) dX12_straysIn_163 rfl ?_
        refine r_eqI (y := mxN (siF (h 49 5) (h 49 3) (h 49 6) (100 * h 60 m.toNat) (100 * h 61 m.toNat) (100 * h 60 (m.toNat + 1)) (100 * h 61 (m.toNat + 1)) p) (i + 1)) (by rw [mxN]; omega) ?_
        refine r_istore (L' := [_, _, _, _, _, _, _, _, _, _, _, _, _, _, _, _]) dX12_straysIn_168 rfl (by decide) rfl ?_
        refine r_iload dX12_straysIn_170 rfl ?_
        refine r_istore (L' := [_, _, _, _, _, _, _, _, _, _, _, _, _, _, _, _]) dX12_straysIn_172 rfl (by decide) rfl ?_
        refine r_iload dX12_straysIn_174 rfl ?_
        refine r_istore (L' := [_, _, _, _, _, _, _, _, _, _, _, _, _, _, _, _]) dX12_straysIn_176 rfl (by decide) rfl ?_
        refine r_iinc (L' := [_, _, _, _, _, _, _, _, _, _, _, _, _, _, _, _]) dX12_straysIn_178 rfl rfl (by decide) rfl ?_
        refine r_goto (tgt := 76) dX12_straysIn_181 rfl ?_
        rw [show (i : Int) + 1 + 1 = ((i + 1 : Nat) : Int) + 1 by omega]
        exact ih (i + 1) _ _ _ _ _ _ _ _ _ (by omega) rfl rfl rfl fw (by omega)
set_option maxRecDepth 20000 in
set_option maxHeartbeats 400000 in
theorem sp_X12_straysIn {d : Nat} (hd : 6 ≤ d) {m p : Int} {h : Hp}  (hw : MOK h) (hm : 0 ≤ m ∧ m ≤ 149) (hp : 1 ≤ p ∧ p ≤ 64) (q0 : 0 ≤ h 60 m.toNat ∧ h 60 m.toNat ≤ (h 49 3) ∧ 0 ≤ h 61 m.toNat ∧ h 61 m.toNat ≤ (h 49 4)) (q1 : 0 ≤ h 60 (m.toNat + 1) ∧ h 60 (m.toNat + 1) ≤ (h 49 3) ∧ 0 ≤ h 61 (m.toNat + 1) ∧ h 61 (m.toNat + 1) ≤ (h 49 4)) {P : Int → Hp → Prop} (k : ∀ h' : Hp, (FrM h h') → P (sinF (h 49 5) (h 49 3) (h 49 6) (100 * h 60 m.toNat) (100 * h 61 m.toNat) (100 * h 60 (m.toNat + 1)) (100 * h 61 (m.toNat + 1)) p) h') : Cl d mX12_straysIn [.inr (.inr 49), .inl m, .inl p] h (pI P) := by
  refine Cl.of (L := [some (.inr (.inr 49)), some (.inl m), some (.inl p), none, none, none, none, none, none, none, none, none, none, none, none, none]) (by decide +kernel) (Nat.le_of_ble_eq_true rfl) rfl ?_
  obtain ⟨d, rfl⟩ : ∃ q, d = q + 1 := ⟨d - 1, by omega⟩
  have e1 : (m + 1).toNat = m.toNat + 1 := by omega
  refine r_bipush dX12_straysIn_0 (by decide +kernel) ?_
  refine r_aload_n dX12_straysIn_2 rfl rfl ?_
  refine r_getR dX12_straysIn_3 fl_X12_59 sh_49 rfl ?_
  refine r_iload_n dX12_straysIn_6 rfl rfl ?_
  refine r_iald dX12_straysIn_7 sh_60 (by decide) (by omega) ?_
  refine r_imul dX12_straysIn_8 ?_
  refine r_istore_n (L' := [_, _, _, _, _, _, _, _, _, _, _, _, _, _, _, _]) dX12_straysIn_9 rfl rfl (by decide) rfl ?_
  refine r_bipush dX12_straysIn_10 (by decide +kernel) ?_
  refine r_aload_n dX12_straysIn_12 rfl rfl ?_
  refine r_getR dX12_straysIn_13 fl_X12_62 sh_49 rfl ?_
  refine r_iload_n dX12_straysIn_16 rfl rfl ?_
  refine r_iald dX12_straysIn_17 sh_61 (by decide) (by omega) ?_
  refine r_imul dX12_straysIn_18 ?_
  refine r_istore (L' := [_, _, _, _, _, _, _, _, _, _, _, _, _, _, _, _]) dX12_straysIn_19 rfl (by decide) rfl ?_
  refine r_bipush dX12_straysIn_21 (by decide +kernel) ?_
  refine r_aload_n dX12_straysIn_23 rfl rfl ?_
  refine r_getR dX12_straysIn_24 fl_X12_59 sh_49 rfl ?_
  refine r_iload_n dX12_straysIn_27 rfl rfl ?_
  refine r_iconst dX12_straysIn_28 ?_
  refine r_iadd dX12_straysIn_29 ?_
  refine r_iald dX12_straysIn_30 sh_60 (by decide) (by omega) ?_
  refine r_imul dX12_straysIn_31 ?_
  refine r_iload_n dX12_straysIn_32 rfl rfl ?_
  refine r_isub dX12_straysIn_33 ?_
  rw [e1]
  refine r_istore (L' := [_, _, _, _, _, _, _, _, _, _, _, _, _, _, _, _]) dX12_straysIn_34 rfl (by decide) rfl ?_
  refine r_bipush dX12_straysIn_36 (by decide +kernel) ?_
  refine r_aload_n dX12_straysIn_38 rfl rfl ?_
  refine r_getR dX12_straysIn_39 fl_X12_62 sh_49 rfl ?_
  refine r_iload_n dX12_straysIn_42 rfl rfl ?_
  refine r_iconst dX12_straysIn_43 ?_
  refine r_iadd dX12_straysIn_44 ?_
  refine r_iald dX12_straysIn_45 sh_61 (by decide) (by omega) ?_
  refine r_imul dX12_straysIn_46 ?_
  refine r_iload dX12_straysIn_47 rfl ?_
  refine r_isub dX12_straysIn_49 ?_
  rw [e1]
  refine r_istore (L' := [_, _, _, _, _, _, _, _, _, _, _, _, _, _, _, _]) dX12_straysIn_50 rfl (by decide) rfl ?_
  refine r_iconst dX12_straysIn_52 ?_
  refine r_istore (L' := [_, _, _, _, _, _, _, _, _, _, _, _, _, _, _, _]) dX12_straysIn_53 rfl (by decide) rfl ?_
  refine r_aload_n dX12_straysIn_55 rfl rfl ?_
  refine r_iload_n dX12_straysIn_56 rfl rfl ?_
  refine r_iload dX12_straysIn_57 rfl ?_
  refine r_callVI (av := [_, _]) (M' := mX12_leftOf) dX12_straysIn_59 vX12_leftOf ml_X12_188 sh_49 (by decide) rfl rfl rfl rfl (by simp [wtA]) (sp_X12_leftOf (by omega) (by omega) (by omega) (by omega) ?_)
  refine r_istore (L' := [_, _, _, _, _, _, _, _, _, _, _, _, _, _, _, _]) dX12_straysIn_62 rfl (by decide) rfl ?_
  refine r_aload_n dX12_straysIn_64 rfl rfl ?_
  refine r_iload_n dX12_straysIn_65 rfl rfl ?_
  refine r_iload dX12_straysIn_66 rfl ?_
  refine r_callVI (av := [_, _]) (M' := mX12_rightOf) dX12_straysIn_68 vX12_rightOf ml_X12_191 sh_49 (by decide) rfl rfl rfl rfl (by simp [wtA]) (sp_X12_rightOf (by omega) (by omega) (by omega) (by omega) ?_)
  refine r_istore (L' := [_, _, _, _, _, _, _, _, _, _, _, _, _, _, _, _]) dX12_straysIn_71 rfl (by decide) rfl ?_
  refine r_iconst dX12_straysIn_73 ?_
  refine r_istore (L' := [_, _, _, _, _, _, _, _, _, _, _, _, _, _, _, _]) dX12_straysIn_74 rfl (by decide) rfl ?_
  exact lp_straysIn (by omega) hw hm hp q0 q1 k 65 0 _ _ _ h _ _ _ _ _ (by omega) (by unfold ptL; rw [Int.natCast_zero, btF_0, btF_0]) (by unfold ptR; rw [Int.natCast_zero, btF_0, btF_0]) rfl FrM.rf (by omega)
set_option maxRecDepth 20000 in
set_option maxHeartbeats 400000 in
theorem lp_mparts {d : Nat} (hd : 6 ≤ d) {P : Int → Hp → Prop} {h : Hp} {m e : Int} (hw : MOK h) (hm : 0 ≤ m ∧ m ≤ 149) (he : 0 ≤ e ∧ e ≤ 2147483647) (q0 : 0 ≤ h 60 m.toNat ∧ h 60 m.toNat ≤ (h 49 3) ∧ 0 ≤ h 61 m.toNat ∧ h 61 m.toNat ≤ (h 49 4)) (q1 : 0 ≤ h 60 (m.toNat + 1) ∧ h 60 (m.toNat + 1) ≤ (h 49 3) ∧ 0 ≤ h 61 (m.toNat + 1) ∧ h 61 (m.toNat + 1) ≤ (h 49 4)) : ∀ (nn : Nat) (n p : Nat) (g : Hp), (p + n = 65 ∧ 1 ≤ p) → (FrM h g) → (∀ g2 : Hp, FrM h g2 → P (frs (h 49 5) (h 49 3) (h 49 6) (100 * h 60 m.toNat) (100 * h 61 m.toNat) (100 * h 60 (m.toNat + 1)) (100 * h 61 (m.toNat + 1)) e p n) g2) → n < nn → WW mX12_parts (d + 1) (pI P) 21 [some (.inr (.inr 49)), some (.inl m), some (.inl e), some (.inl (p : Int))] [] g := by
  intro nn
  induction nn with
  | zero => intro n p g hp hg k; intros; omega
  | succ nn ih =>
    intro n p g hp hg k hmu
    have w3 := hg 49 3 rfl
    have w4 := hg 49 4 rfl
    have w5 := hg 49 5 rfl
    have w6 := hg 49 6 rfl
    have w7 := hg 49 7 rfl
    have w8 := hg 49 8 rfl
    have gw : MOK g := by omega
    have z60 : g 60 = h 60 := funext fun j => hg 60 j rfl
    have z61 : g 61 = h 61 := funext fun j => hg 61 j rfl
    refine r_iload_n dX12_parts_21 rfl rfl ?_
    refine r_bipush dX12_parts_22 (by decide +kernel) ?_
    refine r_icmp_gt (tgt := 45) dX12_parts_24 rfl (by omega) ⟨by decide, by decide⟩ (fun c_24 => ?_) (fun c_24 => ?_)
    · refine r_iconst dX12_parts_45 ?_
      refine r_iret dX12_parts_46 rfl ?_
      have n0 : n = 0 := by omega
      subst n0
      exact ⟨_, rfl, k g hg⟩
    · refine r_aload_n dX12_parts_27 rfl rfl ?_
      refine r_iload_n dX12_parts_28 rfl rfl ?_
      refine r_iload_n dX12_parts_29 rfl rfl ?_
      refine r_callVI (av := [_, _]) (M' := mX12_straysIn) dX12_parts_30 vX12_straysIn ml_X12_388 sh_49 (by decide) rfl rfl rfl rfl (by simp [wtA]) (sp_X12_straysIn (by omega) (by omega) (by omega) (by omega) (by rw [z60, z61, w3, w4]; exact q0) (by rw [z60, z61, w3, w4]; exact q1) (fun h_30 f0_30 => ?_))
      rw [z60, z61, w3, w5, w6]
      have sb : 0 ≤ sinF (h 49 5) (h 49 3) (h 49 6) (100 * h 60 m.toNat) (100 * h 61 m.toNat) (100 * h 60 (m.toNat + 1)) (100 * h 61 (m.toNat + 1)) p ∧ sinF (h 49 5) (h 49 3) (h 49 6) (100 * h 60 m.toNat) (100 * h 61 m.toNat) (100 * h 60 (m.toNat + 1)) (100 * h 61 (m.toNat + 1)) p ≤ 602019800 := by
        refine ⟨mxN_nn _ _, mxN_le (by decide) _ (fun j hj => ?_)⟩
        have p1 := pt_r (W := (h 49 3)) (H := (h 49 4)) (K := (h 49 5)) (E := (h 49 6)) (x0 := (100 * h 60 m.toNat)) (y0 := (100 * h 61 m.toNat)) (x1 := (100 * h 60 (m.toNat + 1))) (y1 := (100 * h 61 (m.toNat + 1))) (p := p) (i := j) (by omega) (by omega) (by omega) (by omega) (by omega) (by omega) (by omega) (by omega) (by omega)
        have p2 := pt_r (W := (h 49 3)) (H := (h 49 4)) (K := (h 49 5)) (E := (h 49 6)) (x0 := (100 * h 60 m.toNat)) (y0 := (100 * h 61 m.toNat)) (x1 := (100 * h 60 (m.toNat + 1))) (y1 := (100 * h 61 (m.toNat + 1))) (p := p) (i := j + 1) (by omega) (by omega) (by omega) (by omega) (by omega) (by omega) (by omega) (by omega) (by omega)
        exact (strF_r (by omega) (by omega) (by omega) p1.1 p1.2.1 p2.1 p2.2.1 (by omega) (by omega) (by omega) (by omega)).2
      refine r_iload_n dX12_parts_33 rfl rfl ?_
      refine r_icmp_gt (tgt := 39) dX12_parts_34 rfl (by omega) (by omega) (fun c_34 => ?_) (fun c_34 => ?_)
      · refine r_iinc (L' := [_, _, _, _]) dX12_parts_39 rfl rfl (by decide) rfl ?_
        refine r_goto (tgt := 21) dX12_parts_42 rfl ?_
        obtain ⟨n, rfl⟩ : ∃ q, n = q + 1 := ⟨n - 1, by omega⟩
        rw [frs, if_neg (by omega)] at k
        exact ih n (p + 1) _ (by omega) (hg.tr f0_30) k (by omega)
      · refine r_iload_n dX12_parts_37 rfl rfl ?_
        refine r_iret dX12_parts_38 rfl ?_
        obtain ⟨n, rfl⟩ : ∃ q, n = q + 1 := ⟨n - 1, by omega⟩
        rw [frs, if_pos (by omega)] at k
        exact ⟨_, rfl, k _ (hg.tr f0_30)⟩
set_option maxRecDepth 20000 in
set_option maxHeartbeats 400000 in
theorem sp_X12_parts {d : Nat} (hd : 7 ≤ d) {m e : Int} {h : Hp}  (hw : MOK h) (hm : R32 m) (he : R32 e) (hn : 0 ≤ (h 49 29) ∧ (h 49 29) ≤ 150) (hxy : MXY (h 49 3) (h 49 4) (h 60) (h 61) 0 (h 49 29)) {P : Int → Hp → Prop} (k : ∀ h' : Hp, (FrM h h') → P (if (0 ≤ m ∧ m < (h 49 29)) ∧ 0 ≤ e then frs (h 49 5) (h 49 3) (h 49 6) (100 * h 60 m.toNat) (100 * h 61 m.toNat) (100 * h 60 (m.toNat + 1)) (100 * h 61 (m.toNat + 1)) e 1 64 else -1) h') : Cl d mX12_parts [.inr (.inr 49), .inl m, .inl e] h (pI P) := by
  refine Cl.of (L := [some (.inr (.inr 49)), some (.inl m), some (.inl e), none]) (by decide +kernel) (Nat.le_of_ble_eq_true rfl) rfl ?_
  obtain ⟨d, rfl⟩ : ∃ q, d = q + 1 := ⟨d - 1, by omega⟩
  refine r_aload_n dX12_parts_0 rfl rfl ?_
  refine r_iconst dX12_parts_1 ?_
  refine r_putI dX12_parts_2 fl_X12_127 sh_49 rfl ?_
  refine r_gh (fun g eg => ?_)
  have f : FrM h g := by rw [eg]; exact FrM.rf.up rfl
  have e3 : g 49 3 = h 49 3 := f 49 3 rfl
  have e4 : g 49 4 = h 49 4 := f 49 4 rfl
  have e5 : g 49 5 = h 49 5 := f 49 5 rfl
  have e6 : g 49 6 = h 49 6 := f 49 6 rfl
  have e7 : g 49 7 = h 49 7 := f 49 7 rfl
  have e8 : g 49 8 = h 49 8 := f 49 8 rfl
  have e29 : g 49 29 = h 49 29 := f 49 29 rfl
  have ea60 : g 60 = h 60 := funext fun j => f 60 j rfl
  have ea61 : g 61 = h 61 := funext fun j => f 61 j rfl
  have w : MOK g := by omega
  rw [← e3, ← e4, ← e29, ← ea60, ← ea61] at hxy
  rw [← e29] at hn
  rw [← e3, ← e5, ← e6, ← e29, ← ea60, ← ea61] at k
  refine r_aload_n dX12_parts_5 rfl rfl ?_
  refine r_iload_n dX12_parts_6 rfl rfl ?_
  refine r_callVI (av := [_]) (M' := mX12_isMove) dX12_parts_7 vX12_isMove ml_X12_350 sh_49 (by decide) rfl rfl rfl rfl (by simp [wtA]) (sp_X12_isMove (by omega) (by omega) (by omega) (fun b_7 => ?_) (fun b_7 => ?_))
  · refine r_if_eq (tgt := 17) dX12_parts_10 rfl ⟨by decide, by decide⟩ (fun c_10 => absurd c_10 (by decide)) (fun c_10 => ?_)
    refine r_iload_n dX12_parts_13 rfl rfl ?_
    refine r_if_ge (tgt := 19) dX12_parts_14 rfl (by omega) (fun c_14 => ?_) (fun c_14 => ?_)
    · refine r_iconst dX12_parts_19 ?_
      refine r_istore_n (L' := [_, _, _, _]) dX12_parts_20 rfl rfl (by decide) rfl ?_
      have x0 := hxy m.toNat (by omega)
      have x1 := hxy (m.toNat + 1) (by omega)
      rw [Nat.zero_add] at x0 x1
      rw [if_pos (by omega)] at k
      exact lp_mparts (h := g) (by omega) w (by omega) (by omega) x0 x1 65 64 1 g (by decide) FrM.rf (fun g2 f2 => k g2 (f.tr f2)) (by decide)
    · refine r_iconst dX12_parts_17 ?_
      refine r_iret dX12_parts_18 rfl ?_
      refine ⟨_, rfl, eqP (k g f) ?_⟩
      rw [if_neg (by omega)]
  · refine r_if_eq (tgt := 17) dX12_parts_10 rfl ⟨by decide, by decide⟩ (fun c_10 => ?_) (fun c_10 => absurd c_10 (by decide))
    refine r_iconst dX12_parts_17 ?_
    refine r_iret dX12_parts_18 rfl ?_
    refine ⟨_, rfl, eqP (k g f) ?_⟩
    rw [if_neg (by omega)]
set_option maxRecDepth 20000 in
set_option maxHeartbeats 400000 in
theorem lp_mskip1 {d : Nat} (hd : 4 ≤ d) {post : Pst} {h : Hp} {v m s0 l r l2 r2 : Int} (hw : MOK h) (a1 : (h 49 42) = l) (a2 : (h 49 43) = r) (a3 : (h 49 44) = l2 - l) (a4 : (h 49 45) = r2 - r) (a5 : (h 49 46) = tkN l r l2 r2) (hl : 0 ≤ l ∧ l ≤ 5660) (hr : 0 ≤ r ∧ r ≤ 5660) (hl2 : 0 ≤ l2 ∧ l2 ≤ 5660) (hr2 : 0 ≤ r2 ∧ r2 ≤ 5660) (hv : 0 ≤ v ∧ v ≤ 2147483647) (K : ∀ o : Option AV, WW mX12_skips (d + 1) post 127 [some (.inr (.inr 49)), some (.inl v), some (.inl (s0 + sumN (skT (h 49 5) (h 49 3) (h 49 6) v l r l2 r2 (tkN l r l2 r2)) (tkN l r l2 r2).toNat)), some (.inl m), o] [] h) : ∀ (nn : Nat) (i : Nat) (s : Int), ((i : Int) ≤ tkN l r l2 r2) → (s = s0 + sumN (skT (h 49 5) (h 49 3) (h 49 6) v l r l2 r2 (tkN l r l2 r2)) i) → (tkN l r l2 r2).toNat - i < nn → WW mX12_skips (d + 1) post 68 [some (.inr (.inr 49)), some (.inl v), some (.inl s), some (.inl m), some (.inl ((i : Int) + 1))] [] h := by
  intro nn
  induction nn with
  | zero => intro i s hi hs; intros; omega
  | succ nn ih =>
    intro i s hi hs hmu
    have tk : 0 ≤ tkN l r l2 r2 ∧ tkN l r l2 r2 ≤ 5660 := by unfold tkN; omega
    have ei : (i : Int) + 1 - 1 = i := by omega
    refine r_iload dX12_skips_68 rfl ?_
    refine r_aload_n dX12_skips_70 rfl rfl ?_
    refine r_getI dX12_skips_71 fl_X12_371 sh_49 rfl ?_
    refine r_icmp_gt (tgt := 127) dX12_skips_74 rfl (by omega) (by omega) (fun c_74 => ?_) (fun c_74 => ?_)
    · have e9 : (tkN l r l2 r2).toNat = i := by omega
      rw [e9, ← hs] at K
      exact K _
    · have b1 := btF_rB (f := l) (l := l2) (i := i) (n := tkN l r l2 r2) hl hl2 (by omega)
      have b2 := btF_rB (f := r) (l := r2) (i := i) (n := tkN l r l2 r2) hr hr2 (by omega)
      have b3 := btF_rB (f := l) (l := l2) (i := (i : Int) + 1) (n := tkN l r l2 r2) hl hl2 (by omega)
      have b4 := btF_rB (f := r) (l := r2) (i := (i : Int) + 1) (n := tkN l r l2 r2) hr hr2 (by omega)
      have y1 : l + (l2 - l) = l2 := by omega
      have y2 : r + (r2 - r) = r2 := by omega
      have df := dfF_r (K := (h 49 5)) (W := (h 49 3)) (E := (h 49 6)) (l := btF l l2 i (tkN l r l2 r2)) (r := btF r r2 i (tkN l r l2 r2)) (l2 := btF l l2 ((i : Int) + 1) (tkN l r l2 r2)) (r2 := btF r r2 ((i : Int) + 1) (tkN l r l2 r2)) (by omega) (by omega) (by omega) (by omega) (by omega) (by omega) (by omega)
      refine r_iload_n dX12_skips_77 rfl rfl ?_
      refine r_aload_n dX12_skips_78 rfl rfl ?_
      refine r_aload_n dX12_skips_79 rfl rfl ?_
      refine r_iload dX12_skips_80 rfl ?_
      refine r_iconst dX12_skips_82 ?_
      refine r_isub dX12_skips_83 ?_
      rw [ei]
      refine r_callVI (av := [_]) (M' := mX12_wayLeft) dX12_skips_84 vX12_wayLeft ml_X12_374 sh_49 (by decide) rfl rfl rfl rfl (by simp [wtA]) (sp_X12_wayLeft (by omega) (by omega) (by omega) (by omega) (by omega) ?_)
      refine r_eqI (y := btF l l2 i (tkN l r l2 r2)) (by rw [a1, a3, a5, y1]) ?_
      refine r_aload_n dX12_skips_87 rfl rfl ?_
      refine r_iload dX12_skips_88 rfl ?_
      refine r_iconst dX12_skips_90 ?_
      refine r_isub dX12_skips_91 ?_
      rw [ei]
      refine r_callVI (av := [_]) (M' := mX12_wayRight) dX12_skips_92 vX12_wayRight ml_X12_377 sh_49 (by decide) rfl rfl rfl rfl (by simp [wtA]) (sp_X12_wayRight (by omega) (by omega) (by omega) (by omega) (by omega) ?_)
      refine r_eqI (y := btF r r2 i (tkN l r l2 r2)) (by rw [a2, a4, a5, y2]) ?_
      refine r_aload_n dX12_skips_95 rfl rfl ?_
      refine r_iload dX12_skips_96 rfl ?_
      refine r_callVI (av := [_]) (M' := mX12_wayLeft) dX12_skips_98 vX12_wayLeft ml_X12_374 sh_49 (by decide) rfl rfl rfl rfl (by simp [wtA]) (sp_X12_wayLeft (by omega) (by omega) (by omega) (by omega) (by omega) ?_)
      refine r_eqI (y := btF l l2 ((i : Int) + 1) (tkN l r l2 r2)) (by rw [a1, a3, a5, y1]) ?_
      refine r_aload_n dX12_skips_101 rfl rfl ?_
      refine r_iload dX12_skips_102 rfl ?_
      refine r_callVI (av := [_]) (M' := mX12_wayRight) dX12_skips_104 vX12_wayRight ml_X12_377 sh_49 (by decide) rfl rfl rfl rfl (by simp [wtA]) (sp_X12_wayRight (by omega) (by omega) (by omega) (by omega) (by omega) ?_)
      refine r_eqI (y := btF r r2 ((i : Int) + 1) (tkN l r l2 r2)) (by rw [a2, a4, a5, y2]) ?_
      refine r_callVI (av := [_, _, _, _]) (M' := mX12_differs) dX12_skips_107 vX12_differs ml_X12_202 sh_49 (by decide) rfl rfl rfl rfl (by simp [wtA]) (sp_X12_differs (by omega) (by omega) (by omega) (by omega) (by omega) (by omega) ?_)
      refine r_iload_n dX12_skips_110 rfl rfl ?_
      refine r_icmp_le (tgt := 118) dX12_skips_111 rfl (by omega) (by omega) (fun c_111 => ?_) (fun c_111 => ?_)
      · refine r_iconst dX12_skips_118 ?_
        refine r_iadd dX12_skips_119 ?_
        refine r_nmI (fun s2 e_s2 => ?_)
        refine r_istore_n (L' := [_, _, _, _, _]) dX12_skips_120 rfl rfl (by decide) rfl ?_
        refine r_iinc (L' := [_, _, _, _, _]) dX12_skips_121 rfl rfl (by decide) rfl ?_
        refine r_goto (tgt := 68) dX12_skips_124 rfl ?_
        rw [show (i : Int) + 1 + 1 = ((i + 1 : Nat) : Int) + 1 by omega]
        refine ih (i + 1) _ (by omega) ?_ (by omega)
        show _ = s0 + (sumN (skT (h 49 5) (h 49 3) (h 49 6) v l r l2 r2 (tkN l r l2 r2)) i + (skT (h 49 5) (h 49 3) (h 49 6) v l r l2 r2 (tkN l r l2 r2)) i)
        have et : (skT (h 49 5) (h 49 3) (h 49 6) v l r l2 r2 (tkN l r l2 r2)) i = if v < dfF (h 49 5) (h 49 3) (h 49 6) (btF l l2 i (tkN l r l2 r2)) (btF r r2 i (tkN l r l2 r2)) (btF l l2 ((i : Int) + 1) (tkN l r l2 r2)) (btF r r2 ((i : Int) + 1) (tkN l r l2 r2)) then 1 else 0 := rfl
        rw [et]
        first
          | (rw [if_pos (by omega)]; omega)
          | (rw [if_neg (by omega)]; omega)
      · refine r_iconst dX12_skips_114 ?_
        refine r_goto (tgt := 119) dX12_skips_115 rfl ?_
        refine r_iadd dX12_skips_119 ?_
        refine r_nmI (fun s2 e_s2 => ?_)
        refine r_istore_n (L' := [_, _, _, _, _]) dX12_skips_120 rfl rfl (by decide) rfl ?_
        refine r_iinc (L' := [_, _, _, _, _]) dX12_skips_121 rfl rfl (by decide) rfl ?_
        refine r_goto (tgt := 68) dX12_skips_124 rfl ?_
        rw [show (i : Int) + 1 + 1 = ((i + 1 : Nat) : Int) + 1 by omega]
        refine ih (i + 1) _ (by omega) ?_ (by omega)
        show _ = s0 + (sumN (skT (h 49 5) (h 49 3) (h 49 6) v l r l2 r2 (tkN l r l2 r2)) i + (skT (h 49 5) (h 49 3) (h 49 6) v l r l2 r2 (tkN l r l2 r2)) i)
        have et : (skT (h 49 5) (h 49 3) (h 49 6) v l r l2 r2 (tkN l r l2 r2)) i = if v < dfF (h 49 5) (h 49 3) (h 49 6) (btF l l2 i (tkN l r l2 r2)) (btF r r2 i (tkN l r l2 r2)) (btF l l2 ((i : Int) + 1) (tkN l r l2 r2)) (btF r r2 ((i : Int) + 1) (tkN l r l2 r2)) then 1 else 0 := rfl
        rw [et]
        first
          | (rw [if_pos (by omega)]; omega)
          | (rw [if_neg (by omega)]; omega)
set_option maxRecDepth 20000 in
set_option maxHeartbeats 400000 in
theorem lp_mskips {d : Nat} (hd : 4 ≤ d) {P : Int → Hp → Prop} {h : Hp} {v : Int} (hw : MOK h) (hv : 0 ≤ v ∧ v ≤ 2147483647) (hn : 0 ≤ (h 49 29) ∧ (h 49 29) ≤ 150) (hxy : MXY (h 49 3) (h 49 4) (h 60) (h 61) 0 (h 49 29)) (hdn : ∀ p : Nat, (p : Int) ≤ (h 49 29) → h 62 p = 0 ∨ h 62 p = 1) (k : ∀ g : Hp, FrM h g → P (sumN (skA (h 49 5) (h 49 3) (h 49 6) v (mL (h 49 5) (h 49 6) (h 60) (h 61)) (mR (h 49 3) (h 49 5) (h 49 6) (h 60) (h 61)) (h 62)) (h 49 29).toNat) g) : ∀ (nn : Nat) (i : Nat) (s : Int) (g : Hp) (o : Option AV), ((i : Int) ≤ (h 49 29)) → (s = sumN (skA (h 49 5) (h 49 3) (h 49 6) v (mL (h 49 5) (h 49 6) (h 60) (h 61)) (mR (h 49 3) (h 49 5) (h 49 6) (h 60) (h 61)) (h 62)) i) → (FrM h g) → (h 49 29).toNat - i < nn → WW mX12_skips (d + 1) (pI P) 15 [some (.inr (.inr 49)), some (.inl v), some (.inl s), some (.inl (i : Int)), o] [] g := by
  intro nn
  induction nn with
  | zero => intro i s g o hi hs hg; intros; omega
  | succ nn ih =>
    intro i s g o hi hs hg hmu
    have w3 := hg 49 3 rfl
    have w4 := hg 49 4 rfl
    have w5 := hg 49 5 rfl
    have w6 := hg 49 6 rfl
    have w7 := hg 49 7 rfl
    have w8 := hg 49 8 rfl
    have w29 := hg 49 29 rfl
    have gw : MOK g := by omega
    have e1 : ((i : Int) + 1).toNat = i + 1 := by omega
    have e0 : ((i : Int)).toNat = i := Int.toNat_natCast i
    have z60 : g 60 = h 60 := funext fun j => hg 60 j rfl
    have z61 : g 61 = h 61 := funext fun j => hg 61 j rfl
    have z62 : g 62 = h 62 := funext fun j => hg 62 j rfl
    have hq := hxy.lr (K := (h 49 5)) (E := (h 49 6)) (by omega) (by omega) (by omega) (by omega)
    have b0 := sumN_r (f := (skA (h 49 5) (h 49 3) (h 49 6) v (mL (h 49 5) (h 49 6) (h 60) (h 61)) (mR (h 49 3) (h 49 5) (h 49 6) (h 60) (h 61)) (h 62))) (B := 5660) i (fun j hj => skA_r hq (by omega))
    rw [← w3, ← w5, ← w6, ← z60, ← z61] at hq
    rw [← w3, ← w4, ← w29, ← z60, ← z61] at hxy
    refine r_iload_n dX12_skips_15 rfl rfl ?_
    refine r_aload_n dX12_skips_16 rfl rfl ?_
    refine r_getI dX12_skips_17 fl_X12_164 sh_49 rfl ?_
    refine r_icmp_ge (tgt := 133) dX12_skips_20 rfl (by omega) (by omega) (fun c_20 => ?_) (fun c_20 => ?_)
    · refine r_iload_n dX12_skips_133 rfl rfl ?_
      refine r_iret dX12_skips_134 rfl ?_
      have e9 : (h 49 29).toNat = i := by omega
      rw [e9] at k
      exact ⟨_, rfl, eqP (k g hg) hs.symm⟩
    · have hdz := hdn (i + 1) (by omega)
      rw [← e1, ← z62] at hdz
      have x0 := hxy i (by omega)
      have x1 := hxy (i + 1) (by omega)
      rw [Nat.zero_add] at x0 x1
      have q0 := hq i (by omega)
      have q1 := hq (i + 1) (by omega)
      rw [← e0] at x0 q0
      rw [← e1] at x1 q1
      refine r_aload_n dX12_skips_23 rfl rfl ?_
      refine r_getR dX12_skips_24 fl_X12_65 sh_49 rfl ?_
      refine r_iload_n dX12_skips_27 rfl rfl ?_
      refine r_iconst dX12_skips_28 ?_
      refine r_iadd dX12_skips_29 ?_
      refine r_zald dX12_skips_30 sh_62 (by decide) (by omega) ?_
      refine r_if_ne (tgt := 37) dX12_skips_31 rfl (by omega) (fun c_31 => ?_) (fun c_31 => ?_)
      · refine r_aload_n dX12_skips_37 rfl rfl ?_
        refine r_aload_n dX12_skips_38 rfl rfl ?_
        refine r_iload_n dX12_skips_39 rfl rfl ?_
        refine r_callVI (av := [_]) (M' := mX12_leftAt) dX12_skips_40 vX12_leftAt ml_X12_344 sh_49 (by decide) rfl rfl rfl rfl (by simp [wtA]) (sp_X12_leftAt (by omega) (by omega) (by omega) (by omega) (by omega) ?_)
        refine r_aload_n dX12_skips_43 rfl rfl ?_
        refine r_iload_n dX12_skips_44 rfl rfl ?_
        refine r_callVI (av := [_]) (M' := mX12_rightAt) dX12_skips_45 vX12_rightAt ml_X12_347 sh_49 (by decide) rfl rfl rfl rfl (by simp [wtA]) (sp_X12_rightAt (by omega) (by omega) (by omega) (by omega) (by omega) ?_)
        refine r_aload_n dX12_skips_48 rfl rfl ?_
        refine r_iload_n dX12_skips_49 rfl rfl ?_
        refine r_iconst dX12_skips_50 ?_
        refine r_iadd dX12_skips_51 ?_
        refine r_callVI (av := [_]) (M' := mX12_leftAt) dX12_skips_52 vX12_leftAt ml_X12_344 sh_49 (by decide) rfl rfl rfl rfl (by simp [wtA]) (sp_X12_leftAt (by omega) (by omega) (by omega) (by omega) (by omega) ?_)
        refine r_aload_n dX12_skips_55 rfl rfl ?_
        refine r_iload_n dX12_skips_56 rfl rfl ?_
        refine r_iconst dX12_skips_57 ?_
        refine r_iadd dX12_skips_58 ?_
        refine r_callVI (av := [_]) (M' := mX12_rightAt) dX12_skips_59 vX12_rightAt ml_X12_347 sh_49 (by decide) rfl rfl rfl rfl (by simp [wtA]) (sp_X12_rightAt (by omega) (by omega) (by omega) (by omega) (by omega) ?_)
        refine r_callVU (av := [_, _, _, _]) (M' := mX12_layWay) dX12_skips_62 vX12_layWay ml_X12_380 sh_49 (by decide) rfl rfl rfl rfl (by simp [wtA]) (sp_X12_layWay (by omega) (by omega) (by omega) (by omega) (by omega) ?_)
        refine r_iconst dX12_skips_65 ?_
        refine r_istore (L' := [_, _, _, _, _]) dX12_skips_66 rfl (by decide) rfl ?_
        refine r_gh (fun w ew => ?_)
        have fw : FrM h w := by rw [ew]; exact ((((hg.up rfl).up rfl).up rfl).up rfl).up rfl
        have c3 : w 49 3 = g 49 3 := by rw [ew]; rfl
        have c4 : w 49 4 = g 49 4 := by rw [ew]; rfl
        have c5 : w 49 5 = g 49 5 := by rw [ew]; rfl
        have c6 : w 49 6 = g 49 6 := by rw [ew]; rfl
        have c7 : w 49 7 = g 49 7 := by rw [ew]; rfl
        have c8 : w 49 8 = g 49 8 := by rw [ew]; rfl
        have c29 : w 49 29 = g 49 29 := by rw [ew]; rfl
        have b42 : w 49 42 = (mL (g 49 5) (g 49 6) (g 60) (g 61) ((i : Int)).toNat) := by rw [ew]; rfl
        have b43 : w 49 43 = (mR (g 49 3) (g 49 5) (g 49 6) (g 60) (g 61) ((i : Int)).toNat) := by rw [ew]; rfl
        have b44 : w 49 44 = (mL (g 49 5) (g 49 6) (g 60) (g 61) ((i : Int) + 1).toNat) - (mL (g 49 5) (g 49 6) (g 60) (g 61) ((i : Int)).toNat) := by rw [ew]; rfl
        have b45 : w 49 45 = (mR (g 49 3) (g 49 5) (g 49 6) (g 60) (g 61) ((i : Int) + 1).toNat) - (mR (g 49 3) (g 49 5) (g 49 6) (g 60) (g 61) ((i : Int)).toNat) := by rw [ew]; rfl
        have b46 : w 49 46 = tkN (mL (g 49 5) (g 49 6) (g 60) (g 61) ((i : Int)).toNat) (mR (g 49 3) (g 49 5) (g 49 6) (g 60) (g 61) ((i : Int)).toNat) (mL (g 49 5) (g 49 6) (g 60) (g 61) ((i : Int) + 1).toNat) (mR (g 49 3) (g 49 5) (g 49 6) (g 60) (g 61) ((i : Int) + 1).toNat) := by rw [ew]; rfl
        have mw : MOK w := by omega
        refine lp_mskip1 (s0 := s) hd mw b42 b43 b44 b45 b46 (by omega) (by omega) (by omega) (by omega) hv (fun o2 => ?_) 5662 0 s (by unfold tkN; omega) (by rw [sumN]; omega) (by unfold tkN; omega)
        refine r_iinc (L' := [_, _, _, _, _]) dX12_skips_127 rfl rfl (by decide) rfl ?_
        refine r_goto (tgt := 15) dX12_skips_130 rfl ?_
        refine ih (i + 1) _ w _ (by omega) ?_ fw (by omega)
        have ea : (skA (h 49 5) (h 49 3) (h 49 6) v (mL (h 49 5) (h 49 6) (h 60) (h 61)) (mR (h 49 3) (h 49 5) (h 49 6) (h 60) (h 61)) (h 62)) i = skM (h 49 5) (h 49 3) (h 49 6) v (mL (h 49 5) (h 49 6) (h 60) (h 61)) (mR (h 49 3) (h 49 5) (h 49 6) (h 60) (h 61)) i := by
          unfold skA
          rw [← z62, ← e1]
          exact if_neg (by omega)
        rw [hs, e0, e1, c3, c5, c6, w3, w5, w6, z60, z61]
        show _ = sumN (skA (h 49 5) (h 49 3) (h 49 6) v (mL (h 49 5) (h 49 6) (h 60) (h 61)) (mR (h 49 3) (h 49 5) (h 49 6) (h 60) (h 61)) (h 62)) i + (skA (h 49 5) (h 49 3) (h 49 6) v (mL (h 49 5) (h 49 6) (h 60) (h 61)) (mR (h 49 3) (h 49 5) (h 49 6) (h 60) (h 61)) (h 62)) i
        rw [ea]
        rfl
      · refine r_goto (tgt := 127) dX12_skips_34 rfl ?_
        refine r_iinc (L' := [_, _, _, _, _]) dX12_skips_127 rfl rfl (by decide) rfl ?_
        refine r_goto (tgt := 15) dX12_skips_130 rfl ?_
        refine ih (i + 1) _ _ _ (by omega) ?_ hg (by omega)
        have ea : (skA (h 49 5) (h 49 3) (h 49 6) v (mL (h 49 5) (h 49 6) (h 60) (h 61)) (mR (h 49 3) (h 49 5) (h 49 6) (h 60) (h 61)) (h 62)) i = 0 := by
          unfold skA
          rw [← z62, ← e1]
          exact if_pos (by omega)
        show _ = sumN (skA (h 49 5) (h 49 3) (h 49 6) v (mL (h 49 5) (h 49 6) (h 60) (h 61)) (mR (h 49 3) (h 49 5) (h 49 6) (h 60) (h 61)) (h 62)) i + (skA (h 49 5) (h 49 3) (h 49 6) v (mL (h 49 5) (h 49 6) (h 60) (h 61)) (mR (h 49 3) (h 49 5) (h 49 6) (h 60) (h 61)) (h 62)) i
        rw [ea]
        omega
set_option maxRecDepth 20000 in
set_option maxHeartbeats 400000 in
theorem sp_X12_skips {d : Nat} (hd : 5 ≤ d) {v : Int} {h : Hp}  (hw : MOK h) (hv : R32 v) (hn : 0 ≤ (h 49 29) ∧ (h 49 29) ≤ 150) (hxy : MXY (h 49 3) (h 49 4) (h 60) (h 61) 0 (h 49 29)) (hdn : ∀ p : Nat, (p : Int) ≤ (h 49 29) → h 62 p = 0 ∨ h 62 p = 1) {P : Int → Hp → Prop} (k : ∀ h' : Hp, (FrM h h') → P (if 0 ≤ v then sumN (skA (h 49 5) (h 49 3) (h 49 6) v (mL (h 49 5) (h 49 6) (h 60) (h 61)) (mR (h 49 3) (h 49 5) (h 49 6) (h 60) (h 61)) (h 62)) (h 49 29).toNat else -1) h') : Cl d mX12_skips [.inr (.inr 49), .inl v] h (pI P) := by
  refine Cl.of (L := [some (.inr (.inr 49)), some (.inl v), none, none, none]) (by decide +kernel) (Nat.le_of_ble_eq_true rfl) rfl ?_
  obtain ⟨d, rfl⟩ : ∃ q, d = q + 1 := ⟨d - 1, by omega⟩
  refine r_aload_n dX12_skips_0 rfl rfl ?_
  refine r_iconst dX12_skips_1 ?_
  refine r_putI dX12_skips_2 fl_X12_127 sh_49 rfl ?_
  refine r_gh (fun g eg => ?_)
  have f : FrM h g := by rw [eg]; exact FrM.rf.up rfl
  have e3 : g 49 3 = h 49 3 := f 49 3 rfl
  have e4 : g 49 4 = h 49 4 := f 49 4 rfl
  have e5 : g 49 5 = h 49 5 := f 49 5 rfl
  have e6 : g 49 6 = h 49 6 := f 49 6 rfl
  have e7 : g 49 7 = h 49 7 := f 49 7 rfl
  have e8 : g 49 8 = h 49 8 := f 49 8 rfl
  have e29 : g 49 29 = h 49 29 := f 49 29 rfl
  have ea60 : g 60 = h 60 := funext fun j => f 60 j rfl
  have ea61 : g 61 = h 61 := funext fun j => f 61 j rfl
  have ea62 : g 62 = h 62 := funext fun j => f 62 j rfl
  have w : MOK g := by omega
  rw [← e3, ← e4, ← e29, ← ea60, ← ea61] at hxy
  rw [← e29] at hn
  rw [← e29, ← ea62] at hdn
  rw [← e3, ← e5, ← e6, ← e29, ← ea60, ← ea61, ← ea62] at k
  refine r_iload_n dX12_skips_5 rfl rfl ?_
  refine r_if_ge (tgt := 11) dX12_skips_6 rfl (by omega) (fun c_6 => ?_) (fun c_6 => ?_)
  · refine r_iconst dX12_skips_11 ?_
    refine r_istore_n (L' := [_, _, _, _, _]) dX12_skips_12 rfl rfl (by decide) rfl ?_
    refine r_iconst dX12_skips_13 ?_
    refine r_istore_n (L' := [_, _, _, _, _]) dX12_skips_14 rfl rfl (by decide) rfl ?_
    rw [if_pos (by omega)] at k
    exact lp_mskips (by omega) w (by omega) hn hxy hdn (fun g2 f2 => k g2 (f.tr f2)) 151 0 0 g _ (by omega) rfl FrM.rf (by omega)
  · refine r_iconst dX12_skips_9 ?_
    refine r_iret dX12_skips_10 rfl ?_
    refine ⟨_, rfl, eqP (k g f) ?_⟩
    rw [if_neg (by omega)]
theorem REL.mdn {h : Hp} (r : REL h) : ∀ p : Nat, (p : Int) ≤ h 49 29 → h 62 p = 0 ∨ h 62 p = 1 := fun p hp => by
  have n := r.n
  rw [← (r.tk (i := p) (by omega)).2.2]
  exact r.dn (by omega)
theorem REL.xy {h : Hp} (r : REL h) {p : Nat} (hp : (p : Int) ≤ h 16 0) : h 60 p = h 17 p ∧ h 61 p = h 18 p := by
  have a := r.2.2.2.1.2.2.2 p hp
  rw [Nat.zero_add] at a
  exact ⟨a.2.2.2.2.2.2.2.1, a.2.2.2.2.2.2.2.2.1⟩
theorem pr_sag {d : Nat} (hd : 20 ≤ d) {m : Int} (hm : R32 m) : PR d mX11_sag mX12_sag [.inl m] := by
  intro h r
  have n := r.n
  refine sp_X11_sag (by omega) r.1.1 hm (by omega) r.lr (fun h1 f => ?_)
  have r1 := f.rel r
  have n1 := r1.n
  have w := r1.1
  refine sp_X12_sag (by omega) w.2.1 hm (by omega) r1.mxy (fun h2 f2 => ⟨?_, f2.rel r1⟩)
  have q : ∀ a k, scrC a k = false → h1 a k = h a k := f.1
  rw [← q 16 0 rfl, ← q 1 0 rfl, ← q 1 2 rfl, ← q 1 3 rfl, ← (show h1 20 = h 20 from funext fun j => q 20 j rfl), ← (show h1 21 = h 21 from funext fun j => q 21 j rfl), n1.2.2]
  by_cases C : 0 ≤ m ∧ m < h1 16 0
  · rw [if_pos C, if_pos C]
    have t0 := r1.tk (i := m.toNat) (by omega)
    have t1 := r1.tk (i := m.toNat + 1) (by omega)
    unfold sgF
    rw [t0.1, t0.2.1, t1.1, t1.2.1, w.2.2.1, w.2.2.2.2.1, w.2.2.2.2.2.1]
  · rw [if_neg C, if_neg C]
theorem pr_parts {d : Nat} (hd : 20 ≤ d) {m e : Int} (hm : R32 m) (he : R32 e) : PR d mX11_parts mX12_parts [.inl m, .inl e] := by
  intro h r
  have n := r.n
  refine sp_X11_parts (by omega) r.1.1 hm he (by omega) r.2.2.2.1.2.xy (fun p hp => ⟨(r.2.2.2.1.2.2.2 p hp).2.2.2.2.2.1, (r.2.2.2.1.2.2.2 p hp).2.2.2.2.2.2.1⟩) (fun h1 f => ?_)
  have r1 := f.rel r
  have n1 := r1.n
  have w := r1.1
  refine sp_X12_parts (by omega) w.2.1 hm he (by omega) r1.mxy (fun h2 f2 => ⟨?_, f2.rel r1⟩)
  have q : ∀ a k, scrC a k = false → h1 a k = h a k := f.1
  rw [← q 16 0 rfl, ← q 1 0 rfl, ← q 1 2 rfl, ← q 1 3 rfl, ← (show h1 17 = h 17 from funext fun j => q 17 j rfl), ← (show h1 18 = h 18 from funext fun j => q 18 j rfl), n1.2.2]
  by_cases C : (0 ≤ m ∧ m < h1 16 0) ∧ 0 ≤ e
  · rw [if_pos C, if_pos C]
    have t0 := r1.xy (p := m.toNat) (by omega)
    have t1 := r1.xy (p := m.toNat + 1) (by omega)
    rw [t0.1, t0.2, t1.1, t1.2, w.2.2.1, w.2.2.2.2.1, w.2.2.2.2.2.1]
  · rw [if_neg C, if_neg C]
theorem pr_skips {d : Nat} (hd : 20 ≤ d) {v : Int} (hv : R32 v) : PR d mX11_skips mX12_skips [.inl v] := by
  intro h r
  have n := r.n
  refine sp_X11_skips (by omega) r.1.1 hv (by omega) r.lr (fun p hp => r.dn hp) (fun h1 f => ?_)
  have r1 := f.rel r
  have n1 := r1.n
  have w := r1.1
  refine sp_X12_skips (by omega) w.2.1 hv (by omega) r1.mxy r1.mdn (fun h2 f2 => ⟨?_, f2.rel r1⟩)
  have q : ∀ a k, scrC a k = false → h1 a k = h a k := f.1
  rw [← q 16 0 rfl, ← q 1 0 rfl, ← q 1 2 rfl, ← q 1 3 rfl, ← (show h1 20 = h 20 from funext fun j => q 20 j rfl), ← (show h1 21 = h 21 from funext fun j => q 21 j rfl), ← (show h1 19 = h 19 from funext fun j => q 19 j rfl), n1.2.2]
  split
  · refine sumN_congr _ (fun i hi => ?_)
    have t0 := r1.tk (i := i) (by omega)
    have t1 := r1.tk (i := i + 1) (by omega)
    unfold skA skM tkF
    rw [t0.1, t0.2.1, t1.1, t1.2.1, t1.2.2, w.2.2.1, w.2.2.2.2.1, w.2.2.2.2.2.1]
  · rfl
