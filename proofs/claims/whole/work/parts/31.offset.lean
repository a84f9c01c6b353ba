/-! OFFSET -/
def agI (ax ay : Nat → Int) (x y D : Int) (i : Nat) : Int := if (((ax i - x).natAbs : Int) ≤ D ∧ ((ay i - y).natAbs : Int) ≤ D) then 1 else 0
def agN (ax ay : Nat → Int) (D : Int) (n : Nat) (x y : Int) : Int := sumN (agI ax ay x y D) n
theorem agI_r (ax ay : Nat → Int) (x y D : Int) (i : Nat) : 0 ≤ agI ax ay x y D i ∧ agI ax ay x y D i ≤ 1 := by
  unfold agI
  split <;> omega
theorem agN_r (ax ay : Nat → Int) (D : Int) (n : Nat) (x y : Int) : 0 ≤ agN ax ay D n x y ∧ agN ax ay D n x y ≤ n := cnt_r (fun i => agI_r _ _ _ _ _ _) n
def stp (c : Int → Int → Int) (x y : Int) (s : Int × Int × Int) : Int × Int × Int := if s.1 < c x y then (c x y, x, y) else s
def rwB (c : Int → Int → Int) (x : Int) (s : Int × Int × Int) : Nat → Int × Int × Int
  | 0 => s
  | j + 1 => stp c x ((j : Int) - 20) (rwB c x s j)
def clB (c : Int → Int → Int) (s : Int × Int × Int) : Nat → Int × Int × Int
  | 0 => s
  | i + 1 => rwB c ((i : Int) - 20) (clB c s i) 41
theorem stp_ind {c : Int → Int → Int} {x y : Int} {s s2 : Int × Int × Int} (hc : 0 ≤ c x y) (h1 : s.1 = -1) (h2 : s2.1 = -1) : stp c x y s = stp c x y s2 := by
  unfold stp
  rw [if_pos (by omega), if_pos (by omega)]
theorem rwB_ind {c : Int → Int → Int} {x : Int} {s s2 : Int × Int × Int} (hc : ∀ x y, 0 ≤ c x y) (h1 : s.1 = -1) (h2 : s2.1 = -1) : ∀ j : Nat, rwB c x s (j + 1) = rwB c x s2 (j + 1)
  | 0 => by
    exact stp_ind (hc x _) h1 h2
  | j + 1 => by rw [rwB, rwB_ind hc h1 h2 j, ← rwB]
theorem clB_ind {c : Int → Int → Int} {s s2 : Int × Int × Int} (hc : ∀ x y, 0 ≤ c x y) (h1 : s.1 = -1) (h2 : s2.1 = -1) : ∀ i : Nat, clB c s (i + 1) = clB c s2 (i + 1)
  | 0 => by
    simp only [clB]
    exact rwB_ind hc h1 h2 40
  | i + 1 => by rw [clB, clB_ind hc h1 h2 i, ← clB]
def fnOff (c : Int → Int → Int) (D v : Int) : Int := if (0 ≤ D ∧ D ≤ 99) ∧ (0 ≤ v ∧ v ≤ 2) then (if v = 0 then (clB c (-1, 0, 0) 41).2.1 else if v = 1 then (clB c (-1, 0, 0) 41).2.2 else (clB c (-1, 0, 0) 41).1) else -2147483648
theorem stp_r {c : Int → Int → Int} (hc : ∀ x y, 0 ≤ c x y ∧ c x y ≤ 20) {x y : Int} {s : Int × Int × Int} (hx : -20 ≤ x ∧ x ≤ 20) (hy : -20 ≤ y ∧ y ≤ 20) (h : -1 ≤ s.1 ∧ s.1 ≤ 20 ∧ R32 s.2.1 ∧ R32 s.2.2) : -1 ≤ (stp c x y s).1 ∧ (stp c x y s).1 ≤ 20 ∧ R32 (stp c x y s).2.1 ∧ R32 (stp c x y s).2.2 := by
  unfold stp
  have := hc x y
  split
  · exact ⟨by show -1 ≤ c x y; omega, by show c x y ≤ 20; omega, by show R32 x; omega, by show R32 y; omega⟩
  · exact h
set_option maxRecDepth 20000 in
set_option maxHeartbeats 400000 in
theorem lp_fits {d : Nat} (hd : 1 ≤ d) {P : Int → Hp → Prop} {h : Hp} {x y D : Int} (hx : -20 ≤ x ∧ x ≤ 20) (hy : -20 ≤ y ∧ y ≤ 20) (hD : 0 ≤ D ∧ D ≤ 99) (hn : 0 ≤ (h 45 0) ∧ (h 45 0) ≤ 20) (hr : ∀ i : Nat, (i : Int) < (h 45 0) → -4294967296 ≤ h 46 i ∧ h 46 i ≤ 4294967296 ∧ -4294967296 ≤ h 47 i ∧ h 47 i ≤ 4294967296) (k : P (agN (h 46) (h 47) D (h 45 0).toNat x y) h) : ∀ (nn : Nat) (i : Nat) (s : Int), ((i : Int) ≤ (h 45 0)) → (s = agN (h 46) (h 47) D i x y) → (h 45 0).toNat - i < nn → WW mX4_countFits (d + 1) (pI P) 6 [some (.inr (.inr 45)), some (.inl x), some (.inl y), some (.inl D), some (.inl s), some (.inl (i : Int))] [] h := by
  intro nn
  induction nn with
  | zero => intro i s hi hs; intros; omega
  | succ nn ih =>
    intro i s hi hs hmu
    have e0 : ((i : Int)).toNat = i := Int.toNat_natCast i
    have hb := agN_r (h 46) (h 47) D i x y
    refine r_iload dX4_countFits_6 rfl ?_
    refine r_aload_n dX4_countFits_8 rfl rfl ?_
    refine r_getI dX4_countFits_9 fl_X4_9 sh_45 rfl ?_
    refine r_icmp_ge (tgt := 62) dX4_countFits_12 rfl (by omega) (by omega) (fun c_12 => ?_) (fun c_12 => ?_)
    · refine r_iload dX4_countFits_62 rfl ?_
      refine r_iret dX4_countFits_64 rfl ?_
      have e9 : (h 45 0).toNat = i := by omega
      rw [e9] at k
      exact ⟨_, rfl, eqP k hs.symm⟩
    · have hz := hr i (by omega)
      rw [← e0] at hz
      refine r_aload_n dX4_countFits_15 rfl rfl ?_
      refine r_getR dX4_countFits_16 fl_X4_24 sh_45 rfl ?_
      refine r_iload dX4_countFits_19 rfl ?_
      refine r_lald dX4_countFits_21 sh_46 (by decide) (by omega) ?_
      refine r_iload_n dX4_countFits_22 rfl rfl ?_
      refine r_i2l dX4_countFits_23 (by omega) ?_
      refine r_lsub dX4_countFits_24 ?_
      refine r_callNJ (av := [_]) (M' := mX11_sizeOf) dX4_countFits_25 sX11_sizeOf mn_X4_35 rfl rfl (by simp [wtA]) (sp_X11_sizeOf (by omega) (by omega) ?_)
      refine r_iload_n dX4_countFits_28 rfl rfl ?_
      refine r_i2l dX4_countFits_29 (by omega) ?_
      refine r_lcmp_gt (tgt := 56) dX4_countFits_30 dX4_countFits_31 rfl (by omega) (by omega) (fun c_30 => ?_) (fun c_30 => ?_)
      · refine r_iinc (L' := [_, _, _, _, _, _]) dX4_countFits_56 rfl rfl (by decide) rfl ?_
        refine r_goto (tgt := 6) dX4_countFits_59 rfl ?_
        refine ih (i + 1) _ (by omega) ?_ (by omega)
        unfold agN at hs ⊢
        simp only [sumN]
        rw [e0] at *
        first
          | (have e : agI (h 46) (h 47) x y D i = 1 := if_pos ⟨by omega, by omega⟩
             omega)
          | (have e : agI (h 46) (h 47) x y D i = 0 := if_neg (by omega)
             omega)
      · refine r_aload_n dX4_countFits_34 rfl rfl ?_
        refine r_getR dX4_countFits_35 fl_X4_28 sh_45 rfl ?_
        refine r_iload dX4_countFits_38 rfl ?_
        refine r_lald dX4_countFits_40 sh_47 (by decide) (by omega) ?_
        refine r_iload_n dX4_countFits_41 rfl rfl ?_
        refine r_i2l dX4_countFits_42 (by omega) ?_
        refine r_lsub dX4_countFits_43 ?_
        refine r_callNJ (av := [_]) (M' := mX11_sizeOf) dX4_countFits_44 sX11_sizeOf mn_X4_35 rfl rfl (by simp [wtA]) (sp_X11_sizeOf (by omega) (by omega) ?_)
        refine r_iload_n dX4_countFits_47 rfl rfl ?_
        refine r_i2l dX4_countFits_48 (by omega) ?_
        refine r_lcmp_gt (tgt := 56) dX4_countFits_49 dX4_countFits_50 rfl (by omega) (by omega) (fun c_49 => ?_) (fun c_49 => ?_)
        · refine r_iinc (L' := [_, _, _, _, _, _]) dX4_countFits_56 rfl rfl (by decide) rfl ?_
          refine r_goto (tgt := 6) dX4_countFits_59 rfl ?_
          refine ih (i + 1) _ (by omega) ?_ (by omega)
          unfold agN at hs ⊢
          simp only [sumN]
          rw [e0] at *
          first
            | (have e : agI (h 46) (h 47) x y D i = 1 := if_pos ⟨by omega, by omega⟩
               omega)
            | (have e : agI (h 46) (h 47) x y D i = 0 := if_neg (by omega)
               omega)
        · refine r_iinc (L' := [_, _, _, _, _, _]) dX4_countFits_53 rfl rfl (by decide) rfl ?_
          refine r_iinc (L' := [_, _, _, _, _, _]) dX4_countFits_56 rfl rfl (by decide) rfl ?_
          refine r_goto (tgt := 6) dX4_countFits_59 rfl ?_
          refine ih (i + 1) _ (by omega) ?_ (by omega)
          unfold agN at hs ⊢
          simp only [sumN]
          rw [e0] at *
          first
            | (have e : agI (h 46) (h 47) x y D i = 1 := if_pos ⟨by omega, by omega⟩
               omega)
            | (have e : agI (h 46) (h 47) x y D i = 0 := if_neg (by omega)
               omega)
set_option maxRecDepth 20000 in
set_option maxHeartbeats 400000 in
theorem sp_X4_countFits {d : Nat} (hd : 2 ≤ d) {x y D : Int} {h : Hp}  (hx : -20 ≤ x ∧ x ≤ 20) (hy : -20 ≤ y ∧ y ≤ 20) (hD : 0 ≤ D ∧ D ≤ 99) (hn : 0 ≤ (h 45 0) ∧ (h 45 0) ≤ 20) (hr : ∀ i : Nat, (i : Int) < (h 45 0) → -4294967296 ≤ h 46 i ∧ h 46 i ≤ 4294967296 ∧ -4294967296 ≤ h 47 i ∧ h 47 i ≤ 4294967296) {P : Int → Hp → Prop} (k : P (agN (h 46) (h 47) D (h 45 0).toNat x y) (h)) : Cl d mX4_countFits [.inr (.inr 45), .inl x, .inl y, .inl D] h (pI P) := by
  refine Cl.of (L := [some (.inr (.inr 45)), some (.inl x), some (.inl y), some (.inl D), none, none]) (by decide +kernel) (Nat.le_of_ble_eq_true rfl) rfl ?_
  obtain ⟨d, rfl⟩ : ∃ q, d = q + 1 := ⟨d - 1, by omega⟩
  refine r_iconst dX4_countFits_0 ?_
  refine r_istore (L' := [_, _, _, _, _, _]) dX4_countFits_1 rfl (by decide) rfl ?_
  refine r_iconst dX4_countFits_3 ?_
  refine r_istore (L' := [_, _, _, _, _, _]) dX4_countFits_4 rfl (by decide) rfl ?_
  exact lp_fits (by omega) hx hy hD hn hr k 21 0 0 (by omega) rfl (by omega)
set_option maxRecDepth 20000 in
set_option maxHeartbeats 400000 in
theorem lp_fit1 {d : Nat} (hd : 2 ≤ d) {post : Pst} {h : Hp} {D x : Int} {s0 : Int × Int × Int} (hx : -20 ≤ x ∧ x ≤ 20) (hD : 0 ≤ D ∧ D ≤ 99) (hn : 0 ≤ (h 45 0) ∧ (h 45 0) ≤ 20) (hr : ∀ i : Nat, (i : Int) < (h 45 0) → -4294967296 ≤ h 46 i ∧ h 46 i ≤ 4294967296 ∧ -4294967296 ≤ h 47 i ∧ h 47 i ≤ 4294967296) (K : ∀ (g : Hp) (o o2 : Option AV), (∀ a k, ¬ (a = 45 ∧ (k = 1 ∨ k = 2 ∨ k = 3)) → g a k = h a k) → (g 45 3, g 45 1, g 45 2) = rwB (agN (h 46) (h 47) D (h 45 0).toNat) x s0 41 → (-1 ≤ g 45 3 ∧ g 45 3 ≤ 20) → WW mX4_fit (d + 1) post 63 [some (.inr (.inr 45)), some (.inl D), some (.inl x), o, o2] [] g) : ∀ (nn : Nat) (j : Nat) (y : Int) (g : Hp) (o : Option AV), (j ≤ 41) → (y = (j : Int) - 20) → (∀ a k, ¬ (a = 45 ∧ (k = 1 ∨ k = 2 ∨ k = 3)) → g a k = h a k) → ((g 45 3, g 45 1, g 45 2) = rwB (agN (h 46) (h 47) D (h 45 0).toNat) x s0 j) → (-1 ≤ g 45 3 ∧ g 45 3 ≤ 20) → 41 - j < nn → WW mX4_fit (d + 1) post 17 [some (.inr (.inr 45)), some (.inl D), some (.inl x), some (.inl y), o] [] g := by
  intro nn
  induction nn with
  | zero => intro j y g o hj hy hg hv hb; intros; omega
  | succ nn ih =>
    intro j y g o hj hy hg hv hb hmu
    have wn := hg 45 0 (by decide)
    have w46 : g 46 = h 46 := funext fun j => hg 46 j (by omega)
    have w47 : g 47 = h 47 := funext fun j => hg 47 j (by omega)
    have ar := agN_r (h 46) (h 47) D (h 45 0).toNat x y
    refine r_iload_n dX4_fit_17 rfl rfl ?_
    refine r_bipush dX4_fit_18 (by decide +kernel) ?_
    refine r_icmp_gt (tgt := 63) dX4_fit_20 rfl (by omega) ⟨by decide, by decide⟩ (fun c_20 => ?_) (fun c_20 => ?_)
    · have e0 : j = 41 := by omega
      subst e0
      exact K g _ _ hg hv hb
    · refine r_aload_n dX4_fit_23 rfl rfl ?_
      refine r_iload_n dX4_fit_24 rfl rfl ?_
      refine r_iload_n dX4_fit_25 rfl rfl ?_
      refine r_iload_n dX4_fit_26 rfl rfl ?_
      refine r_callVI (av := [_, _, _]) (M' := mX4_countFits) dX4_fit_27 vX4_countFits ml_X4_31 sh_45 (by decide) rfl rfl rfl rfl (by simp [wtA]) (sp_X4_countFits (by omega) (by omega) (by omega) (by omega) (by omega) (by rw [wn, w46, w47]; exact hr) ?_)
      rw [w46, w47, wn]
      refine r_nmI (fun c e_c => ?_)
      refine r_istore (L' := [_, _, _, _, _]) dX4_fit_30 rfl (by decide) rfl ?_
      refine r_iload dX4_fit_32 rfl ?_
      refine r_aload_n dX4_fit_34 rfl rfl ?_
      refine r_getI dX4_fit_35 fl_X4_21 sh_45 rfl ?_
      refine r_icmp_le (tgt := 57) dX4_fit_38 rfl (by omega) (by omega) (fun c_38 => ?_) (fun c_38 => ?_)
      · refine r_iinc (L' := [_, _, _, _, _]) dX4_fit_57 rfl rfl (by decide) rfl ?_
        refine r_goto (tgt := 17) dX4_fit_60 rfl ?_
        have hv2 := congrArg Prod.fst hv
        have hv2 : g 45 3 = (rwB (agN (h 46) (h 47) D (h 45 0).toNat) x s0 j).1 := hv2
        refine ih (j + 1) _ _ _ (by omega) (by omega) ?_ ?_ ?_ (by omega)
        · intro a q z
          first
            | exact hg a q z
            | (unfold upH
               rw [if_neg (by omega), if_neg (by omega), if_neg (by omega)]
               exact hg a q z)
        · simp only [rwB, stp]
          rw [← hy, ← hv2]
          first
            | (rw [if_pos (by omega), e_c]; rfl)
            | (rw [if_neg (by omega)]; exact hv)
        · first
            | exact hb
            | (show -1 ≤ c ∧ c ≤ 20; omega)
      · refine r_aload_n dX4_fit_41 rfl rfl ?_
        refine r_iload dX4_fit_42 rfl ?_
        refine r_putI dX4_fit_44 fl_X4_21 sh_45 rfl ?_
        refine r_aload_n dX4_fit_47 rfl rfl ?_
        refine r_iload_n dX4_fit_48 rfl rfl ?_
        refine r_putI dX4_fit_49 fl_X4_15 sh_45 rfl ?_
        refine r_aload_n dX4_fit_52 rfl rfl ?_
        refine r_iload_n dX4_fit_53 rfl rfl ?_
        refine r_putI dX4_fit_54 fl_X4_18 sh_45 rfl ?_
        refine r_iinc (L' := [_, _, _, _, _]) dX4_fit_57 rfl rfl (by decide) rfl ?_
        refine r_goto (tgt := 17) dX4_fit_60 rfl ?_
        have hv2 := congrArg Prod.fst hv
        have hv2 : g 45 3 = (rwB (agN (h 46) (h 47) D (h 45 0).toNat) x s0 j).1 := hv2
        refine ih (j + 1) _ _ _ (by omega) (by omega) ?_ ?_ ?_ (by omega)
        · intro a q z
          first
            | exact hg a q z
            | (unfold upH
               rw [if_neg (by omega), if_neg (by omega), if_neg (by omega)]
               exact hg a q z)
        · simp only [rwB, stp]
          rw [← hy, ← hv2]
          first
            | (rw [if_pos (by omega), e_c]; rfl)
            | (rw [if_neg (by omega)]; exact hv)
        · first
            | exact hb
            | (show -1 ≤ c ∧ c ≤ 20; omega)
set_option maxRecDepth 20000 in
set_option maxHeartbeats 400000 in
theorem lp_fit2 {d : Nat} (hd : 2 ≤ d) {P : Hp → Prop} {h : Hp} {D : Int} {s0 : Int × Int × Int} (hD : 0 ≤ D ∧ D ≤ 99) (hn : 0 ≤ (h 45 0) ∧ (h 45 0) ≤ 20) (hr : ∀ i : Nat, (i : Int) < (h 45 0) → -4294967296 ≤ h 46 i ∧ h 46 i ≤ 4294967296 ∧ -4294967296 ≤ h 47 i ∧ h 47 i ≤ 4294967296) (k : ∀ g : Hp, (∀ a k, ¬ (a = 45 ∧ (k = 1 ∨ k = 2 ∨ k = 3)) → g a k = h a k) → (g 45 3, g 45 1, g 45 2) = clB (agN (h 46) (h 47) D (h 45 0).toNat) s0 41 → P g) : ∀ (nn : Nat) (i : Nat) (x : Int) (g : Hp) (o o2 : Option AV), (i ≤ 41) → (x = (i : Int) - 20) → (∀ a k, ¬ (a = 45 ∧ (k = 1 ∨ k = 2 ∨ k = 3)) → g a k = h a k) → ((g 45 3, g 45 1, g 45 2) = clB (agN (h 46) (h 47) D (h 45 0).toNat) s0 i) → (-1 ≤ g 45 3 ∧ g 45 3 ≤ 20) → 41 - i < nn → WW mX4_fit (d + 1) (pV P) 8 [some (.inr (.inr 45)), some (.inl D), some (.inl x), o, o2] [] g := by
  intro nn
  induction nn with
  | zero => intro i x g o o2 hi hx hg hv hb; intros; omega
  | succ nn ih =>
    intro i x g o o2 hi hx hg hv hb hmu
    refine r_iload_n dX4_fit_8 rfl rfl ?_
    refine r_bipush dX4_fit_9 (by decide +kernel) ?_
    refine r_icmp_gt (tgt := 69) dX4_fit_11 rfl (by omega) ⟨by decide, by decide⟩ (fun c_11 => ?_) (fun c_11 => ?_)
    · refine r_vret dX4_fit_69 rfl ?_
      have e0 : i = 41 := by omega
      subst e0
      exact ⟨rfl, k g hg hv⟩
    · refine r_bipush dX4_fit_14 (by decide +kernel) ?_
      refine r_istore_n (L' := [_, _, _, _, _]) dX4_fit_16 rfl rfl (by decide) rfl ?_
      refine lp_fit1 (s0 := clB (agN (h 46) (h 47) D (h 45 0).toNat) s0 i) hd (by omega) hD hn hr (fun g2 o o2 z1 z2 z3 => ?_) 42 0 _ g _ (by omega) (by decide) hg hv hb (by omega)
      refine r_iinc (L' := [_, _, _, _, _]) dX4_fit_63 rfl rfl (by decide) rfl ?_
      refine r_goto (tgt := 8) dX4_fit_66 rfl ?_
      exact ih (i + 1) _ g2 _ _ (by omega) (by omega) z1 (by simp only [clB]; rw [← hx]; exact z2) z3 (by omega)
set_option maxRecDepth 20000 in
set_option maxHeartbeats 400000 in
theorem sp_X4_fit {d : Nat} (hd : 3 ≤ d) {D : Int} {h : Hp}  (hD : 0 ≤ D ∧ D ≤ 99) (hn : 0 ≤ (h 45 0) ∧ (h 45 0) ≤ 20) (hr : ∀ i : Nat, (i : Int) < (h 45 0) → -4294967296 ≤ h 46 i ∧ h 46 i ≤ 4294967296 ∧ -4294967296 ≤ h 47 i ∧ h 47 i ≤ 4294967296) {P : Hp → Prop} (k : ∀ h' : Hp, (∀ a k, ¬ (a = 45 ∧ (k = 1 ∨ k = 2 ∨ k = 3)) → h' a k = h a k) → ((h' 45 3, h' 45 1, h' 45 2) = clB (agN (h 46) (h 47) D (h 45 0).toNat) (-1, 0, 0) 41) → P h') : Cl d mX4_fit [.inr (.inr 45), .inl D] h (pV P) := by
  refine Cl.of (L := [some (.inr (.inr 45)), some (.inl D), none, none, none]) (by decide +kernel) (Nat.le_of_ble_eq_true rfl) rfl ?_
  obtain ⟨d, rfl⟩ : ∃ q, d = q + 1 := ⟨d - 1, by omega⟩
  refine r_aload_n dX4_fit_0 rfl rfl ?_
  refine r_iconst dX4_fit_1 ?_
  refine r_putI dX4_fit_2 fl_X4_21 sh_45 rfl ?_
  refine r_bipush dX4_fit_5 (by decide +kernel) ?_
  refine r_istore_n (L' := [_, _, _, _, _]) dX4_fit_7 rfl rfl (by decide) rfl ?_
  refine lp_fit2 (s0 := (-1, h 45 1, h 45 2)) (by omega) hD hn hr (fun g z1 z2 => k g z1 ?_) 42 0 _ _ _ _ (by omega) (by decide) (fun a q z => by unfold upH; rw [if_neg (by omega)]) rfl ⟨show (-1 : Int) ≤ -1 by decide, show (-1 : Int) ≤ 20 by decide⟩ (by omega)
  rw [z2]
  exact clB_ind (fun x y => (agN_r _ _ _ _ _ _).1) rfl rfl 40
set_option maxRecDepth 20000 in
set_option maxHeartbeats 400000 in
theorem sp_X11_offset {d : Nat} (hd : 4 ≤ d) {D v : Int} {h : Hp}  (hw : WOK h) (hD : R32 D) (hv : R32 v) (hn : 0 ≤ (h 45 0) ∧ (h 45 0) ≤ 20) (hr : ∀ i : Nat, (i : Int) < (h 45 0) → -4294967296 ≤ h 46 i ∧ h 46 i ≤ 4294967296 ∧ -4294967296 ≤ h 47 i ∧ h 47 i ≤ 4294967296) {P : Int → Hp → Prop} (k : ∀ h' : Hp, (FrC h h') → P (fnOff (agN (h 46) (h 47) D (h 45 0).toNat) D v) h') : Cl d mX11_offset [.inr (.inr 0), .inl D, .inl v] h (pI P) := by
  refine Cl.of (L := [some (.inr (.inr 0)), some (.inl D), some (.inl v)]) (by decide +kernel) (Nat.le_of_ble_eq_true rfl) rfl ?_
  obtain ⟨d, rfl⟩ : ∃ q, d = q + 1 := ⟨d - 1, by omega⟩
  refine r_iload_n dX11_offset_0 rfl rfl ?_
  refine r_iconst dX11_offset_1 ?_
  refine r_bipush dX11_offset_2 (by decide +kernel) ?_
  refine r_callSI (av := [_, _, _]) (M' := mX11_isWithin) dX11_offset_4 sX11_isWithin ml_X11_116 rfl rfl (by simp [wtA]) (sp_X11_isWithin (by omega) (by omega) (by omega) (by omega) (fun b_4 => ?_) (fun b_4 => ?_))
  · refine r_if_eq (tgt := 19) dX11_offset_7 rfl ⟨by decide, by decide⟩ (fun c_7 => absurd c_7 (by decide)) (fun c_7 => ?_)
    refine r_iload_n dX11_offset_10 rfl rfl ?_
    refine r_iconst dX11_offset_11 ?_
    refine r_iconst dX11_offset_12 ?_
    refine r_callSI (av := [_, _, _]) (M' := mX11_isWithin) dX11_offset_13 sX11_isWithin ml_X11_116 rfl rfl (by simp [wtA]) (sp_X11_isWithin (by omega) (by omega) (by omega) (by omega) (fun b_13 => ?_) (fun b_13 => ?_))
    · refine r_if_ne (tgt := 22) dX11_offset_16 rfl ⟨by decide, by decide⟩ (fun c_16 => ?_) (fun c_16 => absurd c_16 (by decide))
      refine r_aload_n dX11_offset_22 rfl rfl ?_
      refine r_getR dX11_offset_23 fl_X11_88 sh_0 rfl ?_
      refine r_iload_n dX11_offset_26 rfl rfl ?_
      refine r_callVU (av := [_]) (M' := mX4_fit) dX11_offset_27 vX4_fit ml_X11_307 sh_45 (by decide) rfl rfl rfl rfl (by simp [wtA]) (sp_X4_fit (by omega) (by omega) hn hr (fun h_27 f0_27 f1_27 => ?_))
      have fr : FrC h h_27 := ⟨fun a q z => f0_27 a q (by rintro ⟨rfl, z2⟩; rcases z2 with rfl | rfl | rfl <;> cases z), by rw [f0_27 1 7 (by decide)]; omega⟩
      have k := k _ fr
      unfold fnOff at k
      rw [if_pos (by omega), ← f1_27] at k
      have k : P (if v = 0 then h_27 45 1 else if v = 1 then h_27 45 2 else h_27 45 3) h_27 := k
      refine r_iload_n dX11_offset_30 rfl rfl ?_
      by_cases v0 : v = 0
      · refine r_lookup (off := 25) (tgt := 56) dX11_offset_31 (by decide) (by omega) (by rw [v0]; decide) rfl ?_
        refine r_aload_n dX11_offset_56 rfl rfl ?_
        refine r_getR dX11_offset_57 fl_X11_88 sh_0 rfl ?_
        refine r_getI dX11_offset_60 fl_X11_310 sh_45 rfl ?_
        refine r_iret dX11_offset_63 rfl ?_
        rw [if_pos v0] at k
        exact ⟨_, rfl, k⟩
      by_cases v1 : v = 1
      · refine r_lookup (off := 33) (tgt := 64) dX11_offset_31 (by decide) (by omega) (by rw [v1]; decide) rfl ?_
        refine r_aload_n dX11_offset_64 rfl rfl ?_
        refine r_getR dX11_offset_65 fl_X11_88 sh_0 rfl ?_
        refine r_getI dX11_offset_68 fl_X11_313 sh_45 rfl ?_
        refine r_iret dX11_offset_71 rfl ?_
        rw [if_neg v0, if_pos v1] at k
        exact ⟨_, rfl, k⟩
      · have v2 : v = 2 := by omega
        refine r_lookup (off := 41) (tgt := 72) dX11_offset_31 (by decide) (by omega) (by rw [v2]; decide) rfl ?_
        refine r_aload_n dX11_offset_72 rfl rfl ?_
        refine r_getR dX11_offset_73 fl_X11_88 sh_0 rfl ?_
        refine r_getI dX11_offset_76 fl_X11_316 sh_45 rfl ?_
        refine r_iret dX11_offset_79 rfl ?_
        rw [if_neg v0, if_neg v1] at k
        exact ⟨_, rfl, k⟩
    · refine r_if_ne (tgt := 22) dX11_offset_16 rfl ⟨by decide, by decide⟩ (fun c_16 => absurd c_16 (by decide)) (fun c_16 => ?_)
      refine r_ldc (z := -2147483648) dX11_offset_19 kc_X11_217 (by decide +kernel) ?_
      refine r_iret dX11_offset_21 rfl ?_
      refine ⟨_, rfl, eqP (k h (FrC.rf hw)) ?_⟩
      unfold fnOff
      rw [if_neg (by omega)]
  · refine r_if_eq (tgt := 19) dX11_offset_7 rfl ⟨by decide, by decide⟩ (fun c_7 => ?_) (fun c_7 => absurd c_7 (by decide))
    refine r_ldc (z := -2147483648) dX11_offset_19 kc_X11_217 (by decide +kernel) ?_
    refine r_iret dX11_offset_21 rfl ?_
    refine ⟨_, rfl, eqP (k h (FrC.rf hw)) ?_⟩
    unfold fnOff
    rw [if_neg (by omega)]
