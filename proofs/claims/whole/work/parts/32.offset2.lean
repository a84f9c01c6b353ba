/-! OFFSET, THE MODEL -/
def mkX (f : Nat → Int) (i : Nat) : Int := f (4 * i + 2) - f (4 * i)
def mkY (f : Nat → Int) (i : Nat) : Int := f (4 * i + 3) - f (4 * i + 1)
set_option maxRecDepth 20000 in
set_option maxHeartbeats 400000 in
theorem lp_agree {d : Nat} (hd : 1 ≤ d) {P : Int → Hp → Prop} {h : Hp} {x y D : Int} (hx : -20 ≤ x ∧ x ≤ 20) (hy : -20 ≤ y ∧ y ≤ 20) (hD : 0 ≤ D ∧ D ≤ 99) (hn : 0 ≤ (h 49 60) ∧ (h 49 60) ≤ 20) (hr : ∀ i : Nat, (i : Int) < (h 49 60) → R32 (h 80 (4 * i)) ∧ R32 (h 80 (4 * i + 1)) ∧ R32 (h 80 (4 * i + 2)) ∧ R32 (h 80 (4 * i + 3))) (k : P (agN (mkX (h 80)) (mkY (h 80)) D (h 49 60).toNat x y) h) : ∀ (nn : Nat) (i : Nat) (s : Int) (o o2 : Option AV), ((i : Int) ≤ (h 49 60)) → (s = agN (mkX (h 80)) (mkY (h 80)) D i x y) → (h 49 60).toNat - i < nn → WW mX12_agreeing (d + 1) (pI P) 6 [some (.inr (.inr 49)), some (.inl x), some (.inl y), some (.inl D), some (.inl s), some (.inl (i : Int)), o, none, o2, none] [] h := by
  intro nn
  induction nn with
  | zero => intro i s o o2 hi hs; intros; omega
  | succ nn ih =>
    intro i s o o2 hi hs hmu
    have hb := agN_r (mkX (h 80)) (mkY (h 80)) D i x y
    refine r_iload dX12_agreeing_6 rfl ?_
    refine r_aload_n dX12_agreeing_8 rfl rfl ?_
    refine r_getI dX12_agreeing_9 fl_X12_424 sh_49 rfl ?_
    refine r_icmp_ge (tgt := 123) dX12_agreeing_12 rfl (by omega) (by omega) (fun c_12 => ?_) (fun c_12 => ?_)
    · refine r_iload dX12_agreeing_123 rfl ?_
      refine r_iret dX12_agreeing_125 rfl ?_
      have e9 : (h 49 60).toNat = i := by omega
      rw [e9] at k
      exact ⟨_, rfl, eqP k hs.symm⟩
    · have hz := hr i (by omega)
      rw [show 4 * i = (4 * (i : Int)).toNat by omega, show (4 * (i : Int)).toNat + 1 = (4 * (i : Int) + 1).toNat by omega, show (4 * (i : Int)).toNat + 2 = (4 * (i : Int) + 2).toNat by omega, show (4 * (i : Int)).toNat + 3 = (4 * (i : Int) + 3).toNat by omega] at hz
      refine r_aload_n dX12_agreeing_15 rfl rfl ?_
      refine r_getR dX12_agreeing_16 fl_X12_121 sh_49 rfl ?_
      refine r_iconst dX12_agreeing_19 ?_
      refine r_iload dX12_agreeing_20 rfl ?_
      refine r_imul dX12_agreeing_22 ?_
      refine r_iconst dX12_agreeing_23 ?_
      refine r_iadd dX12_agreeing_24 ?_
      refine r_iald dX12_agreeing_25 sh_80 (by decide) (by omega) ?_
      refine r_i2l dX12_agreeing_26 (by omega) ?_
      refine r_aload_n dX12_agreeing_27 rfl rfl ?_
      refine r_getR dX12_agreeing_28 fl_X12_121 sh_49 rfl ?_
      refine r_iconst dX12_agreeing_31 ?_
      refine r_iload dX12_agreeing_32 rfl ?_
      refine r_imul dX12_agreeing_34 ?_
      refine r_iald dX12_agreeing_35 sh_80 (by decide) (by omega) ?_
      refine r_i2l dX12_agreeing_36 (by omega) ?_
      refine r_lsub dX12_agreeing_37 ?_
      refine r_iload_n dX12_agreeing_38 rfl rfl ?_
      refine r_i2l dX12_agreeing_39 (by omega) ?_
      refine r_lsub dX12_agreeing_40 ?_
      refine r_nmJ (fun x6_41 e_x6_41 => ?_)
      refine r_lstore (L' := [_, _, _, _, _, _, _, _, _, _]) dX12_agreeing_41 rfl (by decide) rfl ?_
      refine r_aload_n dX12_agreeing_43 rfl rfl ?_
      refine r_getR dX12_agreeing_44 fl_X12_121 sh_49 rfl ?_
      refine r_iconst dX12_agreeing_47 ?_
      refine r_iload dX12_agreeing_48 rfl ?_
      refine r_imul dX12_agreeing_50 ?_
      refine r_iconst dX12_agreeing_51 ?_
      refine r_iadd dX12_agreeing_52 ?_
      refine r_iald dX12_agreeing_53 sh_80 (by decide) (by omega) ?_
      refine r_i2l dX12_agreeing_54 (by omega) ?_
      refine r_aload_n dX12_agreeing_55 rfl rfl ?_
      refine r_getR dX12_agreeing_56 fl_X12_121 sh_49 rfl ?_
      refine r_iconst dX12_agreeing_59 ?_
      refine r_iload dX12_agreeing_60 rfl ?_
      refine r_imul dX12_agreeing_62 ?_
      refine r_iconst dX12_agreeing_63 ?_
      refine r_iadd dX12_agreeing_64 ?_
      refine r_iald dX12_agreeing_65 sh_80 (by decide) (by omega) ?_
      refine r_i2l dX12_agreeing_66 (by omega) ?_
      refine r_lsub dX12_agreeing_67 ?_
      refine r_iload_n dX12_agreeing_68 rfl rfl ?_
      refine r_i2l dX12_agreeing_69 (by omega) ?_
      refine r_lsub dX12_agreeing_70 ?_
      refine r_nmJ (fun x8_71 e_x8_71 => ?_)
      refine r_lstore (L' := [_, _, _, _, _, _, _, _, _, _]) dX12_agreeing_71 rfl (by decide) rfl ?_
      refine r_iload dX12_agreeing_73 rfl ?_
      refine r_lload dX12_agreeing_75 rfl ?_
      refine r_iload_n dX12_agreeing_77 rfl rfl ?_
      refine r_i2l dX12_agreeing_78 (by omega) ?_
      refine r_lcmp_gt (tgt := 113) dX12_agreeing_79 dX12_agreeing_80 rfl (by omega) (by omega) (fun c_79 => ?_) (fun c_79 => ?_)
      · refine r_iconst dX12_agreeing_113 ?_
        refine r_iadd dX12_agreeing_114 ?_
        refine r_nmI (fun x4_115 e_x4_115 => ?_)
        refine r_istore (L' := [_, _, _, _, _, _, _, _, _, _]) dX12_agreeing_115 rfl (by decide) rfl ?_
        refine r_iinc (L' := [_, _, _, _, _, _, _, _, _, _]) dX12_agreeing_117 rfl rfl (by decide) rfl ?_
        refine r_goto (tgt := 6) dX12_agreeing_120 rfl ?_
        refine ih (i + 1) _ _ _ (by omega) ?_ (by omega)
        have x1 : mkX (h 80) i = h 80 (4 * (i : Int) + 2).toNat - h 80 (4 * (i : Int)).toNat := by
          unfold mkX
          rw [show (4 * (i : Int) + 2).toNat = 4 * i + 2 by omega, show (4 * (i : Int)).toNat = 4 * i by omega]
        have x2 : mkY (h 80) i = h 80 (4 * (i : Int) + 3).toNat - h 80 (4 * (i : Int) + 1).toNat := by
          unfold mkY
          rw [show (4 * (i : Int) + 3).toNat = 4 * i + 3 by omega, show (4 * (i : Int) + 1).toNat = 4 * i + 1 by omega]
        unfold agN at hs ⊢
        simp only [sumN]
        first
          | (have e : agI (mkX (h 80)) (mkY (h 80)) x y D i = 1 := if_pos ⟨by omega, by omega⟩
             omega)
          | (have e : agI (mkX (h 80)) (mkY (h 80)) x y D i = 0 := if_neg (by omega)
             omega)
      · refine r_lload dX12_agreeing_83 rfl ?_
        refine r_lneg dX12_agreeing_85 ?_
        refine r_iload_n dX12_agreeing_86 rfl rfl ?_
        refine r_i2l dX12_agreeing_87 (by omega) ?_
        refine r_lcmp_gt (tgt := 113) dX12_agreeing_88 dX12_agreeing_89 rfl (by omega) (by omega) (fun c_88 => ?_) (fun c_88 => ?_)
        · refine r_iconst dX12_agreeing_113 ?_
          refine r_iadd dX12_agreeing_114 ?_
          refine r_nmI (fun x4_115 e_x4_115 => ?_)
          refine r_istore (L' := [_, _, _, _, _, _, _, _, _, _]) dX12_agreeing_115 rfl (by decide) rfl ?_
          refine r_iinc (L' := [_, _, _, _, _, _, _, _, _, _]) dX12_agreeing_117 rfl rfl (by decide) rfl ?_
          refine r_goto (tgt := 6) dX12_agreeing_120 rfl ?_
          refine ih (i + 1) _ _ _ (by omega) ?_ (by omega)
          have x1 : mkX (h 80) i = h 80 (4 * (i : Int) + 2).toNat - h 80 (4 * (i : Int)).toNat := by
            unfold mkX
            rw [show (4 * (i : Int) + 2).toNat = 4 * i + 2 by omega, show (4 * (i : Int)).toNat = 4 * i by omega]
          have x2 : mkY (h 80) i = h 80 (4 * (i : Int) + 3).toNat - h 80 (4 * (i : Int) + 1).toNat := by
            unfold mkY
            rw [show (4 * (i : Int) + 3).toNat = 4 * i + 3 by omega, show (4 * (i : Int) + 1).toNat = 4 * i + 1 by omega]
          unfold agN at hs ⊢
          simp only [sumN]
          first
            | (have e : agI (mkX (h 80)) (mkY (h 80)) x y D i = 1 := if_pos ⟨by omega, by omega⟩
               omega)
            | (have e : agI (mkX (h 80)) (mkY (h 80)) x y D i = 0 := if_neg (by omega)
               omega)
        · refine r_lload dX12_agreeing_92 rfl ?_
          refine r_iload_n dX12_agreeing_94 rfl rfl ?_
          refine r_i2l dX12_agreeing_95 (by omega) ?_
          refine r_lcmp_gt (tgt := 113) dX12_agreeing_96 dX12_agreeing_97 rfl (by omega) (by omega) (fun c_96 => ?_) (fun c_96 => ?_)
          · refine r_iconst dX12_agreeing_113 ?_
            refine r_iadd dX12_agreeing_114 ?_
            refine r_nmI (fun x4_115 e_x4_115 => ?_)
            refine r_istore (L' := [_, _, _, _, _, _, _, _, _, _]) dX12_agreeing_115 rfl (by decide) rfl ?_
            refine r_iinc (L' := [_, _, _, _, _, _, _, _, _, _]) dX12_agreeing_117 rfl rfl (by decide) rfl ?_
            refine r_goto (tgt := 6) dX12_agreeing_120 rfl ?_
            refine ih (i + 1) _ _ _ (by omega) ?_ (by omega)
            have x1 : mkX (h 80) i = h 80 (4 * (i : Int) + 2).toNat - h 80 (4 * (i : Int)).toNat := by
              unfold mkX
              rw [show (4 * (i : Int) + 2).toNat = 4 * i + 2 by omega, show (4 * (i : Int)).toNat = 4 * i by omega]
            have x2 : mkY (h 80) i = h 80 (4 * (i : Int) + 3).toNat - h 80 (4 * (i : Int) + 1).toNat := by
              unfold mkY
              rw [show (4 * (i : Int) + 3).toNat = 4 * i + 3 by omega, show (4 * (i : Int) + 1).toNat = 4 * i + 1 by omega]
            unfold agN at hs ⊢
            simp only [sumN]
            first
              | (have e : agI (mkX (h 80)) (mkY (h 80)) x y D i = 1 := if_pos ⟨by omega, by omega⟩
                 omega)
              | (have e : agI (mkX (h 80)) (mkY (h 80)) x y D i = 0 := if_neg (by omega)
                 omega)
          · refine r_lload dX12_agreeing_100 rfl ?_
            refine r_lneg dX12_agreeing_102 ?_
            refine r_iload_n dX12_agreeing_103 rfl rfl ?_
            refine r_i2l dX12_agreeing_104 (by omega) ?_
            refine r_lcmp_gt (tgt := 113) dX12_agreeing_105 dX12_agreeing_106 rfl (by omega) (by omega) (fun c_105 => ?_) (fun c_105 => ?_)
            · refine r_iconst dX12_agreeing_113 ?_
              refine r_iadd dX12_agreeing_114 ?_
              refine r_nmI (fun x4_115 e_x4_115 => ?_)
              refine r_istore (L' := [_, _, _, _, _, _, _, _, _, _]) dX12_agreeing_115 rfl (by decide) rfl ?_
              refine r_iinc (L' := [_, _, _, _, _, _, _, _, _, _]) dX12_agreeing_117 rfl rfl (by decide) rfl ?_
              refine r_goto (tgt := 6) dX12_agreeing_120 rfl ?_
              refine ih (i + 1) _ _ _ (by omega) ?_ (by omega)
              have x1 : mkX (h 80) i = h 80 (4 * (i : Int) + 2).toNat - h 80 (4 * (i : Int)).toNat := by
                unfold mkX
                rw [show (4 * (i : Int) + 2).toNat = 4 * i + 2 by omega, show (4 * (i : Int)).toNat = 4 * i by omega]
              have x2 : mkY (h 80) i = h 80 (4 * (i : Int) + 3).toNat - h 80 (4 * (i : Int) + 1).toNat := by
                unfold mkY
                rw [show (4 * (i : Int) + 3).toNat = 4 * i + 3 by omega, show (4 * (i : Int) + 1).toNat = 4 * i + 1 by omega]
              unfold agN at hs ⊢
              simp only [sumN]
              first
                | (have e : agI (mkX (h 80)) (mkY (h 80)) x y D i = 1 := if_pos ⟨by omega, by omega⟩
                   omega)
                | (have e : agI (mkX (h 80)) (mkY (h 80)) x y D i = 0 := if_neg (by omega)
                   omega)
            · refine r_iconst dX12_agreeing_109 ?_
              refine r_goto (tgt := 114) dX12_agreeing_110 rfl ?_
              refine r_iadd dX12_agreeing_114 ?_
              refine r_nmI (fun x4_115 e_x4_115 => ?_)
              refine r_istore (L' := [_, _, _, _, _, _, _, _, _, _]) dX12_agreeing_115 rfl (by decide) rfl ?_
              refine r_iinc (L' := [_, _, _, _, _, _, _, _, _, _]) dX12_agreeing_117 rfl rfl (by decide) rfl ?_
              refine r_goto (tgt := 6) dX12_agreeing_120 rfl ?_
              refine ih (i + 1) _ _ _ (by omega) ?_ (by omega)
              have x1 : mkX (h 80) i = h 80 (4 * (i : Int) + 2).toNat - h 80 (4 * (i : Int)).toNat := by
                unfold mkX
                rw [show (4 * (i : Int) + 2).toNat = 4 * i + 2 by omega, show (4 * (i : Int)).toNat = 4 * i by omega]
              have x2 : mkY (h 80) i = h 80 (4 * (i : Int) + 3).toNat - h 80 (4 * (i : Int) + 1).toNat := by
                unfold mkY
                rw [show (4 * (i : Int) + 3).toNat = 4 * i + 3 by omega, show (4 * (i : Int) + 1).toNat = 4 * i + 1 by omega]
              unfold agN at hs ⊢
              simp only [sumN]
              first
                | (have e : agI (mkX (h 80)) (mkY (h 80)) x y D i = 1 := if_pos ⟨by omega, by omega⟩
                   omega)
                | (have e : agI (mkX (h 80)) (mkY (h 80)) x y D i = 0 := if_neg (by omega)
                   omega)
set_option maxRecDepth 20000 in
set_option maxHeartbeats 400000 in
theorem sp_X12_agreeing {d : Nat} (hd : 2 ≤ d) {x y D : Int} {h : Hp}  (hx : -20 ≤ x ∧ x ≤ 20) (hy : -20 ≤ y ∧ y ≤ 20) (hD : 0 ≤ D ∧ D ≤ 99) (hn : 0 ≤ (h 49 60) ∧ (h 49 60) ≤ 20) (hr : ∀ i : Nat, (i : Int) < (h 49 60) → R32 (h 80 (4 * i)) ∧ R32 (h 80 (4 * i + 1)) ∧ R32 (h 80 (4 * i + 2)) ∧ R32 (h 80 (4 * i + 3))) {P : Int → Hp → Prop} (k : P (agN (mkX (h 80)) (mkY (h 80)) D (h 49 60).toNat x y) (h)) : Cl d mX12_agreeing [.inr (.inr 49), .inl x, .inl y, .inl D] h (pI P) := by
  refine Cl.of (L := [some (.inr (.inr 49)), some (.inl x), some (.inl y), some (.inl D), none, none, none, none, none, none]) (by decide +kernel) (Nat.le_of_ble_eq_true rfl) rfl ?_
  obtain ⟨d, rfl⟩ : ∃ q, d = q + 1 := ⟨d - 1, by omega⟩
  refine r_iconst dX12_agreeing_0 ?_
  refine r_istore (L' := [_, _, _, _, _, _, _, _, _, _]) dX12_agreeing_1 rfl (by decide) rfl ?_
  refine r_iconst dX12_agreeing_3 ?_
  refine r_istore (L' := [_, _, _, _, _, _, _, _, _, _]) dX12_agreeing_4 rfl (by decide) rfl ?_
  exact lp_agree (by omega) hx hy hD hn hr k 21 0 0 _ _ (by omega) rfl (by omega)
set_option maxRecDepth 20000 in
set_option maxHeartbeats 400000 in
theorem lp_off1 {d : Nat} (hd : 2 ≤ d) {post : Pst} {h : Hp} {D v x : Int} {s0 : Int × Int × Int} (hx : -20 ≤ x ∧ x ≤ 20) (hD : 0 ≤ D ∧ D ≤ 99) (hn : 0 ≤ (h 49 60) ∧ (h 49 60) ≤ 20) (hr : ∀ i : Nat, (i : Int) < (h 49 60) → R32 (h 80 (4 * i)) ∧ R32 (h 80 (4 * i + 1)) ∧ R32 (h 80 (4 * i + 2)) ∧ R32 (h 80 (4 * i + 3))) (K : ∀ (bx by0 bn : Int) (o o2 : Option AV), (bn, bx, by0) = rwB (agN (mkX (h 80)) (mkY (h 80)) D (h 49 60).toNat) x s0 41 → (-1 ≤ bn ∧ bn ≤ 20) → WW mX12_offset (d + 1) post 97 [some (.inr (.inr 49)), some (.inl D), some (.inl v), some (.inl bx), some (.inl by0), some (.inl bn), some (.inl x), o2, o] [] h) : ∀ (nn : Nat) (j : Nat) (y bx by0 bn : Int) (o : Option AV), (j ≤ 41) → (y = (j : Int) - 20) → ((bn, bx, by0) = rwB (agN (mkX (h 80)) (mkY (h 80)) D (h 49 60).toNat) x s0 j) → (-1 ≤ bn ∧ bn ≤ 20) → 41 - j < nn → WW mX12_offset (d + 1) post 52 [some (.inr (.inr 49)), some (.inl D), some (.inl v), some (.inl bx), some (.inl by0), some (.inl bn), some (.inl x), some (.inl y), o] [] h := by
  intro nn
  induction nn with
  | zero => intro j y bx by0 bn o hj hy hv hb; intros; omega
  | succ nn ih =>
    intro j y bx by0 bn o hj hy hv hb hmu
    have ar := agN_r (mkX (h 80)) (mkY (h 80)) D (h 49 60).toNat x y
    refine r_iload dX12_offset_52 rfl ?_
    refine r_bipush dX12_offset_54 (by decide +kernel) ?_
    refine r_icmp_gt (tgt := 97) dX12_offset_56 rfl (by omega) ⟨by decide, by decide⟩ (fun c_56 => ?_) (fun c_56 => ?_)
    · have e0 : j = 41 := by omega
      subst e0
      exact K _ _ _ _ _ hv hb
    · refine r_aload_n dX12_offset_59 rfl rfl ?_
      refine r_iload dX12_offset_60 rfl ?_
      refine r_iload dX12_offset_62 rfl ?_
      refine r_iload_n dX12_offset_64 rfl rfl ?_
      refine r_callVI (av := [_, _, _]) (M' := mX12_agreeing) dX12_offset_65 vX12_agreeing ml_X12_427 sh_49 (by decide) rfl rfl rfl rfl (by simp [wtA]) (sp_X12_agreeing (by omega) (by omega) (by omega) (by omega) hn hr ?_)
      refine r_nmI (fun c e_c => ?_)
      refine r_istore (L' := [_, _, _, _, _, _, _, _, _]) dX12_offset_68 rfl (by decide) rfl ?_
      refine r_iload dX12_offset_70 rfl ?_
      refine r_iload dX12_offset_72 rfl ?_
      refine r_icmp_gt (tgt := 80) dX12_offset_74 rfl (by omega) (by omega) (fun c_74 => ?_) (fun c_74 => ?_)
      · refine r_iload dX12_offset_80 rfl ?_
        refine r_istore (L' := [_, _, _, _, _, _, _, _, _]) dX12_offset_82 rfl (by decide) rfl ?_
        refine r_iload dX12_offset_84 rfl ?_
        refine r_istore_n (L' := [_, _, _, _, _, _, _, _, _]) dX12_offset_86 rfl rfl (by decide) rfl ?_
        refine r_iload dX12_offset_87 rfl ?_
        refine r_istore (L' := [_, _, _, _, _, _, _, _, _]) dX12_offset_89 rfl (by decide) rfl ?_
        refine r_iinc (L' := [_, _, _, _, _, _, _, _, _]) dX12_offset_91 rfl rfl (by decide) rfl ?_
        refine r_goto (tgt := 52) dX12_offset_94 rfl ?_
        have hv2 := congrArg Prod.fst hv
        have hv2 : bn = (rwB (agN (mkX (h 80)) (mkY (h 80)) D (h 49 60).toNat) x s0 j).1 := hv2
        refine ih (j + 1) _ _ _ _ _ (by omega) (by omega) ?_ (by omega) (by omega)
        simp only [rwB, stp]
        rw [← hy, ← hv2]
        first
          | (rw [if_pos (by omega), e_c])
          | (rw [if_neg (by omega)]; exact hv)
      · refine r_goto (tgt := 91) dX12_offset_77 rfl ?_
        refine r_iinc (L' := [_, _, _, _, _, _, _, _, _]) dX12_offset_91 rfl rfl (by decide) rfl ?_
        refine r_goto (tgt := 52) dX12_offset_94 rfl ?_
        have hv2 := congrArg Prod.fst hv
        have hv2 : bn = (rwB (agN (mkX (h 80)) (mkY (h 80)) D (h 49 60).toNat) x s0 j).1 := hv2
        refine ih (j + 1) _ _ _ _ _ (by omega) (by omega) ?_ (by omega) (by omega)
        simp only [rwB, stp]
        rw [← hy, ← hv2]
        first
          | (rw [if_pos (by omega), e_c])
          | (rw [if_neg (by omega)]; exact hv)
set_option maxRecDepth 20000 in
set_option maxHeartbeats 400000 in
theorem lp_off2 {d : Nat} (hd : 2 ≤ d) {P : Int → Hp → Prop} {h : Hp} {D v b0 b1 : Int} (hD : 0 ≤ D ∧ D ≤ 99) (hn : 0 ≤ (h 49 60) ∧ (h 49 60) ≤ 20) (hr : ∀ i : Nat, (i : Int) < (h 49 60) → R32 (h 80 (4 * i)) ∧ R32 (h 80 (4 * i + 1)) ∧ R32 (h 80 (4 * i + 2)) ∧ R32 (h 80 (4 * i + 3))) (hv : 0 ≤ v ∧ v ≤ 2) (k : P (fnOff (agN (mkX (h 80)) (mkY (h 80)) D (h 49 60).toNat) D v) h) : ∀ (nn : Nat) (i : Nat) (x bx by0 bn : Int) (o o2 : Option AV), (i ≤ 41) → (x = (i : Int) - 20) → ((bn, bx, by0) = clB (agN (mkX (h 80)) (mkY (h 80)) D (h 49 60).toNat) (-1, b0, b1) i) → (-1 ≤ bn ∧ bn ≤ 20) → 41 - i < nn → WW mX12_offset (d + 1) (pI P) 41 [some (.inr (.inr 49)), some (.inl D), some (.inl v), some (.inl bx), some (.inl by0), some (.inl bn), some (.inl x), o2, o] [] h := by
  intro nn
  induction nn with
  | zero => intro i x bx by0 bn o o2 hi hx hz hb; intros; omega
  | succ nn ih =>
    intro i x bx by0 bn o o2 hi hx hz hb hmu
    refine r_iload dX12_offset_41 rfl ?_
    refine r_bipush dX12_offset_43 (by decide +kernel) ?_
    refine r_icmp_gt (tgt := 103) dX12_offset_45 rfl (by omega) ⟨by decide, by decide⟩ (fun c_45 => ?_) (fun c_45 => ?_)
    · refine r_iload_n dX12_offset_103 rfl rfl ?_
      refine r_if_ne (tgt := 111) dX12_offset_104 rfl (by omega) (fun c_104 => ?_) (fun c_104 => ?_)
      · refine r_iload_n dX12_offset_111 rfl rfl ?_
        refine r_iconst dX12_offset_112 ?_
        refine r_icmp_ne (tgt := 121) dX12_offset_113 rfl (by omega) ⟨by decide, by decide⟩ (fun c_113 => ?_) (fun c_113 => ?_)
        · refine r_iload dX12_offset_121 rfl ?_
          refine r_iret dX12_offset_123 rfl ?_
          have e0 : i = 41 := by omega
          subst e0
          have e9 : clB (agN (mkX (h 80)) (mkY (h 80)) D (h 49 60).toNat) (-1, b0, b1) 41 = clB (agN (mkX (h 80)) (mkY (h 80)) D (h 49 60).toNat) (-1, 0, 0) 41 := clB_ind (fun x y => (agN_r _ _ _ _ _ _).1) rfl rfl 40
          rw [e9] at hz
          unfold fnOff at k
          rw [if_pos ⟨hD, hv⟩, ← hz] at k
          refine ⟨_, rfl, eqP k ?_⟩
          first
            | exact if_pos (by omega)
            | (rw [if_neg (by omega)]; exact if_pos (by omega))
            | (rw [if_neg (by omega)]; exact if_neg (by omega))
        · refine r_iload dX12_offset_116 rfl ?_
          refine r_goto (tgt := 123) dX12_offset_118 rfl ?_
          refine r_iret dX12_offset_123 rfl ?_
          have e0 : i = 41 := by omega
          subst e0
          have e9 : clB (agN (mkX (h 80)) (mkY (h 80)) D (h 49 60).toNat) (-1, b0, b1) 41 = clB (agN (mkX (h 80)) (mkY (h 80)) D (h 49 60).toNat) (-1, 0, 0) 41 := clB_ind (fun x y => (agN_r _ _ _ _ _ _).1) rfl rfl 40
          rw [e9] at hz
          unfold fnOff at k
          rw [if_pos ⟨hD, hv⟩, ← hz] at k
          refine ⟨_, rfl, eqP k ?_⟩
          first
            | exact if_pos (by omega)
            | (rw [if_neg (by omega)]; exact if_pos (by omega))
            | (rw [if_neg (by omega)]; exact if_neg (by omega))
      · refine r_iload_n dX12_offset_107 rfl rfl ?_
        refine r_goto (tgt := 123) dX12_offset_108 rfl ?_
        refine r_iret dX12_offset_123 rfl ?_
        have e0 : i = 41 := by omega
        subst e0
        have e9 : clB (agN (mkX (h 80)) (mkY (h 80)) D (h 49 60).toNat) (-1, b0, b1) 41 = clB (agN (mkX (h 80)) (mkY (h 80)) D (h 49 60).toNat) (-1, 0, 0) 41 := clB_ind (fun x y => (agN_r _ _ _ _ _ _).1) rfl rfl 40
        rw [e9] at hz
        unfold fnOff at k
        rw [if_pos ⟨hD, hv⟩, ← hz] at k
        refine ⟨_, rfl, eqP k ?_⟩
        first
          | exact if_pos (by omega)
          | (rw [if_neg (by omega)]; exact if_pos (by omega))
          | (rw [if_neg (by omega)]; exact if_neg (by omega))
    · refine r_bipush dX12_offset_48 (by decide +kernel) ?_
      refine r_istore (L' := [_, _, _, _, _, _, _, _, _]) dX12_offset_50 rfl (by decide) rfl ?_
      refine lp_off1 (s0 := clB (agN (mkX (h 80)) (mkY (h 80)) D (h 49 60).toNat) (-1, b0, b1) i) hd (by omega) hD hn hr (fun bx by0 bn o o2 z2 z3 => ?_) 42 0 _ _ _ _ _ (by omega) (by decide) hz hb (by omega)
      refine r_iinc (L' := [_, _, _, _, _, _, _, _, _]) dX12_offset_97 rfl rfl (by decide) rfl ?_
      refine r_goto (tgt := 41) dX12_offset_100 rfl ?_
      exact ih (i + 1) _ _ _ _ _ _ (by omega) (by omega) (by simp only [clB]; rw [← hx]; exact z2) z3 (by omega)
set_option maxRecDepth 20000 in
set_option maxHeartbeats 400000 in
theorem sp_X12_offset {d : Nat} (hd : 4 ≤ d) {D v : Int} {h : Hp}  (hw : MOK h) (hD : R32 D) (hv : R32 v) (hn : 0 ≤ (h 49 60) ∧ (h 49 60) ≤ 20) (hr : ∀ i : Nat, (i : Int) < (h 49 60) → R32 (h 80 (4 * i)) ∧ R32 (h 80 (4 * i + 1)) ∧ R32 (h 80 (4 * i + 2)) ∧ R32 (h 80 (4 * i + 3))) {P : Int → Hp → Prop} (k : ∀ h' : Hp, (FrM h h') → P (fnOff (agN (mkX (h 80)) (mkY (h 80)) D (h 49 60).toNat) D v) h') : Cl d mX12_offset [.inr (.inr 49), .inl D, .inl v] h (pI P) := by
  refine Cl.of (L := [some (.inr (.inr 49)), some (.inl D), some (.inl v), none, none, none, none, none, none]) (by decide +kernel) (Nat.le_of_ble_eq_true rfl) rfl ?_
  obtain ⟨d, rfl⟩ : ∃ q, d = q + 1 := ⟨d - 1, by omega⟩
  refine r_aload_n dX12_offset_0 rfl rfl ?_
  refine r_iconst dX12_offset_1 ?_
  refine r_putI dX12_offset_2 fl_X12_127 sh_49 rfl ?_
  refine r_gh (fun g eg => ?_)
  have f : FrM h g := by rw [eg]; exact FrM.rf.up rfl
  have e3 : g 49 3 = h 49 3 := f 49 3 rfl
  have e4 : g 49 4 = h 49 4 := f 49 4 rfl
  have e5 : g 49 5 = h 49 5 := f 49 5 rfl
  have e6 : g 49 6 = h 49 6 := f 49 6 rfl
  have e7 : g 49 7 = h 49 7 := f 49 7 rfl
  have e8 : g 49 8 = h 49 8 := f 49 8 rfl
  have e60 : g 49 60 = h 49 60 := f 49 60 rfl
  have ea80 : g 80 = h 80 := funext fun j => f 80 j rfl
  have k := k g f
  try simp only [← e3, ← e4, ← e5, ← e6, ← e7, ← e8, ← e60, ← ea80] at k
  have w : MOK g := by omega
  rw [← e60] at hn hr
  rw [← ea80] at hr
  refine r_iload_n dX12_offset_5 rfl rfl ?_
  refine r_iconst dX12_offset_6 ?_
  refine r_bipush dX12_offset_7 (by decide +kernel) ?_
  refine r_callSI (av := [_, _, _]) (M' := mX12_isIn) dX12_offset_9 sX12_isIn ml_X12_160 rfl rfl (by simp [wtA]) (sp_X12_isIn (by omega) (by omega) (by omega) (by omega) (fun b_9 => ?_) (fun b_9 => ?_))
  · refine r_if_eq (tgt := 24) dX12_offset_12 rfl ⟨by decide, by decide⟩ (fun c_12 => absurd c_12 (by decide)) (fun c_12 => ?_)
    refine r_iload_n dX12_offset_15 rfl rfl ?_
    refine r_iconst dX12_offset_16 ?_
    refine r_iconst dX12_offset_17 ?_
    refine r_callSI (av := [_, _, _]) (M' := mX12_isIn) dX12_offset_18 sX12_isIn ml_X12_160 rfl rfl (by simp [wtA]) (sp_X12_isIn (by omega) (by omega) (by omega) (by omega) (fun b_18 => ?_) (fun b_18 => ?_))
    · refine r_if_ne (tgt := 27) dX12_offset_21 rfl ⟨by decide, by decide⟩ (fun c_21 => ?_) (fun c_21 => absurd c_21 (by decide))
      refine r_bipush dX12_offset_27 (by decide +kernel) ?_
      refine r_istore_n (L' := [_, _, _, _, _, _, _, _, _]) dX12_offset_29 rfl rfl (by decide) rfl ?_
      refine r_bipush dX12_offset_30 (by decide +kernel) ?_
      refine r_istore (L' := [_, _, _, _, _, _, _, _, _]) dX12_offset_32 rfl (by decide) rfl ?_
      refine r_iconst dX12_offset_34 ?_
      refine r_istore (L' := [_, _, _, _, _, _, _, _, _]) dX12_offset_35 rfl (by decide) rfl ?_
      refine r_bipush dX12_offset_37 (by decide +kernel) ?_
      refine r_istore (L' := [_, _, _, _, _, _, _, _, _]) dX12_offset_39 rfl (by decide) rfl ?_
      exact lp_off2 (b0 := -20) (b1 := -20) (by omega) (by omega) hn hr (by omega) k 42 0 _ _ _ _ _ _ (by omega) (by decide) rfl (by decide) (by omega)
    · refine r_if_ne (tgt := 27) dX12_offset_21 rfl ⟨by decide, by decide⟩ (fun c_21 => absurd c_21 (by decide)) (fun c_21 => ?_)
      refine r_ldc (z := -2147483648) dX12_offset_24 kc_X12_194 (by decide +kernel) ?_
      refine r_iret dX12_offset_26 rfl ?_
      refine ⟨_, rfl, eqP k ?_⟩
      unfold fnOff
      rw [if_neg (by omega)]
  · refine r_if_eq (tgt := 24) dX12_offset_12 rfl ⟨by decide, by decide⟩ (fun c_12 => ?_) (fun c_12 => absurd c_12 (by decide))
    refine r_ldc (z := -2147483648) dX12_offset_24 kc_X12_194 (by decide +kernel) ?_
    refine r_iret dX12_offset_26 rfl ?_
    refine ⟨_, rfl, eqP k ?_⟩
    unfold fnOff
    rw [if_neg (by omega)]
theorem agN_congr {ax ay bx bw : Nat → Int} {D x y : Int} : ∀ n : Nat, (∀ i : Nat, i < n → ax i = bx i ∧ ay i = bw i) → agN ax ay D n x y = agN bx bw D n x y
  | 0, _ => rfl
  | n + 1, h => by
    have z := agN_congr (D := D) (x := x) (y := y) n (fun i hi => h i (by omega))
    have q := h n (by omega)
    show agN ax ay D n x y + agI ax ay x y D n = agN bx bw D n x y + agI bx bw x y D n
    rw [z]
    unfold agI
    rw [q.1, q.2]
theorem pr_offset {d : Nat} (hd : 20 ≤ d) {D v : Int} (hD : R32 D) (hv : R32 v) : PR d mX11_offset mX12_offset [.inl D, .inl v] := by
  intro h r
  have w := r.1
  obtain ⟨m0, m1, m2, mr⟩ := r.2.2.2.2.2.2.2.1
  refine sp_X11_offset (by omega) w.1 hD hv (by omega) (fun i hi => ?_) (fun g f => ?_)
  · have := mr i hi
    omega
  · have r2 := f.rel r
    obtain ⟨n0, n1, n2, nr⟩ := r2.2.2.2.2.2.2.2.1
    refine sp_X12_offset (by omega) r2.1.2.1 hD hv (by omega) (fun i hi => ?_) (fun g2 f2 => ⟨?_, f2.rel r2⟩)
    · have := nr i (by omega)
      exact ⟨this.1, this.2.1, this.2.2.1, this.2.2.2.1⟩
    · have c1 : g 45 0 = h 45 0 := f.1 45 0 rfl
      have e : agN (h 46) (h 47) D (h 45 0).toNat = agN (mkX (g 80)) (mkY (g 80)) D (g 49 60).toNat := by
        funext x y
        rw [n0, c1]
        refine agN_congr _ (fun i hi => ?_)
        have := nr i (by omega)
        have s1 : g 46 i = h 46 i := f.1 46 i rfl
        have s2 : g 47 i = h 47 i := f.1 47 i rfl
        rw [← s1, ← s2]
        exact ⟨this.2.2.2.2.1, this.2.2.2.2.2⟩
      rw [e]
