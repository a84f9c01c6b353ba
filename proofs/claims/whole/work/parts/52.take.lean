/-! THE NEXT TOKEN OF THE REFERENCE -/
set_option maxRecDepth 20000 in
set_option maxHeartbeats 400000 in
theorem lp_take0 {d : Nat} (hd : 3 ≤ d) {post : Pst} {h : Hp} {n : Nat} (ht : MT h) (hn : h 49 13 = n ∧ n ≤ 500) {p : Nat} (K : ∀ g : Hp, (∀ a k, ¬ (a = 49 ∧ k = 14) → g a k = h a k) → g 49 14 = tS (h 3) n p → WW mX12_take (d + 1) post 52 [some (.inr (.inr 49))] [] g) : ∀ (nn : Nat) (q : Nat) (g : Hp), (p ≤ q ∧ q ≤ n) → (∀ a k, ¬ (a = 49 ∧ k = 14) → g a k = h a k) → (g 49 14 = q) → (∀ j : Nat, p ≤ j → j < q → kd (h 3 j) = 4) → n - q < nn → WW mX12_take (d + 1) post 0 [some (.inr (.inr 49))] [] g := by
  intro nn
  induction nn with
  | zero => intro q g hq hg h2 hr; intros; omega
  | succ nn ih =>
    intro q g hq hg h2 hr hmu
    have w13 := hg 49 13 (by decide)
    have e0 : (g 49 14).toNat = q := by omega
    have w3 : g 3 = h 3 := funext fun j => hg 3 j (by omega)
    have w50 : g 50 = h 50 := funext fun j => hg 50 j (by omega)
    refine r_aload_n dX12_take_0 rfl rfl ?_
    refine r_getI dX12_take_1 fl_X12_222 sh_49 rfl ?_
    refine r_aload_n dX12_take_4 rfl rfl ?_
    refine r_getI dX12_take_5 fl_X12_219 sh_49 rfl ?_
    refine r_icmp_ge (tgt := 52) dX12_take_8 rfl (by omega) (by omega) (fun c_8 => ?_) (fun c_8 => ?_)
    · refine K g hg ?_
      rw [h2]
      congr 1
      refine rnF_eq ⟨hq.1, hq.2, hr, fun z => ?_⟩
      omega
    · have hb := ht q (by omega)
      have hv : g 50 (g 49 14).toNat = h 50 q := by rw [e0, w50]
      have ki := kd_i (h 3 q)
      refine r_aload_n dX12_take_11 rfl rfl ?_
      refine r_getR dX12_take_12 fl_X12_7 sh_49 rfl ?_
      refine r_aload_n dX12_take_15 rfl rfl ?_
      refine r_getI dX12_take_16 fl_X12_222 sh_49 rfl ?_
      refine r_iald dX12_take_19 sh_50 (by decide) (by omega) ?_
      refine r_bipush dX12_take_20 (by decide +kernel) ?_
      refine r_icmp_eq (tgt := 39) dX12_take_22 rfl (by omega) ⟨by decide, by decide⟩ (fun c_22 => ?_) (fun c_22 => ?_)
      · refine r_aload_n dX12_take_39 rfl rfl ?_
        refine r_dup dX12_take_40 (fun _ h => by cases h) ?_
        refine r_getI dX12_take_41 fl_X12_222 sh_49 rfl ?_
        refine r_iconst dX12_take_44 ?_
        refine r_iadd dX12_take_45 ?_
        refine r_putI dX12_take_46 fl_X12_222 sh_49 rfl ?_
        refine r_goto (tgt := 0) dX12_take_49 rfl ?_
        refine ih (q + 1) _ (by omega) (fun a k z => ?_) (by rw [up_s]; omega) (fun j a c => ?_) (by omega)
        · rw [show upH g 49 14 (g 49 14 + 1) a k = g a k by unfold upH; rw [if_neg z]]
          exact hg a k z
        · by_cases e : j = q
          · rw [e]; omega
          · exact hr j a (by omega)
      · refine r_aload_n dX12_take_25 rfl rfl ?_
        refine r_getR dX12_take_26 fl_X12_7 sh_49 rfl ?_
        refine r_aload_n dX12_take_29 rfl rfl ?_
        refine r_getI dX12_take_30 fl_X12_222 sh_49 rfl ?_
        refine r_iald dX12_take_33 sh_50 (by decide) (by omega) ?_
        refine r_bipush dX12_take_34 (by decide +kernel) ?_
        refine r_icmp_ne (tgt := 52) dX12_take_36 rfl (by omega) ⟨by decide, by decide⟩ (fun c_36 => ?_) (fun c_36 => ?_)
        · refine K g hg ?_
          rw [h2]
          congr 1
          refine rnF_eq ⟨hq.1, hq.2, hr, fun z => ?_⟩
          omega
        · refine r_aload_n dX12_take_39 rfl rfl ?_
          refine r_dup dX12_take_40 (fun _ h => by cases h) ?_
          refine r_getI dX12_take_41 fl_X12_222 sh_49 rfl ?_
          refine r_iconst dX12_take_44 ?_
          refine r_iadd dX12_take_45 ?_
          refine r_putI dX12_take_46 fl_X12_222 sh_49 rfl ?_
          refine r_goto (tgt := 0) dX12_take_49 rfl ?_
          refine ih (q + 1) _ (by omega) (fun a k z => ?_) (by rw [up_s]; omega) (fun j a c => ?_) (by omega)
          · rw [show upH g 49 14 (g 49 14 + 1) a k = g a k by unfold upH; rw [if_neg z]]
            exact hg a k z
          · by_cases e : j = q
            · rw [e]; omega
            · exact hr j a (by omega)
set_option maxRecDepth 20000 in
set_option maxHeartbeats 400000 in
theorem lp_take1 {d : Nat} (hd : 3 ≤ d) {post : Pst} {h : Hp} {n : Nat} (ht : MT h) (hn : h 49 13 = n ∧ n ≤ 500) {s : Nat} (K : ∀ (g : Hp) (e : Nat), (∀ a k, ¬ (a = 49 ∧ k = 14) → g a k = h a k) → g 49 14 = e → RunP (h 3) n 1 s e → WW mX12_take (d + 1) post 114 [some (.inr (.inr 49))] [] g) : ∀ (nn : Nat) (q : Nat) (g : Hp), (s ≤ q ∧ q ≤ n) → (∀ a k, ¬ (a = 49 ∧ k = 14) → g a k = h a k) → (g 49 14 = q) → (∀ j : Nat, s ≤ j → j < q → kd (h 3 j) = 1) → n - q < nn → WW mX12_take (d + 1) post 90 [some (.inr (.inr 49))] [] g := by
  intro nn
  induction nn with
  | zero => intro q g hq hg h2 hr; intros; omega
  | succ nn ih =>
    intro q g hq hg h2 hr hmu
    have w13 := hg 49 13 (by decide)
    have e0 : (g 49 14).toNat = q := by omega
    have w3 : g 3 = h 3 := funext fun j => hg 3 j (by omega)
    have w50 : g 50 = h 50 := funext fun j => hg 50 j (by omega)
    have gt : MT g := by intro j hj; rw [w3, w50]; exact ht j hj
    refine r_aload_n dX12_take_90 rfl rfl ?_
    refine r_aload_n dX12_take_91 rfl rfl ?_
    refine r_getI dX12_take_92 fl_X12_222 sh_49 rfl ?_
    refine r_callVI (av := [_]) (M' := mX12_isSmall) dX12_take_95 vX12_isSmall ml_X12_228 sh_49 (by decide) rfl rfl rfl rfl (by simp [wtA]) (sp_X12_isSmall (by omega) gt (by omega) (by omega) (fun b_95 => ?_) (fun b_95 => ?_))
    · refine r_if_eq (tgt := 114) dX12_take_98 rfl ⟨by decide, by decide⟩ (fun c_98 => absurd c_98 (by decide)) (fun c_98 => ?_)
      refine r_aload_n dX12_take_101 rfl rfl ?_
      refine r_dup dX12_take_102 (fun _ h => by cases h) ?_
      refine r_getI dX12_take_103 fl_X12_222 sh_49 rfl ?_
      refine r_iconst dX12_take_106 ?_
      refine r_iadd dX12_take_107 ?_
      refine r_putI dX12_take_108 fl_X12_222 sh_49 rfl ?_
      refine r_goto (tgt := 90) dX12_take_111 rfl ?_
      refine ih (q + 1) _ (by omega) (fun a k z => ?_) (by rw [up_s]; omega) (fun j a c => ?_) (by omega)
      · rw [show upH g 49 14 (g 49 14 + 1) a k = g a k by unfold upH; rw [if_neg z]]
        exact hg a k z
      · by_cases e : j = q
        · rw [e]; have := b_95.2; rw [e0, w3] at this; exact this
        · exact hr j a (by omega)
    · refine r_if_eq (tgt := 114) dX12_take_98 rfl ⟨by decide, by decide⟩ (fun c_98 => ?_) (fun c_98 => absurd c_98 (by decide))
      refine K g q hg h2 ⟨hq.1, hq.2, hr, fun z y => b_95 ⟨by omega, ?_⟩⟩
      rw [e0, w3]; exact y
set_option maxRecDepth 20000 in
set_option maxHeartbeats 400000 in
theorem lp_take2 {d : Nat} (hd : 3 ≤ d) {P : Hp → Prop} {h : Hp} {n : Nat} (ht : MT h) (hn : h 49 13 = n ∧ n ≤ 500) {s : Nat} (k : ∀ (g : Hp) (e : Nat), (∀ a k, ¬ (a = 49 ∧ (k = 14 ∨ k = 16)) → g a k = h a k) → g 49 14 = e → g 49 16 = mvN (h 3) s (e - s) → RunP (h 3) n 2 s e → P g) : ∀ (nn : Nat) (q : Nat) (g : Hp), (s ≤ q ∧ q ≤ n) → (∀ a k, ¬ (a = 49 ∧ (k = 14 ∨ k = 16)) → g a k = h a k) → (g 49 14 = q) → (g 49 16 = mvN (h 3) s (q - s)) → (∀ j : Nat, s ≤ j → j < q → kd (h 3 j) = 2) → n - q < nn → WW mX12_take (d + 1) (pV P) 212 [some (.inr (.inr 49))] [] g := by
  intro nn
  induction nn with
  | zero => intro q g hq hg h2 h6 hr; intros; omega
  | succ nn ih =>
    intro q g hq hg h2 h6 hr hmu
    have w13 := hg 49 13 (by decide)
    have e0 : (g 49 14).toNat = q := by omega
    have w3 : g 3 = h 3 := funext fun j => hg 3 j (by omega)
    have w50 : g 50 = h 50 := funext fun j => hg 50 j (by omega)
    have gt : MT g := by intro j hj; rw [w3, w50]; exact ht j hj
    have mv := mvN_r (b := h 3) (s := s) (j := q - s) (fun i hi => kd_2 (hr (s + i) (by omega) (by omega)))
    refine r_aload_n dX12_take_212 rfl rfl ?_
    refine r_aload_n dX12_take_213 rfl rfl ?_
    refine r_getI dX12_take_214 fl_X12_222 sh_49 rfl ?_
    refine r_callVI (av := [_]) (M' := mX12_isDigit) dX12_take_217 vX12_isDigit ml_X12_241 sh_49 (by decide) rfl rfl rfl rfl (by simp [wtA]) (sp_X12_isDigit (by omega) gt (by omega) (by omega) (fun b_217 => ?_) (fun b_217 => ?_))
    · refine r_if_eq (tgt := 345) dX12_take_220 rfl ⟨by decide, by decide⟩ (fun c_220 => absurd c_220 (by decide)) (fun c_220 => ?_)
      have bq : kd (h 3 q) = 2 := by have := b_217.2; rw [e0, w3] at this; exact this
      have dg := kd_2 bq
      have hb := ht q (by omega)
      have hv : g 50 (g 49 14).toNat = h 50 q := by rw [e0, w50]
      refine r_aload_n dX12_take_223 rfl rfl ?_
      refine r_aload_n dX12_take_224 rfl rfl ?_
      refine r_getI dX12_take_225 fl_X12_235 sh_49 rfl ?_
      refine r_sipush dX12_take_228 (by decide +kernel) ?_
      refine r_icmp_le (tgt := 241) dX12_take_231 rfl (by omega) ⟨by decide, by decide⟩ (fun c_231 => ?_) (fun c_231 => ?_)
      · refine r_bipush dX12_take_241 (by decide +kernel) ?_
        refine r_aload_n dX12_take_243 rfl rfl ?_
        refine r_getI dX12_take_244 fl_X12_235 sh_49 rfl ?_
        refine r_imul dX12_take_247 ?_
        refine r_aload_n dX12_take_248 rfl rfl ?_
        refine r_getR dX12_take_249 fl_X12_7 sh_49 rfl ?_
        refine r_aload_n dX12_take_252 rfl rfl ?_
        refine r_getI dX12_take_253 fl_X12_222 sh_49 rfl ?_
        refine r_iald dX12_take_256 sh_50 (by decide) (by omega) ?_
        refine r_iadd dX12_take_257 ?_
        refine r_bipush dX12_take_258 (by decide +kernel) ?_
        refine r_isub dX12_take_260 ?_
        refine r_eqI (y := mvN (h 3) s (q + 1 - s)) ?_ ?_
        · rw [show q + 1 - s = (q - s) + 1 by omega, mvN, show s + (q - s) = q by omega]
          first
            | (rw [if_pos (by omega)]; exact h6)
            | (rw [if_neg (by omega), h6, hv]; omega)
        refine r_putI dX12_take_261 fl_X12_235 sh_49 rfl ?_
        refine r_aload_n dX12_take_264 rfl rfl ?_
        refine r_dup dX12_take_265 (fun _ h => by cases h) ?_
        refine r_getI dX12_take_266 fl_X12_222 sh_49 rfl ?_
        refine r_eqI (up_nk (by decide)) ?_
        refine r_iconst dX12_take_269 ?_
        refine r_iadd dX12_take_270 ?_
        refine r_putI dX12_take_271 fl_X12_222 sh_49 rfl ?_
        refine r_goto (tgt := 212) dX12_take_274 rfl ?_
        refine ih (q + 1) _ (by omega) (fun a k z => ?_) (by rw [up_s]; omega) (by rw [up_nk (by decide), up_s]) (fun j a c => ?_) (by omega)
        · rw [show upH (upH g 49 16 (mvN (h 3) s (q + 1 - s))) 49 14 (g 49 14 + 1) a k = g a k by unfold upH; rw [if_neg (by omega), if_neg (by omega)]]
          exact hg a k z
        · by_cases e : j = q
          · rw [e]; exact bq
          · exact hr j a (by omega)
      · refine r_aload_n dX12_take_234 rfl rfl ?_
        refine r_getI dX12_take_235 fl_X12_235 sh_49 rfl ?_
        refine r_goto (tgt := 261) dX12_take_238 rfl ?_
        refine r_eqI (y := mvN (h 3) s (q + 1 - s)) ?_ ?_
        · rw [show q + 1 - s = (q - s) + 1 by omega, mvN, show s + (q - s) = q by omega]
          first
            | (rw [if_pos (by omega)]; exact h6)
            | (rw [if_neg (by omega), h6, hv]; omega)
        refine r_putI dX12_take_261 fl_X12_235 sh_49 rfl ?_
        refine r_aload_n dX12_take_264 rfl rfl ?_
        refine r_dup dX12_take_265 (fun _ h => by cases h) ?_
        refine r_getI dX12_take_266 fl_X12_222 sh_49 rfl ?_
        refine r_eqI (up_nk (by decide)) ?_
        refine r_iconst dX12_take_269 ?_
        refine r_iadd dX12_take_270 ?_
        refine r_putI dX12_take_271 fl_X12_222 sh_49 rfl ?_
        refine r_goto (tgt := 212) dX12_take_274 rfl ?_
        refine ih (q + 1) _ (by omega) (fun a k z => ?_) (by rw [up_s]; omega) (by rw [up_nk (by decide), up_s]) (fun j a c => ?_) (by omega)
        · rw [show upH (upH g 49 16 (mvN (h 3) s (q + 1 - s))) 49 14 (g 49 14 + 1) a k = g a k by unfold upH; rw [if_neg (by omega), if_neg (by omega)]]
          exact hg a k z
        · by_cases e : j = q
          · rw [e]; exact bq
          · exact hr j a (by omega)
    · refine r_if_eq (tgt := 345) dX12_take_220 rfl ⟨by decide, by decide⟩ (fun c_220 => ?_) (fun c_220 => absurd c_220 (by decide))
      refine r_vret dX12_take_345 rfl ?_
      refine ⟨rfl, k g q hg h2 h6 ⟨hq.1, hq.2, hr, fun z y => b_217 ⟨by omega, ?_⟩⟩⟩
      rw [e0, w3]; exact y
set_option maxRecDepth 20000 in
set_option maxHeartbeats 400000 in
set_option maxHeartbeats 2000000 in
theorem sp_X12_take {d : Nat} (hd : 4 ≤ d) {h : Hp} {n p : Nat} (hn : h 49 13 = n ∧ n ≤ 500) (hp : h 49 14 = p ∧ p ≤ n) (ht : MT h) (hW : MWd h) {P : Hp → Prop} (k : ∀ h' : Hp, (FrT h h') → (MTs h' n p) → P h') : Cl d mX12_take [.inr (.inr 49)] h (pV P) := by
  refine Cl.of (L := [some (.inr (.inr 49))]) (by decide +kernel) (Nat.le_of_ble_eq_true rfl) rfl ?_
  obtain ⟨d, rfl⟩ : ∃ q, d = q + 1 := ⟨d - 1, by omega⟩
  refine lp_take0 (h := h) (p := p) (n := n) (by omega) ht hn (fun g z1 z2 => ?_) 501 p h (by omega) (fun _ _ _ => rfl) hp.1 (fun j a c => by omega) (by omega)
  have sr := tS_r (b := h 3) hp.2
  have er := tE_r (b := h 3) hp.2
  have tr := tK_r (b := h 3) hp.2
  have e0 : (g 49 14).toNat = tS (h 3) n p := by omega
  have y3 : g 3 = h 3 := funext fun j => z1 3 j (by omega)
  have y50 : g 50 = h 50 := funext fun j => z1 50 j (by omega)
  have y51 : g 51 = h 51 := funext fun j => z1 51 j (by omega)
  have y13 := z1 49 13 (by decide)
  refine r_aload_n dX12_take_52 rfl rfl ?_
  refine r_aload_n dX12_take_53 rfl rfl ?_
  refine r_getI dX12_take_54 fl_X12_222 sh_49 rfl ?_
  refine r_putI dX12_take_57 fl_X12_216 sh_49 rfl ?_
  refine r_gh (fun w ew => ?_)
  have wf : ∀ a k, ¬ (a = 49 ∧ (k = 14 ∨ k = 17)) → w a k = h a k := fun a k z => by
    rw [ew]
    unfold upH
    rw [if_neg (by omega)]
    exact z1 a k (by omega)
  have w14 : w 49 14 = tS (h 3) n p := by rw [ew]; exact z2
  have w17 : w 49 17 = tS (h 3) n p := by rw [ew]; exact z2
  have w13 := wf 49 13 (by decide)
  have w3 : w 3 = h 3 := funext fun j => wf 3 j (by omega)
  have w50 : w 50 = h 50 := funext fun j => wf 50 j (by omega)
  have w51 : w 51 = h 51 := funext fun j => wf 51 j (by omega)
  have wt : MT w := by intro j hj; rw [w3, w50]; exact ht j hj
  have wW : MWd w := by intro j hj; rw [w51]; exact hW j hj
  have f0 : (w 49 14).toNat = tS (h 3) n p := by omega
  have ki := kd_i (h 3 (tS (h 3) n p))
  refine r_aload_n dX12_take_60 rfl rfl ?_
  refine r_getI dX12_take_61 fl_X12_222 sh_49 rfl ?_
  refine r_aload_n dX12_take_64 rfl rfl ?_
  refine r_getI dX12_take_65 fl_X12_219 sh_49 rfl ?_
  refine r_icmp_ne (tgt := 79) dX12_take_68 rfl (by omega) (by omega) (fun c_68 => ?_) (fun c_68 => ?_)
  · refine r_aload_n dX12_take_79 rfl rfl ?_
    refine r_aload_n dX12_take_80 rfl rfl ?_
    refine r_getI dX12_take_81 fl_X12_222 sh_49 rfl ?_
    refine r_callVI (av := [_]) (M' := mX12_isSmall) dX12_take_84 vX12_isSmall ml_X12_228 sh_49 (by decide) rfl rfl rfl rfl (by simp [wtA]) (sp_X12_isSmall (by omega) wt (by omega) (by omega) (fun b_84 => ?_) (fun b_84 => ?_))
    · refine r_if_eq (tgt := 191) dX12_take_87 rfl ⟨by decide, by decide⟩ (fun c_87 => absurd c_87 (by decide)) (fun c_87 => ?_)
      have k1 : tK (h 3) n p = 1 := by
        have := b_84.2
        rw [f0, w3] at this
        omega
      refine lp_take1 (h := w) (n := n) (s := tS (h 3) n p) (by omega) wt ⟨w13.trans hn.1, hn.2⟩ (fun g2 e x0 x1 x2 => ?_) 501 (tS (h 3) n p) w (by omega) (fun _ _ _ => rfl) w14 (fun j a c => by omega) (by omega)
      rw [w3] at x2
      have ee : e = tE (h 3) n p := by
        rw [rnF_eq x2]
        unfold tE
        rw [if_pos (by omega), if_pos (Or.inl k1), k1]
      subst ee
      have v17 : g2 49 17 = tS (h 3) n p := (x0 49 17 (by decide)).trans w17
      have v3 : g2 3 = h 3 := funext fun j => (x0 3 j (by omega)).trans (wf 3 j (by omega))
      have v50 : g2 50 = h 50 := funext fun j => (x0 50 j (by omega)).trans (wf 50 j (by omega))
      have v51 : g2 51 = h 51 := funext fun j => (x0 51 j (by omega)).trans (wf 51 j (by omega))
      have vf : ∀ a k, ¬ (a = 49 ∧ (k = 14 ∨ k = 17)) → g2 a k = h a k := fun a k z => (x0 a k (by omega)).trans (wf a k z)
      have vt : MT g2 := by intro j hj; rw [v3, v50]; exact ht j hj
      have vW : MWd g2 := by intro j hj; rw [v51]; exact hW j hj
      have kr := kwI_r (h 3) (tS (h 3) n p) (tE (h 3) n p)
      refine r_aload_n dX12_take_114 rfl rfl ?_
      refine r_aload_n dX12_take_115 rfl rfl ?_
      refine r_aload_n dX12_take_116 rfl rfl ?_
      refine r_getI dX12_take_117 fl_X12_216 sh_49 rfl ?_
      refine r_aload_n dX12_take_120 rfl rfl ?_
      refine r_getI dX12_take_121 fl_X12_222 sh_49 rfl ?_
      rw [v17, x1]
      refine r_callVI (av := [_, _]) (M' := mX12_wordAt) dX12_take_124 vX12_wordAt ml_X12_232 sh_49 (by decide) rfl rfl rfl rfl (by simp [wtA]) (sp_X12_wordAt (by omega) vW vt (by omega) ?_)
      rw [v3]
      refine r_putI dX12_take_127 fl_X12_235 sh_49 rfl ?_
      refine r_gh (fun u eu => ?_)
      have u16 : u 49 16 = kwI (h 3) (tS (h 3) n p) (tE (h 3) n p) := by rw [eu]; exact up_s _ _ _ _
      have uf : ∀ a k, ¬ (a = 49 ∧ k = 16) → u a k = g2 a k := fun a k z => by rw [eu]; unfold upH; rw [if_neg z]
      have u14 : u 49 14 = tE (h 3) n p := (uf 49 14 (by decide)).trans x1
      have u17 : u 49 17 = tS (h 3) n p := (uf 49 17 (by decide)).trans v17
      have u3 : u 3 = h 3 := funext fun j => (uf 3 j (by omega)).trans (vf 3 j (by omega))
      have u50 : u 50 = h 50 := funext fun j => (uf 50 j (by omega)).trans (vf 50 j (by omega))
      clear eu
      refine r_aload_n dX12_take_130 rfl rfl ?_
      refine r_aload_n dX12_take_131 rfl rfl ?_
      refine r_getI dX12_take_132 fl_X12_235 sh_49 rfl ?_
      refine r_if_lt (tgt := 142) dX12_take_135 rfl (by omega) (fun c_135 => ?_) (fun c_135 => ?_)
      · refine r_aload_n dX12_take_142 rfl rfl ?_
        refine r_getI dX12_take_143 fl_X12_222 sh_49 rfl ?_
        refine r_aload_n dX12_take_146 rfl rfl ?_
        refine r_getI dX12_take_147 fl_X12_216 sh_49 rfl ?_
        refine r_isub dX12_take_150 ?_
        refine r_bipush dX12_take_151 (by decide +kernel) ?_
        refine r_icmp_le (tgt := 160) dX12_take_153 rfl (by omega) ⟨by decide, by decide⟩ (fun c_153 => ?_) (fun c_153 => ?_)
        · refine r_iconst dX12_take_160 ?_
          refine r_putI dX12_take_161 fl_X12_225 sh_49 rfl ?_
          refine r_gh (fun x ex => ?_)
          have x15 : x 49 15 = mK (h 3) n p := by
            rw [ex, up_s]
            unfold mK
            rw [if_neg (by omega), if_pos k1]
            first
              | rw [if_pos (by omega)]
              | rw [if_neg (by omega), if_pos (by omega)]
              | rw [if_neg (by omega), if_neg (by omega)]
          have xf : ∀ a k, ¬ (a = 49 ∧ k = 15) → x a k = u a k := fun a k z => by rw [ex]; unfold upH; rw [if_neg z]
          have lt : x 49 15 = 1 ∧ 0 ≤ kwI (h 3) (tS (h 3) n p) (tE (h 3) n p) ∨ x 49 15 = 5 ∧ kwI (h 3) (tS (h 3) n p) (tE (h 3) n p) < 0 ∧ 6 < tE (h 3) n p - tS (h 3) n p ∨ x 49 15 = 2 ∧ kwI (h 3) (tS (h 3) n p) (tE (h 3) n p) < 0 ∧ tE (h 3) n p - tS (h 3) n p ≤ 6 := by
            rw [ex, up_s]
            omega
          clear ex
          have xx : ∀ (y : Hp) (z : Int), (∀ a k, ¬ (a = 49 ∧ k = 16) → y a k = x a k) → y 49 16 = z → z = mW (h 3) n p → P y := fun y z e1 e2 e3 => by
            have y3 : y 3 = h 3 := funext fun j => (e1 3 j (by omega)).trans ((xf 3 j (by omega)).trans (congrFun u3 j))
            refine k y (fun a q z => ?_) ⟨?_, ?_, ?_, fun _ => ?_⟩
            · rw [e1 a q (by omega), xf a q (by omega), uf a q (by omega)]
              exact vf a q (by omega)
            · rw [e1 49 17 (by decide), xf 49 17 (by decide), y3]; exact u17
            · rw [e1 49 14 (by decide), xf 49 14 (by decide), y3]; exact u14
            · rw [e1 49 15 (by decide), y3]; exact x15
            · rw [e2, y3]; exact e3
          refine r_aload_n dX12_take_164 rfl rfl ?_
          refine r_getI dX12_take_165 fl_X12_225 sh_49 rfl ?_
          refine r_iconst dX12_take_168 ?_
          refine r_icmp_ne (tgt := 345) dX12_take_169 rfl (by omega) ⟨by decide, by decide⟩ (fun c_169 => ?_) (fun c_169 => ?_)
          · refine r_vret dX12_take_345 rfl ?_
            refine ⟨rfl, xx x _ (fun _ _ _ => rfl) rfl ?_⟩
            rw [xf 49 16 (by decide), u16]
            unfold mW
            rw [if_pos k1, if_neg (by omega)]
          · refine r_aload_n dX12_take_172 rfl rfl ?_
            refine r_aload_n dX12_take_173 rfl rfl ?_
            refine r_aload_n dX12_take_174 rfl rfl ?_
            refine r_getI dX12_take_175 fl_X12_216 sh_49 rfl ?_
            refine r_aload_n dX12_take_178 rfl rfl ?_
            refine r_getI dX12_take_179 fl_X12_222 sh_49 rfl ?_
            rw [xf 49 17 (by decide), xf 49 14 (by decide), u17, u14]
            refine r_callVI (av := [_, _]) (M' := mX12_packed) dX12_take_182 vX12_packed ml_X12_238 sh_49 (by decide) rfl rfl rfl rfl (by simp [wtA]) (sp_X12_packed (by omega) (by intro j hj; rw [show x 3 = h 3 from funext fun j => (xf 3 j (by omega)).trans (congrFun u3 j), show x 50 = h 50 from funext fun j => (xf 50 j (by omega)).trans (congrFun u50 j)]; exact ht j hj) (by omega) (fun i a c => by rw [show x 3 = h 3 from funext fun j => (xf 3 j (by omega)).trans (congrFun u3 j)]; exact kd_1 (x2.2.2.1 i a c)) ?_)
            refine r_putI dX12_take_185 fl_X12_235 sh_49 rfl ?_
            refine r_goto (tgt := 345) dX12_take_188 rfl ?_
            refine r_vret dX12_take_345 rfl ?_
            refine ⟨rfl, xx _ _ (fun a k z => by unfold upH; rw [if_neg z]) (up_s _ _ _ _) ?_⟩
            unfold mW
            rw [if_pos k1, if_pos (by omega), show x 3 = h 3 from funext fun j => (xf 3 j (by omega)).trans (congrFun u3 j)]
        · refine r_iconst dX12_take_156 ?_
          refine r_goto (tgt := 161) dX12_take_157 rfl ?_
          refine r_putI dX12_take_161 fl_X12_225 sh_49 rfl ?_
          refine r_gh (fun x ex => ?_)
          have x15 : x 49 15 = mK (h 3) n p := by
            rw [ex, up_s]
            unfold mK
            rw [if_neg (by omega), if_pos k1]
            first
              | rw [if_pos (by omega)]
              | rw [if_neg (by omega), if_pos (by omega)]
              | rw [if_neg (by omega), if_neg (by omega)]
          have xf : ∀ a k, ¬ (a = 49 ∧ k = 15) → x a k = u a k := fun a k z => by rw [ex]; unfold upH; rw [if_neg z]
          have lt : x 49 15 = 1 ∧ 0 ≤ kwI (h 3) (tS (h 3) n p) (tE (h 3) n p) ∨ x 49 15 = 5 ∧ kwI (h 3) (tS (h 3) n p) (tE (h 3) n p) < 0 ∧ 6 < tE (h 3) n p - tS (h 3) n p ∨ x 49 15 = 2 ∧ kwI (h 3) (tS (h 3) n p) (tE (h 3) n p) < 0 ∧ tE (h 3) n p - tS (h 3) n p ≤ 6 := by
            rw [ex, up_s]
            omega
          clear ex
          have xx : ∀ (y : Hp) (z : Int), (∀ a k, ¬ (a = 49 ∧ k = 16) → y a k = x a k) → y 49 16 = z → z = mW (h 3) n p → P y := fun y z e1 e2 e3 => by
            have y3 : y 3 = h 3 := funext fun j => (e1 3 j (by omega)).trans ((xf 3 j (by omega)).trans (congrFun u3 j))
            refine k y (fun a q z => ?_) ⟨?_, ?_, ?_, fun _ => ?_⟩
            · rw [e1 a q (by omega), xf a q (by omega), uf a q (by omega)]
              exact vf a q (by omega)
            · rw [e1 49 17 (by decide), xf 49 17 (by decide), y3]; exact u17
            · rw [e1 49 14 (by decide), xf 49 14 (by decide), y3]; exact u14
            · rw [e1 49 15 (by decide), y3]; exact x15
            · rw [e2, y3]; exact e3
          refine r_aload_n dX12_take_164 rfl rfl ?_
          refine r_getI dX12_take_165 fl_X12_225 sh_49 rfl ?_
          refine r_iconst dX12_take_168 ?_
          refine r_icmp_ne (tgt := 345) dX12_take_169 rfl (by omega) ⟨by decide, by decide⟩ (fun c_169 => ?_) (fun c_169 => ?_)
          · refine r_vret dX12_take_345 rfl ?_
            refine ⟨rfl, xx x _ (fun _ _ _ => rfl) rfl ?_⟩
            rw [xf 49 16 (by decide), u16]
            unfold mW
            rw [if_pos k1, if_neg (by omega)]
          · refine r_aload_n dX12_take_172 rfl rfl ?_
            refine r_aload_n dX12_take_173 rfl rfl ?_
            refine r_aload_n dX12_take_174 rfl rfl ?_
            refine r_getI dX12_take_175 fl_X12_216 sh_49 rfl ?_
            refine r_aload_n dX12_take_178 rfl rfl ?_
            refine r_getI dX12_take_179 fl_X12_222 sh_49 rfl ?_
            rw [xf 49 17 (by decide), xf 49 14 (by decide), u17, u14]
            refine r_callVI (av := [_, _]) (M' := mX12_packed) dX12_take_182 vX12_packed ml_X12_238 sh_49 (by decide) rfl rfl rfl rfl (by simp [wtA]) (sp_X12_packed (by omega) (by intro j hj; rw [show x 3 = h 3 from funext fun j => (xf 3 j (by omega)).trans (congrFun u3 j), show x 50 = h 50 from funext fun j => (xf 50 j (by omega)).trans (congrFun u50 j)]; exact ht j hj) (by omega) (fun i a c => by rw [show x 3 = h 3 from funext fun j => (xf 3 j (by omega)).trans (congrFun u3 j)]; exact kd_1 (x2.2.2.1 i a c)) ?_)
            refine r_putI dX12_take_185 fl_X12_235 sh_49 rfl ?_
            refine r_goto (tgt := 345) dX12_take_188 rfl ?_
            refine r_vret dX12_take_345 rfl ?_
            refine ⟨rfl, xx _ _ (fun a k z => by unfold upH; rw [if_neg z]) (up_s _ _ _ _) ?_⟩
            unfold mW
            rw [if_pos k1, if_pos (by omega), show x 3 = h 3 from funext fun j => (xf 3 j (by omega)).trans (congrFun u3 j)]
      · refine r_iconst dX12_take_138 ?_
        refine r_goto (tgt := 161) dX12_take_139 rfl ?_
        refine r_putI dX12_take_161 fl_X12_225 sh_49 rfl ?_
        refine r_gh (fun x ex => ?_)
        have x15 : x 49 15 = mK (h 3) n p := by
          rw [ex, up_s]
          unfold mK
          rw [if_neg (by omega), if_pos k1]
          first
            | rw [if_pos (by omega)]
            | rw [if_neg (by omega), if_pos (by omega)]
            | rw [if_neg (by omega), if_neg (by omega)]
        have xf : ∀ a k, ¬ (a = 49 ∧ k = 15) → x a k = u a k := fun a k z => by rw [ex]; unfold upH; rw [if_neg z]
        have lt : x 49 15 = 1 ∧ 0 ≤ kwI (h 3) (tS (h 3) n p) (tE (h 3) n p) ∨ x 49 15 = 5 ∧ kwI (h 3) (tS (h 3) n p) (tE (h 3) n p) < 0 ∧ 6 < tE (h 3) n p - tS (h 3) n p ∨ x 49 15 = 2 ∧ kwI (h 3) (tS (h 3) n p) (tE (h 3) n p) < 0 ∧ tE (h 3) n p - tS (h 3) n p ≤ 6 := by
          rw [ex, up_s]
          omega
        clear ex
        have xx : ∀ (y : Hp) (z : Int), (∀ a k, ¬ (a = 49 ∧ k = 16) → y a k = x a k) → y 49 16 = z → z = mW (h 3) n p → P y := fun y z e1 e2 e3 => by
          have y3 : y 3 = h 3 := funext fun j => (e1 3 j (by omega)).trans ((xf 3 j (by omega)).trans (congrFun u3 j))
          refine k y (fun a q z => ?_) ⟨?_, ?_, ?_, fun _ => ?_⟩
          · rw [e1 a q (by omega), xf a q (by omega), uf a q (by omega)]
            exact vf a q (by omega)
          · rw [e1 49 17 (by decide), xf 49 17 (by decide), y3]; exact u17
          · rw [e1 49 14 (by decide), xf 49 14 (by decide), y3]; exact u14
          · rw [e1 49 15 (by decide), y3]; exact x15
          · rw [e2, y3]; exact e3
        refine r_aload_n dX12_take_164 rfl rfl ?_
        refine r_getI dX12_take_165 fl_X12_225 sh_49 rfl ?_
        refine r_iconst dX12_take_168 ?_
        refine r_icmp_ne (tgt := 345) dX12_take_169 rfl (by omega) ⟨by decide, by decide⟩ (fun c_169 => ?_) (fun c_169 => ?_)
        · refine r_vret dX12_take_345 rfl ?_
          refine ⟨rfl, xx x _ (fun _ _ _ => rfl) rfl ?_⟩
          rw [xf 49 16 (by decide), u16]
          unfold mW
          rw [if_pos k1, if_neg (by omega)]
        · refine r_aload_n dX12_take_172 rfl rfl ?_
          refine r_aload_n dX12_take_173 rfl rfl ?_
          refine r_aload_n dX12_take_174 rfl rfl ?_
          refine r_getI dX12_take_175 fl_X12_216 sh_49 rfl ?_
          refine r_aload_n dX12_take_178 rfl rfl ?_
          refine r_getI dX12_take_179 fl_X12_222 sh_49 rfl ?_
          rw [xf 49 17 (by decide), xf 49 14 (by decide), u17, u14]
          refine r_callVI (av := [_, _]) (M' := mX12_packed) dX12_take_182 vX12_packed ml_X12_238 sh_49 (by decide) rfl rfl rfl rfl (by simp [wtA]) (sp_X12_packed (by omega) (by intro j hj; rw [show x 3 = h 3 from funext fun j => (xf 3 j (by omega)).trans (congrFun u3 j), show x 50 = h 50 from funext fun j => (xf 50 j (by omega)).trans (congrFun u50 j)]; exact ht j hj) (by omega) (fun i a c => by rw [show x 3 = h 3 from funext fun j => (xf 3 j (by omega)).trans (congrFun u3 j)]; exact kd_1 (x2.2.2.1 i a c)) ?_)
          refine r_putI dX12_take_185 fl_X12_235 sh_49 rfl ?_
          refine r_goto (tgt := 345) dX12_take_188 rfl ?_
          refine r_vret dX12_take_345 rfl ?_
          refine ⟨rfl, xx _ _ (fun a k z => by unfold upH; rw [if_neg z]) (up_s _ _ _ _) ?_⟩
          unfold mW
          rw [if_pos k1, if_pos (by omega), show x 3 = h 3 from funext fun j => (xf 3 j (by omega)).trans (congrFun u3 j)]
    · refine r_if_eq (tgt := 191) dX12_take_87 rfl ⟨by decide, by decide⟩ (fun c_87 => ?_) (fun c_87 => absurd c_87 (by decide))
      refine r_aload_n dX12_take_191 rfl rfl ?_
      refine r_aload_n dX12_take_192 rfl rfl ?_
      refine r_getI dX12_take_193 fl_X12_222 sh_49 rfl ?_
      refine r_callVI (av := [_]) (M' := mX12_isDigit) dX12_take_196 vX12_isDigit ml_X12_241 sh_49 (by decide) rfl rfl rfl rfl (by simp [wtA]) (sp_X12_isDigit (by omega) wt (by omega) (by omega) (fun b_196 => ?_) (fun b_196 => ?_))
      · refine r_if_eq (tgt := 277) dX12_take_199 rfl ⟨by decide, by decide⟩ (fun c_199 => absurd c_199 (by decide)) (fun c_199 => ?_)
        refine r_aload_n dX12_take_202 rfl rfl ?_
        refine r_iconst dX12_take_203 ?_
        refine r_putI dX12_take_204 fl_X12_225 sh_49 rfl ?_
        refine r_aload_n dX12_take_207 rfl rfl ?_
        refine r_iconst dX12_take_208 ?_
        refine r_putI dX12_take_209 fl_X12_235 sh_49 rfl ?_
        have k2 : tK (h 3) n p = 2 := by
          have := b_196.2
          rw [f0, w3] at this
          omega
        refine r_gh (fun u eu => ?_)
        have uf : ∀ a k, ¬ (a = 49 ∧ (k = 15 ∨ k = 16)) → u a k = w a k := fun a k z => by rw [eu]; unfold upH; rw [if_neg (by omega), if_neg (by omega)]
        have u15 : u 49 15 = 3 := by rw [eu]; rfl
        have u16 : u 49 16 = 0 := by rw [eu]; rfl
        clear eu
        have u3 : u 3 = h 3 := funext fun j => (uf 3 j (by omega)).trans (congrFun w3 j)
        have u50 : u 50 = h 50 := funext fun j => (uf 50 j (by omega)).trans (congrFun w50 j)
        refine lp_take2 (h := u) (n := n) (s := tS (h 3) n p) (by omega) (by intro j hj; rw [u3, u50]; exact ht j hj) ⟨(uf 49 13 (by decide)).trans (w13.trans hn.1), hn.2⟩ (fun g2 e x0 x1 x6 x2 => ?_) 501 (tS (h 3) n p) u (by omega) (fun _ _ _ => rfl) ((uf 49 14 (by decide)).trans w14) (by rw [u16, Nat.sub_self]; rfl) (fun j a c => by omega) (by omega)
        rw [u3] at x2 x6
        have ee : e = tE (h 3) n p := by
          rw [rnF_eq x2]
          unfold tE
          rw [if_pos (by omega), if_pos (Or.inr k2), k2]
        subst ee
        have v3 : g2 3 = h 3 := funext fun j => (x0 3 j (by omega)).trans (congrFun u3 j)
        refine k g2 (fun a q z => ?_) ⟨?_, ?_, ?_, fun _ => ?_⟩
        · rw [x0 a q (by omega), uf a q (by omega)]
          exact wf a q (by omega)
        · rw [x0 49 17 (by decide), uf 49 17 (by decide), v3]; exact w17
        · rw [v3]; exact x1
        · rw [x0 49 15 (by decide), u15, v3]
          unfold mK
          rw [if_neg (by omega), if_neg (by omega), if_pos k2]
        · rw [x6, v3]
          unfold mW
          rw [if_neg (by omega), if_pos k2]
      · refine r_if_eq (tgt := 277) dX12_take_199 rfl ⟨by decide, by decide⟩ (fun c_199 => ?_) (fun c_199 => absurd c_199 (by decide))
        have hb := ht (tS (h 3) n p) (by omega)
        have hv : w 50 (w 49 14).toNat = h 3 (tS (h 3) n p) % 256 := by rw [f0, w50]; exact hb.2.2
        have n1 : ¬ kd (h 3 (tS (h 3) n p)) = 1 := fun z => b_84 ⟨by omega, by rw [f0, w3]; exact z⟩
        have n2 : ¬ kd (h 3 (tS (h 3) n p)) = 2 := fun z => b_196 ⟨by omega, by rw [f0, w3]; exact z⟩
        have kt : tK (h 3) n p = kd (h 3 (tS (h 3) n p)) ∧ tS (h 3) n p < n := by omega
        have t0 : ¬ tK (h 3) n p = 0 := by have := kd_r (h 3 (tS (h 3) n p)); omega
        have t1 : ¬ tK (h 3) n p = 1 := by omega
        have t2 : ¬ tK (h 3) n p = 2 := by omega
        have m4 : (w 50 (w 49 14).toNat = 59 ∨ w 50 (w 49 14).toNat = 40 ∨ w 50 (w 49 14).toNat = 41 ∨ w 50 (w 49 14).toNat = 45) → 4 = mK (h 3) n p := fun z => by
          have z3 : ¬ tK (h 3) n p = 3 := by omega
          unfold mK
          rw [if_neg t0, if_neg t1, if_neg t2, if_neg z3]
        have m5 : ¬ (w 50 (w 49 14).toNat = 59 ∨ w 50 (w 49 14).toNat = 40 ∨ w 50 (w 49 14).toNat = 41 ∨ w 50 (w 49 14).toNat = 45) → 5 = mK (h 3) n p := fun z => by
          have z3 : tK (h 3) n p = 3 := by omega
          unfold mK
          rw [if_neg t0, if_neg t1, if_neg t2, if_pos z3]
        have rg : 0 ≤ w 50 (w 49 14).toNat ∧ w 50 (w 49 14).toNat ≤ 255 := by omega
        have eE : (tE (h 3) n p : Int) = tS (h 3) n p + 1 := by
          unfold tE
          rw [if_pos kt.2, if_neg (fun z => z.elim t1 t2)]
          rfl
        have i49 : 0 ≤ w 49 14 ∧ w 49 14 ≤ 499 := by omega
        have fin : ∀ v : Int, v = mK (h 3) n p → P (upH (upH (upH w 49 16 (w 50 (w 49 14).toNat)) 49 15 v) 49 14 (w 49 14 + 1)) := fun v ev => by
          clear m4 m5 tr er sr ki
          refine k _ (fun a q z => ?_) ⟨?_, ?_, ?_, fun _ => ?_⟩
          · unfold upH
            rw [if_neg (by omega), if_neg (by omega), if_neg (by omega)]
            exact wf a q (by omega)
          · show w 49 17 = tS (w 3) n p
            rw [w3]; exact w17
          · show w 49 14 + 1 = tE (w 3) n p
            rw [w3, w14, eE]
          · show v = mK (w 3) n p
            rw [w3]; exact ev
          · show w 50 (w 49 14).toNat = mW (w 3) n p
            rw [w3, hv]
            unfold mW
            rw [if_neg t1, if_neg t2]
        clear hb n1 n2 kt t0 t1 t2 eE tr er sr ki
        refine r_aload_n dX12_take_277 rfl rfl ?_
        refine r_aload_n dX12_take_278 rfl rfl ?_
        refine r_getR dX12_take_279 fl_X12_7 sh_49 rfl ?_
        refine r_aload_n dX12_take_282 rfl rfl ?_
        refine r_getI dX12_take_283 fl_X12_222 sh_49 rfl ?_
        refine r_iald dX12_take_286 sh_50 (by decide) (by omega) ?_
        refine r_putI dX12_take_287 fl_X12_235 sh_49 rfl ?_
        refine r_aload_n dX12_take_290 rfl rfl ?_
        refine r_aload_n dX12_take_291 rfl rfl ?_
        refine r_getI dX12_take_292 fl_X12_235 sh_49 rfl ?_
        refine r_eqI (up_s _ _ _ _) ?_
        refine r_bipush dX12_take_295 (by decide +kernel) ?_
        refine r_icmp_eq (tgt := 327) dX12_take_297 rfl (by omega) ⟨by decide, by decide⟩ (fun c_297 => ?_) (fun c_297 => ?_)
        · refine r_iconst dX12_take_327 ?_
          refine r_goto (tgt := 332) dX12_take_328 rfl ?_
          refine r_putI dX12_take_332 fl_X12_225 sh_49 rfl ?_
          refine r_aload_n dX12_take_335 rfl rfl ?_
          refine r_dup dX12_take_336 (fun _ h => by cases h) ?_
          refine r_getI dX12_take_337 fl_X12_222 sh_49 rfl ?_
          refine r_eqI (((up_nk (by decide)).trans (up_nk (by decide)))) ?_
          refine r_iconst dX12_take_340 ?_
          refine r_iadd dX12_take_341 ?_
          refine r_putI dX12_take_342 fl_X12_222 sh_49 rfl ?_
          refine r_vret dX12_take_345 rfl ?_
          first
            | exact ⟨rfl, fin _ (m4 (by omega))⟩
            | exact ⟨rfl, fin _ (m5 (by omega))⟩
        · refine r_aload_n dX12_take_300 rfl rfl ?_
          refine r_getI dX12_take_301 fl_X12_235 sh_49 rfl ?_
          refine r_eqI (up_s _ _ _ _) ?_
          refine r_bipush dX12_take_304 (by decide +kernel) ?_
          refine r_icmp_eq (tgt := 327) dX12_take_306 rfl (by omega) ⟨by decide, by decide⟩ (fun c_306 => ?_) (fun c_306 => ?_)
          · refine r_iconst dX12_take_327 ?_
            refine r_goto (tgt := 332) dX12_take_328 rfl ?_
            refine r_putI dX12_take_332 fl_X12_225 sh_49 rfl ?_
            refine r_aload_n dX12_take_335 rfl rfl ?_
            refine r_dup dX12_take_336 (fun _ h => by cases h) ?_
            refine r_getI dX12_take_337 fl_X12_222 sh_49 rfl ?_
            refine r_eqI (((up_nk (by decide)).trans (up_nk (by decide)))) ?_
            refine r_iconst dX12_take_340 ?_
            refine r_iadd dX12_take_341 ?_
            refine r_putI dX12_take_342 fl_X12_222 sh_49 rfl ?_
            refine r_vret dX12_take_345 rfl ?_
            first
              | exact ⟨rfl, fin _ (m4 (by omega))⟩
              | exact ⟨rfl, fin _ (m5 (by omega))⟩
          · refine r_aload_n dX12_take_309 rfl rfl ?_
            refine r_getI dX12_take_310 fl_X12_235 sh_49 rfl ?_
            refine r_eqI (up_s _ _ _ _) ?_
            refine r_bipush dX12_take_313 (by decide +kernel) ?_
            refine r_icmp_eq (tgt := 327) dX12_take_315 rfl (by omega) ⟨by decide, by decide⟩ (fun c_315 => ?_) (fun c_315 => ?_)
            · refine r_iconst dX12_take_327 ?_
              refine r_goto (tgt := 332) dX12_take_328 rfl ?_
              refine r_putI dX12_take_332 fl_X12_225 sh_49 rfl ?_
              refine r_aload_n dX12_take_335 rfl rfl ?_
              refine r_dup dX12_take_336 (fun _ h => by cases h) ?_
              refine r_getI dX12_take_337 fl_X12_222 sh_49 rfl ?_
              refine r_eqI (((up_nk (by decide)).trans (up_nk (by decide)))) ?_
              refine r_iconst dX12_take_340 ?_
              refine r_iadd dX12_take_341 ?_
              refine r_putI dX12_take_342 fl_X12_222 sh_49 rfl ?_
              refine r_vret dX12_take_345 rfl ?_
              first
                | exact ⟨rfl, fin _ (m4 (by omega))⟩
                | exact ⟨rfl, fin _ (m5 (by omega))⟩
            · refine r_aload_n dX12_take_318 rfl rfl ?_
              refine r_getI dX12_take_319 fl_X12_235 sh_49 rfl ?_
              refine r_eqI (up_s _ _ _ _) ?_
              refine r_bipush dX12_take_322 (by decide +kernel) ?_
              refine r_icmp_ne (tgt := 331) dX12_take_324 rfl (by omega) ⟨by decide, by decide⟩ (fun c_324 => ?_) (fun c_324 => ?_)
              · refine r_iconst dX12_take_331 ?_
                refine r_putI dX12_take_332 fl_X12_225 sh_49 rfl ?_
                refine r_aload_n dX12_take_335 rfl rfl ?_
                refine r_dup dX12_take_336 (fun _ h => by cases h) ?_
                refine r_getI dX12_take_337 fl_X12_222 sh_49 rfl ?_
                refine r_eqI (((up_nk (by decide)).trans (up_nk (by decide)))) ?_
                refine r_iconst dX12_take_340 ?_
                refine r_iadd dX12_take_341 ?_
                refine r_putI dX12_take_342 fl_X12_222 sh_49 rfl ?_
                refine r_vret dX12_take_345 rfl ?_
                first
                  | exact ⟨rfl, fin _ (m4 (by omega))⟩
                  | exact ⟨rfl, fin _ (m5 (by omega))⟩
              · refine r_iconst dX12_take_327 ?_
                refine r_goto (tgt := 332) dX12_take_328 rfl ?_
                refine r_putI dX12_take_332 fl_X12_225 sh_49 rfl ?_
                refine r_aload_n dX12_take_335 rfl rfl ?_
                refine r_dup dX12_take_336 (fun _ h => by cases h) ?_
                refine r_getI dX12_take_337 fl_X12_222 sh_49 rfl ?_
                refine r_eqI (((up_nk (by decide)).trans (up_nk (by decide)))) ?_
                refine r_iconst dX12_take_340 ?_
                refine r_iadd dX12_take_341 ?_
                refine r_putI dX12_take_342 fl_X12_222 sh_49 rfl ?_
                refine r_vret dX12_take_345 rfl ?_
                first
                  | exact ⟨rfl, fin _ (m4 (by omega))⟩
                  | exact ⟨rfl, fin _ (m5 (by omega))⟩
  · refine r_aload_n dX12_take_71 rfl rfl ?_
    refine r_iconst dX12_take_72 ?_
    refine r_putI dX12_take_73 fl_X12_225 sh_49 rfl ?_
    refine r_goto (tgt := 345) dX12_take_76 rfl ?_
    refine r_vret dX12_take_345 rfl ?_
    refine ⟨rfl, k _ (fun a q z => ?_) ⟨?_, ?_, ?_, fun z => ?_⟩⟩
    · unfold upH
      rw [if_neg (by omega)]
      exact wf a q (by omega)
    · show w 49 17 = tS (w 3) n p
      rw [w3]; exact w17
    · show w 49 14 = tE (w 3) n p
      rw [w3, w14]
      omega
    · show 0 = mK (w 3) n p
      rw [w3]
      unfold mK
      rw [if_pos (by omega)]
    · exfalso
      have z2 : tK (w 3) n p ≠ 0 := z
      rw [w3] at z2
      omega
