/-! WHAT A STATEMENT SAYS, THE CLASS -/
def nkS (b : Nat → Int) (n : Nat) (s : Sg) : Nat → Sg
  | 0 => s
  | j + 1 => nuS b n 0 999 (nkS b n s j)
theorem nkS_f {b : Nat → Int} {n : Nat} {s : Sg} (h : ¬ s.2.1 = 0) : ∀ j : Nat, nkS b n s j = s
  | 0 => rfl
  | j + 1 => by rw [nkS, nkS_f h j, nuS_f h]
abbrev FrS (i : Nat) (h g : Hp) : Prop := ∀ a k, ¬ (a = 2 ∧ (k = 1 ∨ k = 2 ∨ k = 3 ∨ k = 4)) → ¬ (a = 14 ∧ (k = 2 ∨ k = 3)) → ¬ (a = 8 ∧ 5 * i ≤ k ∧ k < 5 * i + 5) → ¬ (a = 7 ∧ k = i) → g a k = h a k
theorem FrS.of {i : Nat} {h g : Hp} (f : FrP h g) : FrS i h g := fun a k z1 z2 _ _ => f a k z1 z2
theorem FrS.tr {i : Nat} {h g k : Hp} (f : FrS i h g) (f2 : FrS i g k) : FrS i h k := fun a q z1 z2 z3 z4 => (f2 a q z1 z2 z3 z4).trans (f a q z1 z2 z3 z4)
theorem FrS.up {i q : Nat} {h g : Hp} {z : Int} (f : FrS i h g) (hq : q < 5) : FrS i h (upH g 8 (5 * i + q) z) := fun a k z1 z2 z3 z4 => by
  rw [show upH g 8 (5 * i + q) z a k = g a k by unfold upH; rw [if_neg (by omega)]]
  exact f a k z1 z2 z3 z4
theorem FrS.b {i : Nat} {h g : Hp} (f : FrS i h g) : g 3 = h 3 := funext fun j => f 3 j (by omega) (by omega) (by omega) (by omega)
theorem FrS.tx {i : Nat} {h g : Hp} {n : Nat} (f : FrS i h g) (t : TX h n) : TX g n := ⟨(f 2 5 (by decide) (by decide) (by omega) (by omega)).trans t.1, t.2.1, by rw [f.b]; exact t.2.2⟩
set_option maxRecDepth 20000 in
set_option maxHeartbeats 400000 in
theorem lp_nums {d : Nat} (hd : 3 ≤ d) {post : Pst} {h : Hp} {n i m : Nat} {v : Int} {s : Sg} (hx : TX h n) (hi : i < 60) (hm : m ≤ 4) (K : ∀ (g : Hp) (o : Option AV), PS g n (nkS (h 3) n s m) → FrS i h g → (∀ q : Nat, q < m → g 8 (5 * i + q) = nuV (h 3) n 0 999 (nkS (h 3) n s q)) → WW mX3_readNumbers (d + 1) post 242 [some (.inr (.inr 14)), some (.inl (i : Int)), some (.inl v), some (.inl (m : Int)), o] [] g) : ∀ (nn : Nat) (j : Nat) (g : Hp), (j ≤ m) → (PS g n (nkS (h 3) n s j)) → (FrS i h g) → (∀ q : Nat, q < j → g 8 (5 * i + q) = nuV (h 3) n 0 999 (nkS (h 3) n s q)) → m - j < nn → WW mX3_readNumbers (d + 1) post 212 [some (.inr (.inr 14)), some (.inl (i : Int)), some (.inl v), some (.inl (m : Int)), some (.inl (j : Int))] [] g := by
  intro nn
  induction nn with
  | zero => intro j g hj gp gf gv; intros; omega
  | succ nn ih =>
    intro j g hj gp gf gv hmu
    refine r_iload dX3_readNumbers_212 rfl ?_
    refine r_iload_n dX3_readNumbers_214 rfl rfl ?_
    refine r_icmp_ge (tgt := 242) dX3_readNumbers_215 rfl (by omega) (by omega) (fun c_215 => ?_) (fun c_215 => ?_)
    · have e : j = m := by omega
      subst e
      exact K g _ gp gf gv
    · refine r_aload_n dX3_readNumbers_218 rfl rfl ?_
      refine r_getR dX3_readNumbers_219 fl_X3_29 sh_14 rfl ?_
      refine r_iload_n dX3_readNumbers_222 rfl rfl ?_
      refine r_iload dX3_readNumbers_223 rfl ?_
      refine r_aload_n dX3_readNumbers_225 rfl rfl ?_
      refine r_iconst dX3_readNumbers_226 ?_
      refine r_sipush dX3_readNumbers_227 (by decide +kernel) ?_
      refine r_callVI (av := [_, _]) (M' := mX3_takeNumber) dX3_readNumbers_230 vX3_takeNumber ml_X3_103 sh_14 (by decide) rfl rfl rfl rfl (by simp [wtA]) (sp_X3_takeNumber (by omega) (gf.tx hx) gp (by omega) (by omega) (fun h_230 f0_230 f1_230 => ?_))
      refine r_callVU (av := [_, _, _]) (M' := mX7_put) dX3_readNumbers_233 vX7_put ml_X3_107 sh_4 (by decide) rfl rfl rfl rfl (by simp [wtA]) (sp_X7_put (by omega) (by omega) (by omega) ?_)
      refine r_iinc (L' := [_, _, _, _, _]) dX3_readNumbers_236 rfl rfl (by decide) rfl ?_
      refine r_goto (tgt := 212) dX3_readNumbers_239 rfl ?_
      rw [show (5 * (i : Int) + (j : Int)).toNat = 5 * i + j by omega]
      rw [gf.b] at f1_230 ⊢
      refine ih (j + 1) _ (by omega) (f1_230.up (by decide) (by decide) (by omega)) ((gf.tr (FrS.of f0_230)).up (by omega)) (fun q hq => ?_) (by omega)
      by_cases z : q = j
      · rw [z, up_s]
      · rw [up_nk (by omega), f0_230 8 _ (by omega) (by omega)]
        exact gv q (by omega)
set_option maxRecDepth 20000 in
set_option maxHeartbeats 400000 in
theorem sp_rnLine {d : Nat} (hd : 4 ≤ d) {h : Hp} {n i : Nat} {s : Sg} (hx : TX h n) (hp : PS h n s) (hi : i < 60) {P : Hp → Prop} (k : ∀ h' : Hp, (FrS i h h') → (PS h' n (nkS (h 3) n s 4)) → (∀ q : Nat, q < 4 → h' 8 (5 * i + q) = nuV (h 3) n 0 999 (nkS (h 3) n s q)) → P h') : Cl d mX3_readNumbers [.inr (.inr 14), .inl (i : Int), .inl 2] h (pV P) := by
  refine Cl.of (L := [some (.inr (.inr 14)), some (.inl (i : Int)), some (.inl 2), none, none]) (by decide +kernel) (Nat.le_of_ble_eq_true rfl) rfl ?_
  obtain ⟨d, rfl⟩ : ∃ q, d = q + 1 := ⟨d - 1, by omega⟩
  refine r_iload_n dX3_readNumbers_0 rfl rfl ?_
  refine r_lookup (off := 197) (tgt := 198) dX3_readNumbers_1 (by decide +kernel) ⟨by decide, by decide⟩ (by decide +kernel) rfl ?_
  refine r_iload_n dX3_readNumbers_198 rfl rfl ?_
  refine r_iconst dX3_readNumbers_199 ?_
  refine r_icmp_ne (tgt := 207) dX3_readNumbers_200 rfl ⟨by decide, by decide⟩ ⟨by decide, by decide⟩ (fun c_200 => ?_) (fun c_200 => absurd c_200 (by decide))
  refine r_iconst dX3_readNumbers_207 ?_
  refine r_istore_n (L' := [_, _, _, _, _]) dX3_readNumbers_208 rfl rfl (by decide) rfl ?_
  refine r_iconst dX3_readNumbers_209 ?_
  refine r_istore (L' := [_, _, _, _, _]) dX3_readNumbers_210 rfl (by decide) rfl ?_
  refine lp_nums (m := 4) (by omega) hx hi (by decide) (fun g o y0 y1 y2 => ?_) 5 0 h (by decide) hp (FrS.of FrP.rf) (fun q hq => absurd hq (Nat.not_lt_zero q)) (by decide)
  refine r_iload_n dX3_readNumbers_242 rfl rfl ?_
  refine r_iconst dX3_readNumbers_243 ?_
  refine r_icmp_ne (tgt := 263) dX3_readNumbers_244 rfl ⟨by decide, by decide⟩ ⟨by decide, by decide⟩ (fun c_244 => ?_) (fun c_244 => absurd c_244 (by decide))
  refine r_vret dX3_readNumbers_263 rfl ?_
  exact ⟨rfl, k g y1 y0 y2⟩
set_option maxRecDepth 20000 in
set_option maxHeartbeats 400000 in
theorem sp_rnTo {d : Nat} (hd : 4 ≤ d) {h : Hp} {n i : Nat} {s : Sg} (hx : TX h n) (hp : PS h n s) (hi : i < 60) {P : Hp → Prop} (k : ∀ h' : Hp, (FrS i h h') → (PS h' n (nkS (h 3) n s 2)) → (∀ q : Nat, q < 2 → h' 8 (5 * i + q) = nuV (h 3) n 0 999 (nkS (h 3) n s q)) → P h') : Cl d mX3_readNumbers [.inr (.inr 14), .inl (i : Int), .inl 3] h (pV P) := by
  refine Cl.of (L := [some (.inr (.inr 14)), some (.inl (i : Int)), some (.inl 3), none, none]) (by decide +kernel) (Nat.le_of_ble_eq_true rfl) rfl ?_
  obtain ⟨d, rfl⟩ : ∃ q, d = q + 1 := ⟨d - 1, by omega⟩
  refine r_iload_n dX3_readNumbers_0 rfl rfl ?_
  refine r_lookup (off := 197) (tgt := 198) dX3_readNumbers_1 (by decide +kernel) ⟨by decide, by decide⟩ (by decide +kernel) rfl ?_
  refine r_iload_n dX3_readNumbers_198 rfl rfl ?_
  refine r_iconst dX3_readNumbers_199 ?_
  refine r_icmp_ne (tgt := 207) dX3_readNumbers_200 rfl ⟨by decide, by decide⟩ ⟨by decide, by decide⟩ (fun c_200 => absurd c_200 (by decide)) (fun c_200 => ?_)
  refine r_iconst dX3_readNumbers_203 ?_
  refine r_goto (tgt := 208) dX3_readNumbers_204 rfl ?_
  refine r_istore_n (L' := [_, _, _, _, _]) dX3_readNumbers_208 rfl rfl (by decide) rfl ?_
  refine r_iconst dX3_readNumbers_209 ?_
  refine r_istore (L' := [_, _, _, _, _]) dX3_readNumbers_210 rfl (by decide) rfl ?_
  refine lp_nums (m := 2) (by omega) hx hi (by decide) (fun g o y0 y1 y2 => ?_) 3 0 h (by decide) hp (FrS.of FrP.rf) (fun q hq => absurd hq (Nat.not_lt_zero q)) (by decide)
  refine r_iload_n dX3_readNumbers_242 rfl rfl ?_
  refine r_iconst dX3_readNumbers_243 ?_
  refine r_icmp_ne (tgt := 263) dX3_readNumbers_244 rfl ⟨by decide, by decide⟩ ⟨by decide, by decide⟩ (fun c_244 => ?_) (fun c_244 => absurd c_244 (by decide))
  refine r_vret dX3_readNumbers_263 rfl ?_
  exact ⟨rfl, k g y1 y0 y2⟩
set_option maxRecDepth 20000 in
set_option maxHeartbeats 400000 in
theorem sp_rnHatch {d : Nat} (hd : 4 ≤ d) {h : Hp} {n i : Nat} {s : Sg} (hx : TX h n) (hp : PS h n s) (hi : i < 60) {P : Hp → Prop} (k : ∀ h' : Hp, (FrS i h h') → (PS h' n (nuS (h 3) n 1 99 (nkS (h 3) n s 4))) → (∀ q : Nat, q < 4 → h' 8 (5 * i + q) = nuV (h 3) n 0 999 (nkS (h 3) n s q)) → (h' 8 (5 * i + 4) = nuV (h 3) n 1 99 (nkS (h 3) n s 4)) → P h') : Cl d mX3_readNumbers [.inr (.inr 14), .inl (i : Int), .inl 4] h (pV P) := by
  refine Cl.of (L := [some (.inr (.inr 14)), some (.inl (i : Int)), some (.inl 4), none, none]) (by decide +kernel) (Nat.le_of_ble_eq_true rfl) rfl ?_
  obtain ⟨d, rfl⟩ : ∃ q, d = q + 1 := ⟨d - 1, by omega⟩
  refine r_iload_n dX3_readNumbers_0 rfl rfl ?_
  refine r_lookup (off := 197) (tgt := 198) dX3_readNumbers_1 (by decide +kernel) ⟨by decide, by decide⟩ (by decide +kernel) rfl ?_
  refine r_iload_n dX3_readNumbers_198 rfl rfl ?_
  refine r_iconst dX3_readNumbers_199 ?_
  refine r_icmp_ne (tgt := 207) dX3_readNumbers_200 rfl ⟨by decide, by decide⟩ ⟨by decide, by decide⟩ (fun c_200 => ?_) (fun c_200 => absurd c_200 (by decide))
  refine r_iconst dX3_readNumbers_207 ?_
  refine r_istore_n (L' := [_, _, _, _, _]) dX3_readNumbers_208 rfl rfl (by decide) rfl ?_
  refine r_iconst dX3_readNumbers_209 ?_
  refine r_istore (L' := [_, _, _, _, _]) dX3_readNumbers_210 rfl (by decide) rfl ?_
  refine lp_nums (m := 4) (by omega) hx hi (by decide) (fun g o y0 y1 y2 => ?_) 5 0 h (by decide) hp (FrS.of FrP.rf) (fun q hq => absurd hq (Nat.not_lt_zero q)) (by decide)
  refine r_iload_n dX3_readNumbers_242 rfl rfl ?_
  refine r_iconst dX3_readNumbers_243 ?_
  refine r_icmp_ne (tgt := 263) dX3_readNumbers_244 rfl ⟨by decide, by decide⟩ ⟨by decide, by decide⟩ (fun c_244 => absurd c_244 (by decide)) (fun c_244 => ?_)
  refine r_aload_n dX3_readNumbers_247 rfl rfl ?_
  refine r_getR dX3_readNumbers_248 fl_X3_29 sh_14 rfl ?_
  refine r_iload_n dX3_readNumbers_251 rfl rfl ?_
  refine r_iconst dX3_readNumbers_252 ?_
  refine r_aload_n dX3_readNumbers_253 rfl rfl ?_
  refine r_iconst dX3_readNumbers_254 ?_
  refine r_bipush dX3_readNumbers_255 (by decide +kernel) ?_
  refine r_callVI (av := [_, _]) (M' := mX3_takeNumber) dX3_readNumbers_257 vX3_takeNumber ml_X3_103 sh_14 (by decide) rfl rfl rfl rfl (by simp [wtA]) (sp_X3_takeNumber (by omega) (y1.tx hx) y0 (by omega) (by omega) (fun h_257 f0_257 f1_257 => ?_))
  refine r_callVU (av := [_, _, _]) (M' := mX7_put) dX3_readNumbers_260 vX7_put ml_X3_107 sh_4 (by decide) rfl rfl rfl rfl (by simp [wtA]) (sp_X7_put (by omega) (by omega) (by omega) ?_)
  refine r_vret dX3_readNumbers_263 rfl ?_
  rw [show (5 * (i : Int) + 4).toNat = 5 * i + 4 by omega]
  rw [y1.b] at f1_257 ⊢
  refine ⟨rfl, k _ ((y1.tr (FrS.of f0_257)).up (by decide)) (f1_257.up (by decide) (by decide) (by omega)) (fun q hq => ?_) (up_s _ _ _ _)⟩
  rw [up_nk (by omega), f0_257 8 _ (by omega) (by omega)]
  exact y2 q hq
def clS (b : Nat → Int) (n : Nat) (s : Sg) : Nat → Sg
  | 0 => s
  | 1 => nuS b n 0 999 s
  | 2 => nuS b n 0 999 (nuS b n 0 999 s)
  | 3 => nuS b n 0 999 (abS b n (nuV b n 0 999 s) (nuS b n 0 999 (nuS b n 0 999 s)))
  | _ => nuS b n 0 999 (abS b n (nuV b n 0 999 (nuS b n 0 999 s)) (nuS b n 0 999 (abS b n (nuV b n 0 999 s) (nuS b n 0 999 (nuS b n 0 999 s)))))
def clV (b : Nat → Int) (n : Nat) (s : Sg) : Nat → Int
  | 0 => nuV b n 0 999 s
  | 1 => nuV b n 0 999 (clS b n s 1)
  | 2 => nuV b n 0 999 (abS b n (nuV b n 0 999 s) (clS b n s 2))
  | _ => nuV b n 0 999 (abS b n (nuV b n 0 999 (clS b n s 1)) (clS b n s 3))
set_option maxRecDepth 20000 in
set_option maxHeartbeats 400000 in
theorem sp_rnClip {d : Nat} (hd : 4 ≤ d) {h : Hp} {n i : Nat} {s : Sg} (hx : TX h n) (hp : PS h n s) (hi : i < 60) {P : Hp → Prop} (k : ∀ h' : Hp, (FrS i h h') → (PS h' n (clS (h 3) n s 4)) → (h' 8 (5 * i + 0) = clV (h 3) n s 0) → (h' 8 (5 * i + 1) = clV (h 3) n s 1) → (h' 8 (5 * i + 2) = clV (h 3) n s 2) → (h' 8 (5 * i + 3) = clV (h 3) n s 3) → P h') : Cl d mX3_readNumbers [.inr (.inr 14), .inl (i : Int), .inl 5] h (pV P) := by
  refine Cl.of (L := [some (.inr (.inr 14)), some (.inl (i : Int)), some (.inl 5), none, none]) (by decide +kernel) (Nat.le_of_ble_eq_true rfl) rfl ?_
  obtain ⟨d, rfl⟩ : ∃ q, d = q + 1 := ⟨d - 1, by omega⟩
  refine r_iload_n dX3_readNumbers_0 rfl rfl ?_
  refine r_lookup (off := 100) (tgt := 101) dX3_readNumbers_1 (by decide +kernel) ⟨by decide, by decide⟩ (by decide +kernel) rfl ?_
  refine r_aload_n dX3_readNumbers_101 rfl rfl ?_
  refine r_getR dX3_readNumbers_102 fl_X3_29 sh_14 rfl ?_
  refine r_iload_n dX3_readNumbers_105 rfl rfl ?_
  refine r_iconst dX3_readNumbers_106 ?_
  refine r_aload_n dX3_readNumbers_107 rfl rfl ?_
  refine r_iconst dX3_readNumbers_108 ?_
  refine r_sipush dX3_readNumbers_109 (by decide +kernel) ?_
  refine r_callVI (av := [_, _]) (M' := mX3_takeNumber) dX3_readNumbers_112 vX3_takeNumber ml_X3_103 sh_14 (by decide) rfl rfl rfl rfl (by simp [wtA]) (sp_X3_takeNumber (by omega) hx hp (by omega) (by omega) (fun h_112 f0_112 f1_112 => ?_))
  refine r_callVU (av := [_, _, _]) (M' := mX7_put) dX3_readNumbers_115 vX7_put ml_X3_107 sh_4 (by decide) rfl rfl rfl rfl (by simp [wtA]) (sp_X7_put (by omega) (by omega) (by omega) ?_)
  refine r_gh (fun g1 eg1 => ?_)
  rw [show (5 * (i : Int) + 0).toNat = 5 * i + 0 by omega] at eg1
  have fg1 : FrS i h g1 := by rw [eg1]; exact FrS.up (FrS.of f0_112) (by decide)
  have pg1 : PS g1 n (nuS (h 3) n 0 999 s) := by rw [eg1]; exact f1_112.up (by decide) (by decide) (by omega)
  have xg1 : g1 8 (5 * i + 0) = nuV (h 3) n 0 999 s := by rw [eg1, up_s]
  refine r_aload_n dX3_readNumbers_118 rfl rfl ?_
  refine r_getR dX3_readNumbers_119 fl_X3_29 sh_14 rfl ?_
  refine r_iload_n dX3_readNumbers_122 rfl rfl ?_
  refine r_iconst dX3_readNumbers_123 ?_
  refine r_aload_n dX3_readNumbers_124 rfl rfl ?_
  refine r_iconst dX3_readNumbers_125 ?_
  refine r_sipush dX3_readNumbers_126 (by decide +kernel) ?_
  refine r_callVI (av := [_, _]) (M' := mX3_takeNumber) dX3_readNumbers_129 vX3_takeNumber ml_X3_103 sh_14 (by decide) rfl rfl rfl rfl (by simp [wtA]) (sp_X3_takeNumber (by omega) (fg1.tx hx) pg1 (by omega) (by omega) (fun h_129 f0_129 f1_129 => ?_))
  refine r_callVU (av := [_, _, _]) (M' := mX7_put) dX3_readNumbers_132 vX7_put ml_X3_107 sh_4 (by decide) rfl rfl rfl rfl (by simp [wtA]) (sp_X7_put (by omega) (by omega) (by omega) ?_)
  refine r_gh (fun g2 eg2 => ?_)
  rw [show (5 * (i : Int) + 1).toNat = 5 * i + 1 by omega] at eg2
  have fg2 : FrS i h g2 := by rw [eg2]; exact FrS.up (fg1.tr (FrS.of f0_129)) (by decide)
  rw [fg1.b] at f1_129
  have pg2 : PS g2 n (nuS (h 3) n 0 999 (nuS (h 3) n 0 999 s)) := by rw [eg2]; exact f1_129.up (by decide) (by decide) (by omega)
  have xg2 : g2 8 (5 * i + 1) = nuV (h 3) n 0 999 (nuS (h 3) n 0 999 s) := by rw [eg2, up_s, fg1.b]
  have xg2_0 : g2 8 (5 * i + 0) = g1 8 (5 * i + 0) := by rw [eg2, up_nk (by omega), f0_129 8 _ (by omega) (by omega)]
  have r0 := nuV_r (b := h 3) (n := n) (lo := 0) (hi := 999) (s := s) (by decide) (by decide)
  have r1 := nuV_r (b := h 3) (n := n) (lo := 0) (hi := 999) (s := nuS (h 3) n 0 999 s) (by decide) (by decide)
  refine r_aload_n dX3_readNumbers_135 rfl rfl ?_
  refine r_aload_n dX3_readNumbers_136 rfl rfl ?_
  refine r_getR dX3_readNumbers_137 fl_X3_29 sh_14 rfl ?_
  refine r_iload_n dX3_readNumbers_140 rfl rfl ?_
  refine r_iconst dX3_readNumbers_141 ?_
  refine r_callVI (av := [_, _]) (M' := mX7_get) dX3_readNumbers_142 vX7_get ml_X3_110 sh_4 (by decide) rfl rfl rfl rfl (by simp [wtA]) (sp_X7_get (by omega) (by omega) (by omega) ?_)
  rw [show (5 * (i : Int) + 0).toNat = 5 * i + 0 by omega, xg2_0, xg1]
  refine r_callVU (av := [_]) (M' := mX3_checkAbove) dX3_readNumbers_145 vX3_checkAbove ml_X3_113 sh_14 (by decide) rfl rfl rfl rfl (by simp [wtA]) (sp_X3_checkAbove (by omega) (fg2.tx hx) pg2 (by omega) (fun h_145 f0_145 f1_145 => ?_))
  rw [fg2.b] at f1_145
  have fa := fg2.tr (FrS.of f0_145)
  refine r_aload_n dX3_readNumbers_148 rfl rfl ?_
  refine r_getR dX3_readNumbers_149 fl_X3_29 sh_14 rfl ?_
  refine r_iload_n dX3_readNumbers_152 rfl rfl ?_
  refine r_iconst dX3_readNumbers_153 ?_
  refine r_aload_n dX3_readNumbers_154 rfl rfl ?_
  refine r_iconst dX3_readNumbers_155 ?_
  refine r_sipush dX3_readNumbers_156 (by decide +kernel) ?_
  refine r_callVI (av := [_, _]) (M' := mX3_takeNumber) dX3_readNumbers_159 vX3_takeNumber ml_X3_103 sh_14 (by decide) rfl rfl rfl rfl (by simp [wtA]) (sp_X3_takeNumber (by omega) (fa.tx hx) f1_145 (by omega) (by omega) (fun h_159 f0_159 f1_159 => ?_))
  refine r_callVU (av := [_, _, _]) (M' := mX7_put) dX3_readNumbers_162 vX7_put ml_X3_107 sh_4 (by decide) rfl rfl rfl rfl (by simp [wtA]) (sp_X7_put (by omega) (by omega) (by omega) ?_)
  refine r_gh (fun g3 eg3 => ?_)
  rw [show (5 * (i : Int) + 2).toNat = 5 * i + 2 by omega] at eg3
  have fg3 : FrS i h g3 := by rw [eg3]; exact FrS.up (fa.tr (FrS.of f0_159)) (by decide)
  rw [fa.b] at f1_159
  have pg3 : PS g3 n (nuS (h 3) n 0 999 (abS (h 3) n (nuV (h 3) n 0 999 s) (nuS (h 3) n 0 999 (nuS (h 3) n 0 999 s)))) := by rw [eg3]; exact f1_159.up (by decide) (by decide) (by omega)
  have xg3 : g3 8 (5 * i + 2) = nuV (h 3) n 0 999 (abS (h 3) n (nuV (h 3) n 0 999 s) (nuS (h 3) n 0 999 (nuS (h 3) n 0 999 s))) := by rw [eg3, up_s, fa.b]
  have xg3_0 : g3 8 (5 * i + 0) = g2 8 (5 * i + 0) := by rw [eg3, up_nk (by omega), f0_159 8 _ (by omega) (by omega), f0_145 8 _ (by omega) (by omega)]
  have xg3_1 : g3 8 (5 * i + 1) = g2 8 (5 * i + 1) := by rw [eg3, up_nk (by omega), f0_159 8 _ (by omega) (by omega), f0_145 8 _ (by omega) (by omega)]
  refine r_aload_n dX3_readNumbers_165 rfl rfl ?_
  refine r_aload_n dX3_readNumbers_166 rfl rfl ?_
  refine r_getR dX3_readNumbers_167 fl_X3_29 sh_14 rfl ?_
  refine r_iload_n dX3_readNumbers_170 rfl rfl ?_
  refine r_iconst dX3_readNumbers_171 ?_
  refine r_callVI (av := [_, _]) (M' := mX7_get) dX3_readNumbers_172 vX7_get ml_X3_110 sh_4 (by decide) rfl rfl rfl rfl (by simp [wtA]) (sp_X7_get (by omega) (by omega) (by omega) ?_)
  rw [show (5 * (i : Int) + 1).toNat = 5 * i + 1 by omega, xg3_1, xg2]
  refine r_callVU (av := [_]) (M' := mX3_checkAbove) dX3_readNumbers_175 vX3_checkAbove ml_X3_113 sh_14 (by decide) rfl rfl rfl rfl (by simp [wtA]) (sp_X3_checkAbove (by omega) (fg3.tx hx) pg3 (by omega) (fun h_175 f0_175 f1_175 => ?_))
  rw [fg3.b] at f1_175
  have fb := fg3.tr (FrS.of f0_175)
  refine r_aload_n dX3_readNumbers_178 rfl rfl ?_
  refine r_getR dX3_readNumbers_179 fl_X3_29 sh_14 rfl ?_
  refine r_iload_n dX3_readNumbers_182 rfl rfl ?_
  refine r_iconst dX3_readNumbers_183 ?_
  refine r_aload_n dX3_readNumbers_184 rfl rfl ?_
  refine r_iconst dX3_readNumbers_185 ?_
  refine r_sipush dX3_readNumbers_186 (by decide +kernel) ?_
  refine r_callVI (av := [_, _]) (M' := mX3_takeNumber) dX3_readNumbers_189 vX3_takeNumber ml_X3_103 sh_14 (by decide) rfl rfl rfl rfl (by simp [wtA]) (sp_X3_takeNumber (by omega) (fb.tx hx) f1_175 (by omega) (by omega) (fun h_189 f0_189 f1_189 => ?_))
  refine r_callVU (av := [_, _, _]) (M' := mX7_put) dX3_readNumbers_192 vX7_put ml_X3_107 sh_4 (by decide) rfl rfl rfl rfl (by simp [wtA]) (sp_X7_put (by omega) (by omega) (by omega) ?_)
  refine r_goto (tgt := 263) dX3_readNumbers_195 rfl ?_
  refine r_vret dX3_readNumbers_263 rfl ?_
  rw [show (5 * (i : Int) + 3).toNat = 5 * i + 3 by omega]
  rw [fb.b] at f1_189 ⊢
  refine ⟨rfl, k _ (FrS.up (fb.tr (FrS.of f0_189)) (by decide)) (f1_189.up (by decide) (by decide) (by omega)) ?_ ?_ ?_ (up_s _ _ _ _)⟩
  · rw [up_nk (by omega), f0_189 8 _ (by omega) (by omega), f0_175 8 _ (by omega) (by omega), xg3_0, xg2_0, xg1]
    rfl
  · rw [up_nk (by omega), f0_189 8 _ (by omega) (by omega), f0_175 8 _ (by omega) (by omega), xg3_1, xg2]
    rfl
  · rw [up_nk (by omega), f0_189 8 _ (by omega) (by omega), f0_175 8 _ (by omega) (by omega), xg3]
    rfl
