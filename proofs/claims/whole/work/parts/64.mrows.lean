/-! A STATEMENT OF THE REFERENCE -/
abbrev FrD (h g : Hp) : Prop := ∀ x k, ¬ (x = 49 ∧ (k = 10 ∨ k = 11 ∨ k = 14 ∨ k = 15 ∨ k = 16 ∨ k = 17 ∨ k = 18 ∨ k = 22 ∨ k = 24)) → ¬ (52 ≤ x ∧ x ≤ 59) → g x k = h x k
abbrev FrG (i : Nat) (h g : Hp) : Prop := ∀ x k, ¬ (x = 52 ∧ k = i) → ¬ (x = 49 ∧ k = 18) → g x k = h x k
abbrev MtA (h g : Hp) (i : Nat) (v : Int) : Prop := g 49 18 = i + 1 ∧ (∀ k : Nat, k ≠ i → g 52 k = h 52 k) ∧ g 52 i = v ∧ (∀ k : Nat, k < 5 * i ∨ 5 * i + 5 ≤ k → g 53 k = h 53 k) ∧ ∀ k : Nat, g 54 k = h 54 k
abbrev MtF (h g : Hp) : Prop := g 49 24 = h 49 24 ∧ ∀ a k : Nat, 56 ≤ a → a ≤ 59 → g a k = h a k
abbrev MtO (h g : Hp) : Prop := g 49 22 = h 49 22 ∧ ∀ k : Nat, g 55 k = h 55 k
abbrev Mt0 (h g : Hp) (n F : Nat) (t : Sg) : Prop := (g 49 24 = F + 1 ∧ g 56 F = pkF (h 3) (tS (h 3) n t.1) (tE (h 3) n t.1) ∧ g 57 F = sqC (h 3) n (ffS (h 3) n (fiM h n t.1 F) t) 12) ∧ (∀ q : Nat, q < sqC (h 3) n (ffS (h 3) n (fiM h n t.1 F) t) 12 → g 58 (12 * F + q) = nuV (h 3) n 0 99 (sqS (h 3) n (ffS (h 3) n (fiM h n t.1 F) t) q) ∧ g 59 (12 * F + q) = nuV (h 3) n 0 99 (nuS (h 3) n 0 99 (sqS (h 3) n (ffS (h 3) n (fiM h n t.1 F) t) q))) ∧ (∀ k : Nat, k ≠ F → g 56 k = h 56 k ∧ g 57 k = h 57 k) ∧ ∀ k : Nat, k < 12 * F ∨ 12 * F + 12 ≤ k → g 58 k = h 58 k ∧ g 59 k = h 59 k
abbrev MtV (h g : Hp) (n F i : Nat) (v : Int) (t : Sg) : Prop :=
  (v = 1 → g 53 (5 * i) = fiM h n t.1 F ∧ g 53 (5 * i + 1) = nuV (h 3) n 0 999 (fpS (h 3) n (fiM h n t.1 F) t) ∧ g 53 (5 * i + 2) = nuV (h 3) n 0 999 (nkS (h 3) n (fpS (h 3) n (fiM h n t.1 F) t) 1) ∧ g 53 (5 * i + 3) = nuV (h 3) n 0 99 (nkS (h 3) n (fpS (h 3) n (fiM h n t.1 F) t) 2)) ∧
  (v = 2 → ∀ q : Nat, q < 4 → g 53 (5 * i + q) = nuV (h 3) n 0 999 (nkS (h 3) n t q)) ∧ (v = 3 → ∀ q : Nat, q < 2 → g 53 (5 * i + q) = nuV (h 3) n 0 999 (nkS (h 3) n t q)) ∧
  (v = 4 → (∀ q : Nat, q < 4 → g 53 (5 * i + q) = nuV (h 3) n 0 999 (nkS (h 3) n t q)) ∧ g 53 (5 * i + 4) = nuV (h 3) n 1 99 (nkS (h 3) n t 4)) ∧
  (v = 5 → ∀ q : Nat, q < 4 → g 53 (5 * i + q) = clV (h 3) n t q) ∧
  (v = 6 → (∀ q : Nat, q < 3 → g 53 (5 * i + q) = arV (h 3) n t q) ∧ g 55 (h 49 22).toNat = i ∧ g 49 22 = h 49 22 + 1 ∧ ∀ k : Nat, k ≠ (h 49 22).toNat → g 55 k = h 55 k)
def MtG (h g : Hp) (n F i : Nat) (v : Int) (t : Sg) : Prop := MtA h g i v ∧ (v = 0 → Mt0 h g n F t) ∧ (v ≠ 0 → MtF h g) ∧ (v ≠ 6 → MtO h g) ∧ MtV h g n F i v t
noncomputable def acS (b : Nat → Int) (n : Nat) (fi op : Int) (i F : Nat) (s : Sg) : Sg := if vbF b n s.1 < 0 then flS b n 1 s else if 60 ≤ i ∨ (vbF b n s.1 = 0 ∧ 8 ≤ F) then flS b n 2 s else stS b n fi op (vbF b n s.1) (tE3 b n s)
theorem FrD.q {h g : Hp} (f : FrQ h g) : FrD h g := fun x k z1 z2 => f x k (by omega)
theorem FrD.gq {i : Nat} {h g u : Hp} (gf : FrG i h g) (f : FrQ g u) : FrD h u := fun x k z1 z2 => (f x k (by omega)).trans (gf x k (by omega) (by omega))
theorem FrD.a {i : Nat} {h g u : Hp} (gf : FrG i h g) (f : FrA i g u) : FrD h u := fun x k z1 z2 => (f x k (by omega) (by omega)).trans (gf x k (by omega) (by omega))
theorem FrD.f {i F : Nat} {h g u : Hp} (gf : FrG i h g) (f : FrO F g u) : FrD h u := fun x k z1 z2 => (f x k (by omega) (by omega) (by omega)).trans (gf x k (by omega) (by omega))
abbrev FrN (i o : Nat) (g u : Hp) : Prop := ∀ x k, ¬ (x = 49 ∧ (k = 10 ∨ k = 11 ∨ k = 14 ∨ k = 15 ∨ k = 16 ∨ k = 17)) → ¬ (x = 53 ∧ 5 * i ≤ k ∧ k < 5 * i + 5) → ¬ (x = 49 ∧ k = 22) → ¬ (x = 55 ∧ k = o) → u x k = g x k
theorem FrD.n {i o : Nat} {h g u : Hp} (gf : FrG i h g) (f : FrN i o g u) : FrD h u := fun x k z1 z2 => (f x k (by omega) (by omega) (by omega) (by omega)).trans (gf x k (by omega) (by omega))
theorem MtG.a {h g u : Hp} {n F i : Nat} {v : Int} {t : Sg} (gf : FrG i h g) (f : FrA i g u) (g18 : g 49 18 = i + 1) (g52 : g 52 i = v) (v0 : v ≠ 0) (mv : MtV h u n F i v t) : MtG h u n F i v t := by
  have fu : ∀ x k, ¬ (x = 49 ∧ (k = 10 ∨ k = 11 ∨ k = 14 ∨ k = 15 ∨ k = 16 ∨ k = 17)) → ¬ (x = 53 ∧ 5 * i ≤ k ∧ k < 5 * i + 5) → ¬ (x = 52 ∧ k = i) → ¬ (x = 49 ∧ k = 18) → u x k = h x k := fun x k a b c e => (f x k a b).trans (gf x k c e)
  refine ⟨⟨?_, fun k hk => ?_, ?_, fun k hk => ?_, fun k => ?_⟩, fun z => absurd z v0, fun _ => ⟨?_, fun a k z1 z2 => ?_⟩, fun _ => ⟨?_, fun k => ?_⟩, mv⟩
  all_goals clear mv
  · rw [f 49 18 (by decide) (by omega)]; exact g18
  · exact fu 52 k (by omega) (by omega) (by omega) (by omega)
  · rw [f 52 i (by omega) (by omega)]; exact g52
  · exact fu 53 k (by omega) (by omega) (by omega) (by omega)
  · exact fu 54 k (by omega) (by omega) (by omega) (by omega)
  · exact fu 49 24 (by decide) (by omega) (by omega) (by omega)
  · exact fu a k (by omega) (by omega) (by omega) (by omega)
  · exact fu 49 22 (by decide) (by omega) (by omega) (by omega)
  · exact fu 55 k (by omega) (by omega) (by omega) (by omega)
theorem MtG.n {h g u : Hp} {n F i o : Nat} {t : Sg} (gf : FrG i h g) (f : FrN i o g u) (g18 : g 49 18 = i + 1) (g52 : g 52 i = 6) (mv : MtV h u n F i 6 t) : MtG h u n F i 6 t := by
  have fu : ∀ x k, ¬ (x = 49 ∧ (k = 10 ∨ k = 11 ∨ k = 14 ∨ k = 15 ∨ k = 16 ∨ k = 17)) → ¬ (x = 53 ∧ 5 * i ≤ k ∧ k < 5 * i + 5) → ¬ (x = 49 ∧ k = 22) → ¬ (x = 55 ∧ k = o) → ¬ (x = 52 ∧ k = i) → ¬ (x = 49 ∧ k = 18) → u x k = h x k := fun x k a b c1 c2 c e => (f x k a b c1 c2).trans (gf x k c e)
  refine ⟨⟨?_, fun k hk => ?_, ?_, fun k hk => ?_, fun k => ?_⟩, fun z => absurd z (by decide), fun _ => ⟨?_, fun a k z1 z2 => ?_⟩, fun z => absurd rfl z, mv⟩
  all_goals clear mv
  · rw [f 49 18 (by decide) (by omega) (by omega) (by omega)]; exact g18
  · exact fu 52 k (by omega) (by omega) (by omega) (by omega) (by omega) (by omega)
  · rw [f 52 i (by omega) (by omega) (by omega) (by omega)]; exact g52
  · exact fu 53 k (by omega) (by omega) (by omega) (by omega) (by omega) (by omega)
  · exact fu 54 k (by omega) (by omega) (by omega) (by omega) (by omega) (by omega)
  · exact fu 49 24 (by decide) (by omega) (by omega) (by omega) (by omega) (by omega)
  · exact fu a k (by omega) (by omega) (by omega) (by omega) (by omega) (by omega)
theorem MtG.f {h g u : Hp} {n F i : Nat} {t : Sg} (gf : FrG i h g) (f : FrO F g u) (g18 : g 49 18 = i + 1) (g52 : g 52 i = 0) (m1 : u 49 24 = F + 1 ∧ u 56 F = pkF (h 3) (tS (h 3) n t.1) (tE (h 3) n t.1) ∧ u 57 F = sqC (h 3) n (ffS (h 3) n (fiM h n t.1 F) t) 12) (m2 : ∀ q : Nat, q < sqC (h 3) n (ffS (h 3) n (fiM h n t.1 F) t) 12 → u 58 (12 * F + q) = nuV (h 3) n 0 99 (sqS (h 3) n (ffS (h 3) n (fiM h n t.1 F) t) q) ∧ u 59 (12 * F + q) = nuV (h 3) n 0 99 (nuS (h 3) n 0 99 (sqS (h 3) n (ffS (h 3) n (fiM h n t.1 F) t) q))) : MtG h u n F i 0 t := by
  have fu : ∀ x k, ¬ (x = 49 ∧ (k = 10 ∨ k = 11 ∨ k = 14 ∨ k = 15 ∨ k = 16 ∨ k = 17 ∨ k = 24)) → ¬ ((x = 56 ∨ x = 57) ∧ k = F) → ¬ ((x = 58 ∨ x = 59) ∧ 12 * F ≤ k ∧ k < 12 * F + 12) → ¬ (x = 52 ∧ k = i) → ¬ (x = 49 ∧ k = 18) → u x k = h x k := fun x k a b b2 c e => (f x k a b b2).trans (gf x k c e)
  refine ⟨⟨?_, fun k hk => ?_, ?_, fun k hk => ?_, fun k => ?_⟩, fun _ => ⟨m1, m2, fun k hk => ⟨?_, ?_⟩, fun k hk => ⟨?_, ?_⟩⟩, fun z => absurd rfl z, fun _ => ⟨?_, fun k => ?_⟩, fun z => absurd z (by decide), fun z => absurd z (by decide), fun z => absurd z (by decide), fun z => absurd z (by decide), fun z => absurd z (by decide), fun z => absurd z (by decide)⟩
  all_goals clear m1 m2
  · rw [f 49 18 (by decide) (by omega) (by omega)]; exact g18
  · exact fu 52 k (by omega) (by omega) (by omega) (by omega) (by omega)
  · rw [f 52 i (by omega) (by omega) (by omega)]; exact g52
  · exact fu 53 k (by omega) (by omega) (by omega) (by omega) (by omega)
  · exact fu 54 k (by omega) (by omega) (by omega) (by omega) (by omega)
  · exact fu 56 k (by omega) (by omega) (by omega) (by omega) (by omega)
  · exact fu 57 k (by omega) (by omega) (by omega) (by omega) (by omega)
  · exact fu 58 k (by omega) (by omega) (by omega) (by omega) (by omega)
  · exact fu 59 k (by omega) (by omega) (by omega) (by omega) (by omega)
  · exact fu 49 22 (by decide) (by omega) (by omega) (by omega) (by omega)
  · exact fu 55 k (by omega) (by omega) (by omega) (by omega) (by omega)
set_option maxRecDepth 20000 in
set_option maxHeartbeats 400000 in
theorem lp_actLine {d : Nat} (hd : 6 ≤ d) {P : Int → Hp → Prop} {h : Hp} {n a : Nat} {s : Sg} (kt : ∀ g : Hp, FrA a h g → MS g n (siS (h 3) n 59 (nkS (h 3) n (tE3 (h 3) n s) 4)) → (siS (h 3) n 59 (nkS (h 3) n (tE3 (h 3) n s) 4)).2.1 = 0 → (∀ q : Nat, q < 4 → g 53 (5 * a + q) = nuV (h 3) n 0 999 (nkS (h 3) n (tE3 (h 3) n s) q)) → P 1 g) (kf : ∀ g : Hp, FrA a h g → MS g n (siS (h 3) n 59 (nkS (h 3) n (tE3 (h 3) n s) 4)) → ¬ (siS (h 3) n 59 (nkS (h 3) n (tE3 (h 3) n s) 4)).2.1 = 0 → P 0 g) : ∀ (nn : Nat) , (MX h n) → (MS h n s) → (s.2.1 = 0) → (a < 60) → 0 < nn → WW mX12_actRead (d + 1) (pI P) 159 [some (.inr (.inr 49)), some (.inl (a : Int))] [] h := by
  intro nn
  induction nn with
  | zero => intro  hx hp h0 ha; intros; omega
  | succ nn ih =>
    intro  hx hp h0 ha hmu
    refine r_aload_n dX12_actRead_159 rfl rfl ?_
    refine r_callVU (av := []) (M' := mX12_take) dX12_actRead_160 vX12_take ml_X12_253 sh_49 (by decide) rfl rfl rfl rfl (by simp [wtA]) (sp_X12_take (n := n) (p := tE (h 3) n s.1) (by omega) ⟨hx.1, hx.2.1⟩ ⟨hp.1.2.1, (tE_r hp.2.2.2.1).2.1⟩ hx.2.2.1 hx.2.2.2 (fun h_160 f0_160 f1_160 => ?_))
    have st := hp.step f0_160 f1_160
    have p1 := st.1
    have z1 : (tE3 (h 3) n s).2.1 = 0 := h0
    have F1 : FrA a h h_160 := FrA.of st.2
    have b1 := st.2.b
    refine r_aload_n dX12_actRead_163 rfl rfl ?_
    refine r_iload_n dX12_actRead_164 rfl rfl ?_
    refine r_iconst dX12_actRead_165 ?_
    refine r_iconst dX12_actRead_166 ?_
    refine r_sipush dX12_actRead_167 (by decide +kernel) ?_
    refine r_callVI (av := [_, _, _, _]) (M' := mX12_told) dX12_actRead_170 vX12_told ml_X12_259 sh_49 (by decide) rfl rfl rfl rfl (by simp [wtA]) (sp_X12_told (n := n) (a := a) (q := 0) (s := tE3 (h 3) n s) (by omega) (F1.mx hx) p1 z1 ha (by decide) (by decide) (by decide) (fun h_170 f0_170 f1_170 f2_170 f3_170 => ?_) (fun h_170 f0_170 f1_170 f2_170 => ?_))
    · refine r_if_eq (tgt := 226) dX12_actRead_173 rfl ⟨by decide, by decide⟩ (fun c_173 => absurd c_173 (by decide)) (fun c_173 => ?_)
      rw [F1.b] at f1_170 f2_170 f3_170
      have F_170 : FrA a h h_170 := fun x k z1 z2 => (f0_170 x k z1 (by omega)).trans (F1 x k z1 z2)
      have v170_0 : h_170 53 (5 * a + 0) = nuV (h 3) n 0 999 (tE3 (h 3) n s) := f2_170
      refine r_aload_n dX12_actRead_176 rfl rfl ?_
      refine r_iload_n dX12_actRead_177 rfl rfl ?_
      refine r_iconst dX12_actRead_178 ?_
      refine r_iconst dX12_actRead_179 ?_
      refine r_sipush dX12_actRead_180 (by decide +kernel) ?_
      refine r_callVI (av := [_, _, _, _]) (M' := mX12_told) dX12_actRead_183 vX12_told ml_X12_259 sh_49 (by decide) rfl rfl rfl rfl (by simp [wtA]) (sp_X12_told (n := n) (a := a) (q := 1) (s := nuS (h 3) n 0 999 (tE3 (h 3) n s)) (by omega) (F_170.mx hx) f1_170 f3_170 ha (by decide) (by decide) (by decide) (fun h_183 f0_183 f1_183 f2_183 f3_183 => ?_) (fun h_183 f0_183 f1_183 f2_183 => ?_))
      · refine r_if_eq (tgt := 226) dX12_actRead_186 rfl ⟨by decide, by decide⟩ (fun c_186 => absurd c_186 (by decide)) (fun c_186 => ?_)
        rw [F_170.b] at f1_183 f2_183 f3_183
        have F_183 : FrA a h h_183 := fun x k z1 z2 => (f0_183 x k z1 (by omega)).trans (F_170 x k z1 z2)
        have v183_0 : h_183 53 (5 * a + 0) = nuV (h 3) n 0 999 (tE3 (h 3) n s) := by rw [f0_183 53 _ (by omega) (by omega)]; exact v170_0
        have v183_1 : h_183 53 (5 * a + 1) = nuV (h 3) n 0 999 (nuS (h 3) n 0 999 (tE3 (h 3) n s)) := f2_183
        refine r_aload_n dX12_actRead_189 rfl rfl ?_
        refine r_iload_n dX12_actRead_190 rfl rfl ?_
        refine r_iconst dX12_actRead_191 ?_
        refine r_iconst dX12_actRead_192 ?_
        refine r_sipush dX12_actRead_193 (by decide +kernel) ?_
        refine r_callVI (av := [_, _, _, _]) (M' := mX12_told) dX12_actRead_196 vX12_told ml_X12_259 sh_49 (by decide) rfl rfl rfl rfl (by simp [wtA]) (sp_X12_told (n := n) (a := a) (q := 2) (s := nuS (h 3) n 0 999 (nuS (h 3) n 0 999 (tE3 (h 3) n s))) (by omega) (F_183.mx hx) f1_183 f3_183 ha (by decide) (by decide) (by decide) (fun h_196 f0_196 f1_196 f2_196 f3_196 => ?_) (fun h_196 f0_196 f1_196 f2_196 => ?_))
        · refine r_if_eq (tgt := 226) dX12_actRead_199 rfl ⟨by decide, by decide⟩ (fun c_199 => absurd c_199 (by decide)) (fun c_199 => ?_)
          rw [F_183.b] at f1_196 f2_196 f3_196
          have F_196 : FrA a h h_196 := fun x k z1 z2 => (f0_196 x k z1 (by omega)).trans (F_183 x k z1 z2)
          have v196_0 : h_196 53 (5 * a + 0) = nuV (h 3) n 0 999 (tE3 (h 3) n s) := by rw [f0_196 53 _ (by omega) (by omega)]; exact v183_0
          have v196_1 : h_196 53 (5 * a + 1) = nuV (h 3) n 0 999 (nuS (h 3) n 0 999 (tE3 (h 3) n s)) := by rw [f0_196 53 _ (by omega) (by omega)]; exact v183_1
          have v196_2 : h_196 53 (5 * a + 2) = nuV (h 3) n 0 999 (nuS (h 3) n 0 999 (nuS (h 3) n 0 999 (tE3 (h 3) n s))) := f2_196
          refine r_aload_n dX12_actRead_202 rfl rfl ?_
          refine r_iload_n dX12_actRead_203 rfl rfl ?_
          refine r_iconst dX12_actRead_204 ?_
          refine r_iconst dX12_actRead_205 ?_
          refine r_sipush dX12_actRead_206 (by decide +kernel) ?_
          refine r_callVI (av := [_, _, _, _]) (M' := mX12_told) dX12_actRead_209 vX12_told ml_X12_259 sh_49 (by decide) rfl rfl rfl rfl (by simp [wtA]) (sp_X12_told (n := n) (a := a) (q := 3) (s := nuS (h 3) n 0 999 (nuS (h 3) n 0 999 (nuS (h 3) n 0 999 (tE3 (h 3) n s)))) (by omega) (F_196.mx hx) f1_196 f3_196 ha (by decide) (by decide) (by decide) (fun h_209 f0_209 f1_209 f2_209 f3_209 => ?_) (fun h_209 f0_209 f1_209 f2_209 => ?_))
          · refine r_if_eq (tgt := 226) dX12_actRead_212 rfl ⟨by decide, by decide⟩ (fun c_212 => absurd c_212 (by decide)) (fun c_212 => ?_)
            rw [F_196.b] at f1_209 f2_209 f3_209
            have F_209 : FrA a h h_209 := fun x k z1 z2 => (f0_209 x k z1 (by omega)).trans (F_196 x k z1 z2)
            have v209_0 : h_209 53 (5 * a + 0) = nuV (h 3) n 0 999 (tE3 (h 3) n s) := by rw [f0_209 53 _ (by omega) (by omega)]; exact v196_0
            have v209_1 : h_209 53 (5 * a + 1) = nuV (h 3) n 0 999 (nuS (h 3) n 0 999 (tE3 (h 3) n s)) := by rw [f0_209 53 _ (by omega) (by omega)]; exact v196_1
            have v209_2 : h_209 53 (5 * a + 2) = nuV (h 3) n 0 999 (nuS (h 3) n 0 999 (nuS (h 3) n 0 999 (tE3 (h 3) n s))) := by rw [f0_209 53 _ (by omega) (by omega)]; exact v196_2
            have v209_3 : h_209 53 (5 * a + 3) = nuV (h 3) n 0 999 (nuS (h 3) n 0 999 (nuS (h 3) n 0 999 (nuS (h 3) n 0 999 (tE3 (h 3) n s)))) := f2_209
            refine r_aload_n dX12_actRead_215 rfl rfl ?_
            refine r_callVI (av := []) (M' := mX12_ended) dX12_actRead_216 vX12_ended ml_X12_266 sh_49 (by decide) rfl rfl rfl rfl (by simp [wtA]) (sp_X12_ended (n := n) (s := nuS (h 3) n 0 999 (nuS (h 3) n 0 999 (nuS (h 3) n 0 999 (nuS (h 3) n 0 999 (tE3 (h 3) n s))))) (by omega) (F_209.mx hx) f1_209 f3_209 (fun h_216 f0_216 f1_216 f2_216 => ?_) (fun h_216 f0_216 f1_216 f2_216 => ?_))
            · refine r_if_eq (tgt := 226) dX12_actRead_219 rfl ⟨by decide, by decide⟩ (fun c_219 => absurd c_219 (by decide)) (fun c_219 => ?_)
              rw [F_209.b] at f1_216 f2_216
              have F_216 : FrA a h h_216 := FrA.tr (F_209) (FrA.of f0_216)
              have v216_0 : h_216 53 (5 * a + 0) = nuV (h 3) n 0 999 (tE3 (h 3) n s) := by rw [f0_216 53 _ (by omega)]; exact v209_0
              have v216_1 : h_216 53 (5 * a + 1) = nuV (h 3) n 0 999 (nuS (h 3) n 0 999 (tE3 (h 3) n s)) := by rw [f0_216 53 _ (by omega)]; exact v209_1
              have v216_2 : h_216 53 (5 * a + 2) = nuV (h 3) n 0 999 (nuS (h 3) n 0 999 (nuS (h 3) n 0 999 (tE3 (h 3) n s))) := by rw [f0_216 53 _ (by omega)]; exact v209_2
              have v216_3 : h_216 53 (5 * a + 3) = nuV (h 3) n 0 999 (nuS (h 3) n 0 999 (nuS (h 3) n 0 999 (nuS (h 3) n 0 999 (tE3 (h 3) n s)))) := by rw [f0_216 53 _ (by omega)]; exact v209_3
              refine r_iconst dX12_actRead_222 ?_
              refine r_goto (tgt := 227) dX12_actRead_223 rfl ?_
              refine r_zret dX12_actRead_227 rfl (.inr rfl) ?_
              exact ⟨_, rfl, kt _ F_216 f1_216 f2_216 (fun q hq => by
                match q, hq with
                | 0, _ => exact v216_0
                | 1, _ => exact v216_1
                | 2, _ => exact v216_2
                | 3, _ => exact v216_3)⟩
            · refine r_if_eq (tgt := 226) dX12_actRead_219 rfl ⟨by decide, by decide⟩ (fun c_219 => ?_) (fun c_219 => absurd c_219 (by decide))
              refine r_iconst dX12_actRead_226 ?_
              refine r_zret dX12_actRead_227 rfl (.inl rfl) ?_
              rw [F_209.b] at f1_216 f2_216
              have e : siS (h 3) n 59 (nkS (h 3) n (tE3 (h 3) n s) 4) = siS (h 3) n 59 (nuS (h 3) n 0 999 (nuS (h 3) n 0 999 (nuS (h 3) n 0 999 (nuS (h 3) n 0 999 (tE3 (h 3) n s))))) := by
                show siS (h 3) n 59 (nuS (h 3) n 0 999 (nuS (h 3) n 0 999 (nuS (h 3) n 0 999 (nuS (h 3) n 0 999 (tE3 (h 3) n s))))) = _
                rfl
              exact ⟨_, rfl, kf _ (FrA.tr (F_209) (FrA.of f0_216)) (by rw [e]; exact f1_216) (by rw [e]; exact f2_216)⟩
          · refine r_if_eq (tgt := 226) dX12_actRead_212 rfl ⟨by decide, by decide⟩ (fun c_212 => ?_) (fun c_212 => absurd c_212 (by decide))
            refine r_iconst dX12_actRead_226 ?_
            refine r_zret dX12_actRead_227 rfl (.inl rfl) ?_
            rw [F_196.b] at f1_209 f2_209
            have e : siS (h 3) n 59 (nkS (h 3) n (tE3 (h 3) n s) 4) = nuS (h 3) n 0 999 (nuS (h 3) n 0 999 (nuS (h 3) n 0 999 (nuS (h 3) n 0 999 (tE3 (h 3) n s)))) := by
              show siS (h 3) n 59 (nuS (h 3) n 0 999 (nuS (h 3) n 0 999 (nuS (h 3) n 0 999 (nuS (h 3) n 0 999 (tE3 (h 3) n s))))) = _
              rw [siS_f f2_209]
            exact ⟨_, rfl, kf _ (FrA.tr (F_196) (FrA.of f0_209)) (by rw [e]; exact f1_209) (by rw [e]; exact f2_209)⟩
        · refine r_if_eq (tgt := 226) dX12_actRead_199 rfl ⟨by decide, by decide⟩ (fun c_199 => ?_) (fun c_199 => absurd c_199 (by decide))
          refine r_iconst dX12_actRead_226 ?_
          refine r_zret dX12_actRead_227 rfl (.inl rfl) ?_
          rw [F_183.b] at f1_196 f2_196
          have e : siS (h 3) n 59 (nkS (h 3) n (tE3 (h 3) n s) 4) = nuS (h 3) n 0 999 (nuS (h 3) n 0 999 (nuS (h 3) n 0 999 (tE3 (h 3) n s))) := by
            show siS (h 3) n 59 (nuS (h 3) n 0 999 (nuS (h 3) n 0 999 (nuS (h 3) n 0 999 (nuS (h 3) n 0 999 (tE3 (h 3) n s))))) = _
            rw [nuS_f f2_196, siS_f f2_196]
          exact ⟨_, rfl, kf _ (FrA.tr (F_183) (FrA.of f0_196)) (by rw [e]; exact f1_196) (by rw [e]; exact f2_196)⟩
      · refine r_if_eq (tgt := 226) dX12_actRead_186 rfl ⟨by decide, by decide⟩ (fun c_186 => ?_) (fun c_186 => absurd c_186 (by decide))
        refine r_iconst dX12_actRead_226 ?_
        refine r_zret dX12_actRead_227 rfl (.inl rfl) ?_
        rw [F_170.b] at f1_183 f2_183
        have e : siS (h 3) n 59 (nkS (h 3) n (tE3 (h 3) n s) 4) = nuS (h 3) n 0 999 (nuS (h 3) n 0 999 (tE3 (h 3) n s)) := by
          show siS (h 3) n 59 (nuS (h 3) n 0 999 (nuS (h 3) n 0 999 (nuS (h 3) n 0 999 (nuS (h 3) n 0 999 (tE3 (h 3) n s))))) = _
          rw [nuS_f f2_183, nuS_f f2_183, siS_f f2_183]
        exact ⟨_, rfl, kf _ (FrA.tr (F_170) (FrA.of f0_183)) (by rw [e]; exact f1_183) (by rw [e]; exact f2_183)⟩
    · refine r_if_eq (tgt := 226) dX12_actRead_173 rfl ⟨by decide, by decide⟩ (fun c_173 => ?_) (fun c_173 => absurd c_173 (by decide))
      refine r_iconst dX12_actRead_226 ?_
      refine r_zret dX12_actRead_227 rfl (.inl rfl) ?_
      rw [F1.b] at f1_170 f2_170
      have e : siS (h 3) n 59 (nkS (h 3) n (tE3 (h 3) n s) 4) = nuS (h 3) n 0 999 (tE3 (h 3) n s) := by
        show siS (h 3) n 59 (nuS (h 3) n 0 999 (nuS (h 3) n 0 999 (nuS (h 3) n 0 999 (nuS (h 3) n 0 999 (tE3 (h 3) n s))))) = _
        rw [nuS_f f2_170, nuS_f f2_170, nuS_f f2_170, siS_f f2_170]
      exact ⟨_, rfl, kf _ (FrA.tr (F1) (FrA.of f0_170)) (by rw [e]; exact f1_170) (by rw [e]; exact f2_170)⟩
set_option maxRecDepth 20000 in
set_option maxHeartbeats 400000 in
theorem lp_actTo {d : Nat} (hd : 6 ≤ d) {P : Int → Hp → Prop} {h : Hp} {n a : Nat} {s : Sg} (kt : ∀ g : Hp, FrA a h g → MS g n (siS (h 3) n 59 (nkS (h 3) n (tE3 (h 3) n s) 2)) → (siS (h 3) n 59 (nkS (h 3) n (tE3 (h 3) n s) 2)).2.1 = 0 → (∀ q : Nat, q < 2 → g 53 (5 * a + q) = nuV (h 3) n 0 999 (nkS (h 3) n (tE3 (h 3) n s) q)) → P 1 g) (kf : ∀ g : Hp, FrA a h g → MS g n (siS (h 3) n 59 (nkS (h 3) n (tE3 (h 3) n s) 2)) → ¬ (siS (h 3) n 59 (nkS (h 3) n (tE3 (h 3) n s) 2)).2.1 = 0 → P 0 g) : ∀ (nn : Nat) , (MX h n) → (MS h n s) → (s.2.1 = 0) → (a < 60) → 0 < nn → WW mX12_actRead (d + 1) (pI P) 228 [some (.inr (.inr 49)), some (.inl (a : Int))] [] h := by
  intro nn
  induction nn with
  | zero => intro  hx hp h0 ha; intros; omega
  | succ nn ih =>
    intro  hx hp h0 ha hmu
    refine r_aload_n dX12_actRead_228 rfl rfl ?_
    refine r_callVU (av := []) (M' := mX12_take) dX12_actRead_229 vX12_take ml_X12_253 sh_49 (by decide) rfl rfl rfl rfl (by simp [wtA]) (sp_X12_take (n := n) (p := tE (h 3) n s.1) (by omega) ⟨hx.1, hx.2.1⟩ ⟨hp.1.2.1, (tE_r hp.2.2.2.1).2.1⟩ hx.2.2.1 hx.2.2.2 (fun h_229 f0_229 f1_229 => ?_))
    have st := hp.step f0_229 f1_229
    have p1 := st.1
    have z1 : (tE3 (h 3) n s).2.1 = 0 := h0
    have F1 : FrA a h h_229 := FrA.of st.2
    have b1 := st.2.b
    refine r_aload_n dX12_actRead_232 rfl rfl ?_
    refine r_iload_n dX12_actRead_233 rfl rfl ?_
    refine r_iconst dX12_actRead_234 ?_
    refine r_iconst dX12_actRead_235 ?_
    refine r_sipush dX12_actRead_236 (by decide +kernel) ?_
    refine r_callVI (av := [_, _, _, _]) (M' := mX12_told) dX12_actRead_239 vX12_told ml_X12_259 sh_49 (by decide) rfl rfl rfl rfl (by simp [wtA]) (sp_X12_told (n := n) (a := a) (q := 0) (s := tE3 (h 3) n s) (by omega) (F1.mx hx) p1 z1 ha (by decide) (by decide) (by decide) (fun h_239 f0_239 f1_239 f2_239 f3_239 => ?_) (fun h_239 f0_239 f1_239 f2_239 => ?_))
    · refine r_if_eq (tgt := 269) dX12_actRead_242 rfl ⟨by decide, by decide⟩ (fun c_242 => absurd c_242 (by decide)) (fun c_242 => ?_)
      rw [F1.b] at f1_239 f2_239 f3_239
      have F_239 : FrA a h h_239 := fun x k z1 z2 => (f0_239 x k z1 (by omega)).trans (F1 x k z1 z2)
      have v239_0 : h_239 53 (5 * a + 0) = nuV (h 3) n 0 999 (tE3 (h 3) n s) := f2_239
      refine r_aload_n dX12_actRead_245 rfl rfl ?_
      refine r_iload_n dX12_actRead_246 rfl rfl ?_
      refine r_iconst dX12_actRead_247 ?_
      refine r_iconst dX12_actRead_248 ?_
      refine r_sipush dX12_actRead_249 (by decide +kernel) ?_
      refine r_callVI (av := [_, _, _, _]) (M' := mX12_told) dX12_actRead_252 vX12_told ml_X12_259 sh_49 (by decide) rfl rfl rfl rfl (by simp [wtA]) (sp_X12_told (n := n) (a := a) (q := 1) (s := nuS (h 3) n 0 999 (tE3 (h 3) n s)) (by omega) (F_239.mx hx) f1_239 f3_239 ha (by decide) (by decide) (by decide) (fun h_252 f0_252 f1_252 f2_252 f3_252 => ?_) (fun h_252 f0_252 f1_252 f2_252 => ?_))
      · refine r_if_eq (tgt := 269) dX12_actRead_255 rfl ⟨by decide, by decide⟩ (fun c_255 => absurd c_255 (by decide)) (fun c_255 => ?_)
        rw [F_239.b] at f1_252 f2_252 f3_252
        have F_252 : FrA a h h_252 := fun x k z1 z2 => (f0_252 x k z1 (by omega)).trans (F_239 x k z1 z2)
        have v252_0 : h_252 53 (5 * a + 0) = nuV (h 3) n 0 999 (tE3 (h 3) n s) := by rw [f0_252 53 _ (by omega) (by omega)]; exact v239_0
        have v252_1 : h_252 53 (5 * a + 1) = nuV (h 3) n 0 999 (nuS (h 3) n 0 999 (tE3 (h 3) n s)) := f2_252
        refine r_aload_n dX12_actRead_258 rfl rfl ?_
        refine r_callVI (av := []) (M' := mX12_ended) dX12_actRead_259 vX12_ended ml_X12_266 sh_49 (by decide) rfl rfl rfl rfl (by simp [wtA]) (sp_X12_ended (n := n) (s := nuS (h 3) n 0 999 (nuS (h 3) n 0 999 (tE3 (h 3) n s))) (by omega) (F_252.mx hx) f1_252 f3_252 (fun h_259 f0_259 f1_259 f2_259 => ?_) (fun h_259 f0_259 f1_259 f2_259 => ?_))
        · refine r_if_eq (tgt := 269) dX12_actRead_262 rfl ⟨by decide, by decide⟩ (fun c_262 => absurd c_262 (by decide)) (fun c_262 => ?_)
          rw [F_252.b] at f1_259 f2_259
          have F_259 : FrA a h h_259 := FrA.tr (F_252) (FrA.of f0_259)
          have v259_0 : h_259 53 (5 * a + 0) = nuV (h 3) n 0 999 (tE3 (h 3) n s) := by rw [f0_259 53 _ (by omega)]; exact v252_0
          have v259_1 : h_259 53 (5 * a + 1) = nuV (h 3) n 0 999 (nuS (h 3) n 0 999 (tE3 (h 3) n s)) := by rw [f0_259 53 _ (by omega)]; exact v252_1
          refine r_iconst dX12_actRead_265 ?_
          refine r_goto (tgt := 270) dX12_actRead_266 rfl ?_
          refine r_zret dX12_actRead_270 rfl (.inr rfl) ?_
          exact ⟨_, rfl, kt _ F_259 f1_259 f2_259 (fun q hq => by
            match q, hq with
            | 0, _ => exact v259_0
            | 1, _ => exact v259_1)⟩
        · refine r_if_eq (tgt := 269) dX12_actRead_262 rfl ⟨by decide, by decide⟩ (fun c_262 => ?_) (fun c_262 => absurd c_262 (by decide))
          refine r_iconst dX12_actRead_269 ?_
          refine r_zret dX12_actRead_270 rfl (.inl rfl) ?_
          rw [F_252.b] at f1_259 f2_259
          have e : siS (h 3) n 59 (nkS (h 3) n (tE3 (h 3) n s) 2) = siS (h 3) n 59 (nuS (h 3) n 0 999 (nuS (h 3) n 0 999 (tE3 (h 3) n s))) := by
            show siS (h 3) n 59 (nuS (h 3) n 0 999 (nuS (h 3) n 0 999 (tE3 (h 3) n s))) = _
            rfl
          exact ⟨_, rfl, kf _ (FrA.tr (F_252) (FrA.of f0_259)) (by rw [e]; exact f1_259) (by rw [e]; exact f2_259)⟩
      · refine r_if_eq (tgt := 269) dX12_actRead_255 rfl ⟨by decide, by decide⟩ (fun c_255 => ?_) (fun c_255 => absurd c_255 (by decide))
        refine r_iconst dX12_actRead_269 ?_
        refine r_zret dX12_actRead_270 rfl (.inl rfl) ?_
        rw [F_239.b] at f1_252 f2_252
        have e : siS (h 3) n 59 (nkS (h 3) n (tE3 (h 3) n s) 2) = nuS (h 3) n 0 999 (nuS (h 3) n 0 999 (tE3 (h 3) n s)) := by
          show siS (h 3) n 59 (nuS (h 3) n 0 999 (nuS (h 3) n 0 999 (tE3 (h 3) n s))) = _
          rw [siS_f f2_252]
        exact ⟨_, rfl, kf _ (FrA.tr (F_239) (FrA.of f0_252)) (by rw [e]; exact f1_252) (by rw [e]; exact f2_252)⟩
    · refine r_if_eq (tgt := 269) dX12_actRead_242 rfl ⟨by decide, by decide⟩ (fun c_242 => ?_) (fun c_242 => absurd c_242 (by decide))
      refine r_iconst dX12_actRead_269 ?_
      refine r_zret dX12_actRead_270 rfl (.inl rfl) ?_
      rw [F1.b] at f1_239 f2_239
      have e : siS (h 3) n 59 (nkS (h 3) n (tE3 (h 3) n s) 2) = nuS (h 3) n 0 999 (tE3 (h 3) n s) := by
        show siS (h 3) n 59 (nuS (h 3) n 0 999 (nuS (h 3) n 0 999 (tE3 (h 3) n s))) = _
        rw [nuS_f f2_239, siS_f f2_239]
      exact ⟨_, rfl, kf _ (FrA.tr (F1) (FrA.of f0_239)) (by rw [e]; exact f1_239) (by rw [e]; exact f2_239)⟩
set_option maxRecDepth 20000 in
set_option maxHeartbeats 400000 in
theorem lp_actHatch {d : Nat} (hd : 6 ≤ d) {P : Int → Hp → Prop} {h : Hp} {n a : Nat} {s : Sg} (kt : ∀ g : Hp, FrA a h g → MS g n (siS (h 3) n 59 (nuS (h 3) n 1 99 (nkS (h 3) n (tE3 (h 3) n s) 4))) → (siS (h 3) n 59 (nuS (h 3) n 1 99 (nkS (h 3) n (tE3 (h 3) n s) 4))).2.1 = 0 → ((∀ q : Nat, q < 4 → g 53 (5 * a + q) = nuV (h 3) n 0 999 (nkS (h 3) n (tE3 (h 3) n s) q)) ∧ g 53 (5 * a + 4) = nuV (h 3) n 1 99 (nkS (h 3) n (tE3 (h 3) n s) 4)) → P 1 g) (kf : ∀ g : Hp, FrA a h g → MS g n (siS (h 3) n 59 (nuS (h 3) n 1 99 (nkS (h 3) n (tE3 (h 3) n s) 4))) → ¬ (siS (h 3) n 59 (nuS (h 3) n 1 99 (nkS (h 3) n (tE3 (h 3) n s) 4))).2.1 = 0 → P 0 g) : ∀ (nn : Nat) , (MX h n) → (MS h n s) → (s.2.1 = 0) → (a < 60) → 0 < nn → WW mX12_actRead (d + 1) (pI P) 271 [some (.inr (.inr 49)), some (.inl (a : Int))] [] h := by
  intro nn
  induction nn with
  | zero => intro  hx hp h0 ha; intros; omega
  | succ nn ih =>
    intro  hx hp h0 ha hmu
    refine r_aload_n dX12_actRead_271 rfl rfl ?_
    refine r_callVU (av := []) (M' := mX12_take) dX12_actRead_272 vX12_take ml_X12_253 sh_49 (by decide) rfl rfl rfl rfl (by simp [wtA]) (sp_X12_take (n := n) (p := tE (h 3) n s.1) (by omega) ⟨hx.1, hx.2.1⟩ ⟨hp.1.2.1, (tE_r hp.2.2.2.1).2.1⟩ hx.2.2.1 hx.2.2.2 (fun h_272 f0_272 f1_272 => ?_))
    have st := hp.step f0_272 f1_272
    have p1 := st.1
    have z1 : (tE3 (h 3) n s).2.1 = 0 := h0
    have F1 : FrA a h h_272 := FrA.of st.2
    have b1 := st.2.b
    refine r_aload_n dX12_actRead_275 rfl rfl ?_
    refine r_iload_n dX12_actRead_276 rfl rfl ?_
    refine r_iconst dX12_actRead_277 ?_
    refine r_iconst dX12_actRead_278 ?_
    refine r_sipush dX12_actRead_279 (by decide +kernel) ?_
    refine r_callVI (av := [_, _, _, _]) (M' := mX12_told) dX12_actRead_282 vX12_told ml_X12_259 sh_49 (by decide) rfl rfl rfl rfl (by simp [wtA]) (sp_X12_told (n := n) (a := a) (q := 0) (s := tE3 (h 3) n s) (by omega) (F1.mx hx) p1 z1 ha (by decide) (by decide) (by decide) (fun h_282 f0_282 f1_282 f2_282 f3_282 => ?_) (fun h_282 f0_282 f1_282 f2_282 => ?_))
    · refine r_if_eq (tgt := 350) dX12_actRead_285 rfl ⟨by decide, by decide⟩ (fun c_285 => absurd c_285 (by decide)) (fun c_285 => ?_)
      rw [F1.b] at f1_282 f2_282 f3_282
      have F_282 : FrA a h h_282 := fun x k z1 z2 => (f0_282 x k z1 (by omega)).trans (F1 x k z1 z2)
      have v282_0 : h_282 53 (5 * a + 0) = nuV (h 3) n 0 999 (tE3 (h 3) n s) := f2_282
      refine r_aload_n dX12_actRead_288 rfl rfl ?_
      refine r_iload_n dX12_actRead_289 rfl rfl ?_
      refine r_iconst dX12_actRead_290 ?_
      refine r_iconst dX12_actRead_291 ?_
      refine r_sipush dX12_actRead_292 (by decide +kernel) ?_
      refine r_callVI (av := [_, _, _, _]) (M' := mX12_told) dX12_actRead_295 vX12_told ml_X12_259 sh_49 (by decide) rfl rfl rfl rfl (by simp [wtA]) (sp_X12_told (n := n) (a := a) (q := 1) (s := nuS (h 3) n 0 999 (tE3 (h 3) n s)) (by omega) (F_282.mx hx) f1_282 f3_282 ha (by decide) (by decide) (by decide) (fun h_295 f0_295 f1_295 f2_295 f3_295 => ?_) (fun h_295 f0_295 f1_295 f2_295 => ?_))
      · refine r_if_eq (tgt := 350) dX12_actRead_298 rfl ⟨by decide, by decide⟩ (fun c_298 => absurd c_298 (by decide)) (fun c_298 => ?_)
        rw [F_282.b] at f1_295 f2_295 f3_295
        have F_295 : FrA a h h_295 := fun x k z1 z2 => (f0_295 x k z1 (by omega)).trans (F_282 x k z1 z2)
        have v295_0 : h_295 53 (5 * a + 0) = nuV (h 3) n 0 999 (tE3 (h 3) n s) := by rw [f0_295 53 _ (by omega) (by omega)]; exact v282_0
        have v295_1 : h_295 53 (5 * a + 1) = nuV (h 3) n 0 999 (nuS (h 3) n 0 999 (tE3 (h 3) n s)) := f2_295
        refine r_aload_n dX12_actRead_301 rfl rfl ?_
        refine r_iload_n dX12_actRead_302 rfl rfl ?_
        refine r_iconst dX12_actRead_303 ?_
        refine r_iconst dX12_actRead_304 ?_
        refine r_sipush dX12_actRead_305 (by decide +kernel) ?_
        refine r_callVI (av := [_, _, _, _]) (M' := mX12_told) dX12_actRead_308 vX12_told ml_X12_259 sh_49 (by decide) rfl rfl rfl rfl (by simp [wtA]) (sp_X12_told (n := n) (a := a) (q := 2) (s := nuS (h 3) n 0 999 (nuS (h 3) n 0 999 (tE3 (h 3) n s))) (by omega) (F_295.mx hx) f1_295 f3_295 ha (by decide) (by decide) (by decide) (fun h_308 f0_308 f1_308 f2_308 f3_308 => ?_) (fun h_308 f0_308 f1_308 f2_308 => ?_))
        · refine r_if_eq (tgt := 350) dX12_actRead_311 rfl ⟨by decide, by decide⟩ (fun c_311 => absurd c_311 (by decide)) (fun c_311 => ?_)
          rw [F_295.b] at f1_308 f2_308 f3_308
          have F_308 : FrA a h h_308 := fun x k z1 z2 => (f0_308 x k z1 (by omega)).trans (F_295 x k z1 z2)
          have v308_0 : h_308 53 (5 * a + 0) = nuV (h 3) n 0 999 (tE3 (h 3) n s) := by rw [f0_308 53 _ (by omega) (by omega)]; exact v295_0
          have v308_1 : h_308 53 (5 * a + 1) = nuV (h 3) n 0 999 (nuS (h 3) n 0 999 (tE3 (h 3) n s)) := by rw [f0_308 53 _ (by omega) (by omega)]; exact v295_1
          have v308_2 : h_308 53 (5 * a + 2) = nuV (h 3) n 0 999 (nuS (h 3) n 0 999 (nuS (h 3) n 0 999 (tE3 (h 3) n s))) := f2_308
          refine r_aload_n dX12_actRead_314 rfl rfl ?_
          refine r_iload_n dX12_actRead_315 rfl rfl ?_
          refine r_iconst dX12_actRead_316 ?_
          refine r_iconst dX12_actRead_317 ?_
          refine r_sipush dX12_actRead_318 (by decide +kernel) ?_
          refine r_callVI (av := [_, _, _, _]) (M' := mX12_told) dX12_actRead_321 vX12_told ml_X12_259 sh_49 (by decide) rfl rfl rfl rfl (by simp [wtA]) (sp_X12_told (n := n) (a := a) (q := 3) (s := nuS (h 3) n 0 999 (nuS (h 3) n 0 999 (nuS (h 3) n 0 999 (tE3 (h 3) n s)))) (by omega) (F_308.mx hx) f1_308 f3_308 ha (by decide) (by decide) (by decide) (fun h_321 f0_321 f1_321 f2_321 f3_321 => ?_) (fun h_321 f0_321 f1_321 f2_321 => ?_))
          · refine r_if_eq (tgt := 350) dX12_actRead_324 rfl ⟨by decide, by decide⟩ (fun c_324 => absurd c_324 (by decide)) (fun c_324 => ?_)
            rw [F_308.b] at f1_321 f2_321 f3_321
            have F_321 : FrA a h h_321 := fun x k z1 z2 => (f0_321 x k z1 (by omega)).trans (F_308 x k z1 z2)
            have v321_0 : h_321 53 (5 * a + 0) = nuV (h 3) n 0 999 (tE3 (h 3) n s) := by rw [f0_321 53 _ (by omega) (by omega)]; exact v308_0
            have v321_1 : h_321 53 (5 * a + 1) = nuV (h 3) n 0 999 (nuS (h 3) n 0 999 (tE3 (h 3) n s)) := by rw [f0_321 53 _ (by omega) (by omega)]; exact v308_1
            have v321_2 : h_321 53 (5 * a + 2) = nuV (h 3) n 0 999 (nuS (h 3) n 0 999 (nuS (h 3) n 0 999 (tE3 (h 3) n s))) := by rw [f0_321 53 _ (by omega) (by omega)]; exact v308_2
            have v321_3 : h_321 53 (5 * a + 3) = nuV (h 3) n 0 999 (nuS (h 3) n 0 999 (nuS (h 3) n 0 999 (nuS (h 3) n 0 999 (tE3 (h 3) n s)))) := f2_321
            refine r_aload_n dX12_actRead_327 rfl rfl ?_
            refine r_iload_n dX12_actRead_328 rfl rfl ?_
            refine r_iconst dX12_actRead_329 ?_
            refine r_iconst dX12_actRead_330 ?_
            refine r_bipush dX12_actRead_331 (by decide +kernel) ?_
            refine r_callVI (av := [_, _, _, _]) (M' := mX12_told) dX12_actRead_333 vX12_told ml_X12_259 sh_49 (by decide) rfl rfl rfl rfl (by simp [wtA]) (sp_X12_told (n := n) (a := a) (q := 4) (s := nuS (h 3) n 0 999 (nuS (h 3) n 0 999 (nuS (h 3) n 0 999 (nuS (h 3) n 0 999 (tE3 (h 3) n s))))) (by omega) (F_321.mx hx) f1_321 f3_321 ha (by decide) (by decide) (by decide) (fun h_333 f0_333 f1_333 f2_333 f3_333 => ?_) (fun h_333 f0_333 f1_333 f2_333 => ?_))
            · refine r_if_eq (tgt := 350) dX12_actRead_336 rfl ⟨by decide, by decide⟩ (fun c_336 => absurd c_336 (by decide)) (fun c_336 => ?_)
              rw [F_321.b] at f1_333 f2_333 f3_333
              have F_333 : FrA a h h_333 := fun x k z1 z2 => (f0_333 x k z1 (by omega)).trans (F_321 x k z1 z2)
              have v333_0 : h_333 53 (5 * a + 0) = nuV (h 3) n 0 999 (tE3 (h 3) n s) := by rw [f0_333 53 _ (by omega) (by omega)]; exact v321_0
              have v333_1 : h_333 53 (5 * a + 1) = nuV (h 3) n 0 999 (nuS (h 3) n 0 999 (tE3 (h 3) n s)) := by rw [f0_333 53 _ (by omega) (by omega)]; exact v321_1
              have v333_2 : h_333 53 (5 * a + 2) = nuV (h 3) n 0 999 (nuS (h 3) n 0 999 (nuS (h 3) n 0 999 (tE3 (h 3) n s))) := by rw [f0_333 53 _ (by omega) (by omega)]; exact v321_2
              have v333_3 : h_333 53 (5 * a + 3) = nuV (h 3) n 0 999 (nuS (h 3) n 0 999 (nuS (h 3) n 0 999 (nuS (h 3) n 0 999 (tE3 (h 3) n s)))) := by rw [f0_333 53 _ (by omega) (by omega)]; exact v321_3
              have v333_4 : h_333 53 (5 * a + 4) = nuV (h 3) n 1 99 (nuS (h 3) n 0 999 (nuS (h 3) n 0 999 (nuS (h 3) n 0 999 (nuS (h 3) n 0 999 (tE3 (h 3) n s))))) := f2_333
              refine r_aload_n dX12_actRead_339 rfl rfl ?_
              refine r_callVI (av := []) (M' := mX12_ended) dX12_actRead_340 vX12_ended ml_X12_266 sh_49 (by decide) rfl rfl rfl rfl (by simp [wtA]) (sp_X12_ended (n := n) (s := nuS (h 3) n 1 99 (nuS (h 3) n 0 999 (nuS (h 3) n 0 999 (nuS (h 3) n 0 999 (nuS (h 3) n 0 999 (tE3 (h 3) n s)))))) (by omega) (F_333.mx hx) f1_333 f3_333 (fun h_340 f0_340 f1_340 f2_340 => ?_) (fun h_340 f0_340 f1_340 f2_340 => ?_))
              · refine r_if_eq (tgt := 350) dX12_actRead_343 rfl ⟨by decide, by decide⟩ (fun c_343 => absurd c_343 (by decide)) (fun c_343 => ?_)
                rw [F_333.b] at f1_340 f2_340
                have F_340 : FrA a h h_340 := FrA.tr (F_333) (FrA.of f0_340)
                have v340_0 : h_340 53 (5 * a + 0) = nuV (h 3) n 0 999 (tE3 (h 3) n s) := by rw [f0_340 53 _ (by omega)]; exact v333_0
                have v340_1 : h_340 53 (5 * a + 1) = nuV (h 3) n 0 999 (nuS (h 3) n 0 999 (tE3 (h 3) n s)) := by rw [f0_340 53 _ (by omega)]; exact v333_1
                have v340_2 : h_340 53 (5 * a + 2) = nuV (h 3) n 0 999 (nuS (h 3) n 0 999 (nuS (h 3) n 0 999 (tE3 (h 3) n s))) := by rw [f0_340 53 _ (by omega)]; exact v333_2
                have v340_3 : h_340 53 (5 * a + 3) = nuV (h 3) n 0 999 (nuS (h 3) n 0 999 (nuS (h 3) n 0 999 (nuS (h 3) n 0 999 (tE3 (h 3) n s)))) := by rw [f0_340 53 _ (by omega)]; exact v333_3
                have v340_4 : h_340 53 (5 * a + 4) = nuV (h 3) n 1 99 (nuS (h 3) n 0 999 (nuS (h 3) n 0 999 (nuS (h 3) n 0 999 (nuS (h 3) n 0 999 (tE3 (h 3) n s))))) := by rw [f0_340 53 _ (by omega)]; exact v333_4
                refine r_iconst dX12_actRead_346 ?_
                refine r_goto (tgt := 351) dX12_actRead_347 rfl ?_
                refine r_zret dX12_actRead_351 rfl (.inr rfl) ?_
                exact ⟨_, rfl, kt _ F_340 f1_340 f2_340 ⟨(fun q hq => by
                  match q, hq with
                  | 0, _ => exact v340_0
                  | 1, _ => exact v340_1
                  | 2, _ => exact v340_2
                  | 3, _ => exact v340_3), v340_4⟩⟩
              · refine r_if_eq (tgt := 350) dX12_actRead_343 rfl ⟨by decide, by decide⟩ (fun c_343 => ?_) (fun c_343 => absurd c_343 (by decide))
                refine r_iconst dX12_actRead_350 ?_
                refine r_zret dX12_actRead_351 rfl (.inl rfl) ?_
                rw [F_333.b] at f1_340 f2_340
                have e : siS (h 3) n 59 (nuS (h 3) n 1 99 (nkS (h 3) n (tE3 (h 3) n s) 4)) = siS (h 3) n 59 (nuS (h 3) n 1 99 (nuS (h 3) n 0 999 (nuS (h 3) n 0 999 (nuS (h 3) n 0 999 (nuS (h 3) n 0 999 (tE3 (h 3) n s)))))) := by
                  show siS (h 3) n 59 (nuS (h 3) n 1 99 (nuS (h 3) n 0 999 (nuS (h 3) n 0 999 (nuS (h 3) n 0 999 (nuS (h 3) n 0 999 (tE3 (h 3) n s)))))) = _
                  rfl
                exact ⟨_, rfl, kf _ (FrA.tr (F_333) (FrA.of f0_340)) (by rw [e]; exact f1_340) (by rw [e]; exact f2_340)⟩
            · refine r_if_eq (tgt := 350) dX12_actRead_336 rfl ⟨by decide, by decide⟩ (fun c_336 => ?_) (fun c_336 => absurd c_336 (by decide))
              refine r_iconst dX12_actRead_350 ?_
              refine r_zret dX12_actRead_351 rfl (.inl rfl) ?_
              rw [F_321.b] at f1_333 f2_333
              have e : siS (h 3) n 59 (nuS (h 3) n 1 99 (nkS (h 3) n (tE3 (h 3) n s) 4)) = nuS (h 3) n 1 99 (nuS (h 3) n 0 999 (nuS (h 3) n 0 999 (nuS (h 3) n 0 999 (nuS (h 3) n 0 999 (tE3 (h 3) n s))))) := by
                show siS (h 3) n 59 (nuS (h 3) n 1 99 (nuS (h 3) n 0 999 (nuS (h 3) n 0 999 (nuS (h 3) n 0 999 (nuS (h 3) n 0 999 (tE3 (h 3) n s)))))) = _
                rw [siS_f f2_333]
              exact ⟨_, rfl, kf _ (FrA.tr (F_321) (FrA.of f0_333)) (by rw [e]; exact f1_333) (by rw [e]; exact f2_333)⟩
          · refine r_if_eq (tgt := 350) dX12_actRead_324 rfl ⟨by decide, by decide⟩ (fun c_324 => ?_) (fun c_324 => absurd c_324 (by decide))
            refine r_iconst dX12_actRead_350 ?_
            refine r_zret dX12_actRead_351 rfl (.inl rfl) ?_
            rw [F_308.b] at f1_321 f2_321
            have e : siS (h 3) n 59 (nuS (h 3) n 1 99 (nkS (h 3) n (tE3 (h 3) n s) 4)) = nuS (h 3) n 0 999 (nuS (h 3) n 0 999 (nuS (h 3) n 0 999 (nuS (h 3) n 0 999 (tE3 (h 3) n s)))) := by
              show siS (h 3) n 59 (nuS (h 3) n 1 99 (nuS (h 3) n 0 999 (nuS (h 3) n 0 999 (nuS (h 3) n 0 999 (nuS (h 3) n 0 999 (tE3 (h 3) n s)))))) = _
              rw [nuS_f f2_321, siS_f f2_321]
            exact ⟨_, rfl, kf _ (FrA.tr (F_308) (FrA.of f0_321)) (by rw [e]; exact f1_321) (by rw [e]; exact f2_321)⟩
        · refine r_if_eq (tgt := 350) dX12_actRead_311 rfl ⟨by decide, by decide⟩ (fun c_311 => ?_) (fun c_311 => absurd c_311 (by decide))
          refine r_iconst dX12_actRead_350 ?_
          refine r_zret dX12_actRead_351 rfl (.inl rfl) ?_
          rw [F_295.b] at f1_308 f2_308
          have e : siS (h 3) n 59 (nuS (h 3) n 1 99 (nkS (h 3) n (tE3 (h 3) n s) 4)) = nuS (h 3) n 0 999 (nuS (h 3) n 0 999 (nuS (h 3) n 0 999 (tE3 (h 3) n s))) := by
            show siS (h 3) n 59 (nuS (h 3) n 1 99 (nuS (h 3) n 0 999 (nuS (h 3) n 0 999 (nuS (h 3) n 0 999 (nuS (h 3) n 0 999 (tE3 (h 3) n s)))))) = _
            rw [nuS_f f2_308, nuS_f f2_308, siS_f f2_308]
          exact ⟨_, rfl, kf _ (FrA.tr (F_295) (FrA.of f0_308)) (by rw [e]; exact f1_308) (by rw [e]; exact f2_308)⟩
      · refine r_if_eq (tgt := 350) dX12_actRead_298 rfl ⟨by decide, by decide⟩ (fun c_298 => ?_) (fun c_298 => absurd c_298 (by decide))
        refine r_iconst dX12_actRead_350 ?_
        refine r_zret dX12_actRead_351 rfl (.inl rfl) ?_
        rw [F_282.b] at f1_295 f2_295
        have e : siS (h 3) n 59 (nuS (h 3) n 1 99 (nkS (h 3) n (tE3 (h 3) n s) 4)) = nuS (h 3) n 0 999 (nuS (h 3) n 0 999 (tE3 (h 3) n s)) := by
          show siS (h 3) n 59 (nuS (h 3) n 1 99 (nuS (h 3) n 0 999 (nuS (h 3) n 0 999 (nuS (h 3) n 0 999 (nuS (h 3) n 0 999 (tE3 (h 3) n s)))))) = _
          rw [nuS_f f2_295, nuS_f f2_295, nuS_f f2_295, siS_f f2_295]
        exact ⟨_, rfl, kf _ (FrA.tr (F_282) (FrA.of f0_295)) (by rw [e]; exact f1_295) (by rw [e]; exact f2_295)⟩
    · refine r_if_eq (tgt := 350) dX12_actRead_285 rfl ⟨by decide, by decide⟩ (fun c_285 => ?_) (fun c_285 => absurd c_285 (by decide))
      refine r_iconst dX12_actRead_350 ?_
      refine r_zret dX12_actRead_351 rfl (.inl rfl) ?_
      rw [F1.b] at f1_282 f2_282
      have e : siS (h 3) n 59 (nuS (h 3) n 1 99 (nkS (h 3) n (tE3 (h 3) n s) 4)) = nuS (h 3) n 0 999 (tE3 (h 3) n s) := by
        show siS (h 3) n 59 (nuS (h 3) n 1 99 (nuS (h 3) n 0 999 (nuS (h 3) n 0 999 (nuS (h 3) n 0 999 (nuS (h 3) n 0 999 (tE3 (h 3) n s)))))) = _
        rw [nuS_f f2_282, nuS_f f2_282, nuS_f f2_282, nuS_f f2_282, siS_f f2_282]
      exact ⟨_, rfl, kf _ (FrA.tr (F1) (FrA.of f0_282)) (by rw [e]; exact f1_282) (by rw [e]; exact f2_282)⟩
