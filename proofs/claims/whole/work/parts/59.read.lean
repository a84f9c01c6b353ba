/-! THE PARSER'S LOOP, THE CLASS -/
theorem ms_fl {b : Nat → Int} {n : Nat} {k : Int} {s : Sg} (h : s.1 ≤ n) : s.1 ≤ (flS b n k s).1 ∧ (flS b n k s).1 ≤ n := by
  have A : s.1 ≤ tE b n s.1 ∧ tE b n s.1 ≤ n := ⟨Nat.le_trans (tS_r h).1 (tE_r h).1, (tE_r h).2.1⟩
  unfold flS
  repeat' split
  all_goals first
    | exact A
    | exact ⟨Nat.le_refl _, h⟩
theorem ms_nu {b : Nat → Int} {n : Nat} {lo hi : Int} {s : Sg} (h : s.1 ≤ n) : s.1 ≤ (nuS b n lo hi s).1 ∧ (nuS b n lo hi s).1 ≤ n := by
  have A : s.1 ≤ tE b n s.1 ∧ tE b n s.1 ≤ n := ⟨Nat.le_trans (tS_r h).1 (tE_r h).1, (tE_r h).2.1⟩
  unfold nuS
  repeat' split
  all_goals first
    | exact A
    | exact ⟨Nat.le_refl _, h⟩
theorem ms_si {b : Nat → Int} {n : Nat} {c : Int} {s : Sg} (h : s.1 ≤ n) : s.1 ≤ (siS b n c s).1 ∧ (siS b n c s).1 ≤ n := by
  have A : s.1 ≤ tE b n s.1 ∧ tE b n s.1 ≤ n := ⟨Nat.le_trans (tS_r h).1 (tE_r h).1, (tE_r h).2.1⟩
  unfold siS
  repeat' split
  all_goals first
    | exact A
    | exact ⟨Nat.le_refl _, h⟩
theorem ms_ab {b : Nat → Int} {n : Nat} {c : Int} {s : Sg} (h : s.1 ≤ n) : s.1 ≤ (abS b n c s).1 ∧ (abS b n c s).1 ≤ n := by
  have A : s.1 ≤ tE b n s.1 ∧ tE b n s.1 ≤ n := ⟨Nat.le_trans (tS_r h).1 (tE_r h).1, (tE_r h).2.1⟩
  unfold abS
  repeat' split
  all_goals first
    | exact A
    | exact ⟨Nat.le_refl _, h⟩
theorem ms_mn {b : Nat → Int} {n : Nat} {s : Sg} (h : s.1 ≤ n) : s.1 ≤ (mnS b n s).1 ∧ (mnS b n s).1 ≤ n := by
  have A : s.1 ≤ tE b n s.1 ∧ tE b n s.1 ≤ n := ⟨Nat.le_trans (tS_r h).1 (tE_r h).1, (tE_r h).2.1⟩
  unfold mnS
  repeat' split
  all_goals first
    | exact A
    | exact ⟨Nat.le_refl _, h⟩
theorem ms_fp {b : Nat → Int} {n : Nat} {fi : Int} {s : Sg} (h : s.1 ≤ n) : s.1 ≤ (fpS b n fi s).1 ∧ (fpS b n fi s).1 ≤ n := by
  have A : s.1 ≤ tE b n s.1 ∧ tE b n s.1 ≤ n := ⟨Nat.le_trans (tS_r h).1 (tE_r h).1, (tE_r h).2.1⟩
  unfold fpS
  repeat' split
  all_goals first
    | exact A
    | exact ⟨Nat.le_refl _, h⟩
theorem ms_ff {b : Nat → Int} {n : Nat} {fi : Int} {s : Sg} (h : s.1 ≤ n) : s.1 ≤ (ffS b n fi s).1 ∧ (ffS b n fi s).1 ≤ n := by
  have A : s.1 ≤ tE b n s.1 ∧ tE b n s.1 ≤ n := ⟨Nat.le_trans (tS_r h).1 (tE_r h).1, (tE_r h).2.1⟩
  unfold ffS
  repeat' split
  all_goals first
    | exact A
    | exact ⟨Nat.le_refl _, h⟩

theorem ms_tr {n : Nat} {s t u : Sg} (a : s.1 ≤ t.1 ∧ t.1 ≤ n) (c : t.1 ≤ n → t.1 ≤ u.1 ∧ u.1 ≤ n) : s.1 ≤ u.1 ∧ u.1 ≤ n := ⟨Nat.le_trans a.1 (c a.2).1, (c a.2).2⟩
theorem ms_sd {b : Nat → Int} {n : Nat} {s : Sg} (h : s.1 ≤ n) : s.1 ≤ (sdS b n s).1 ∧ (sdS b n s).1 ≤ n := ms_tr (ms_mn h) ms_nu
theorem ms_nk {b : Nat → Int} {n : Nat} {s : Sg} (h : s.1 ≤ n) : ∀ j : Nat, s.1 ≤ (nkS b n s j).1 ∧ (nkS b n s j).1 ≤ n
  | 0 => ⟨Nat.le_refl _, h⟩
  | j + 1 => ms_tr (ms_nk h j) ms_nu
theorem ms_sq {b : Nat → Int} {n : Nat} {s : Sg} (h : s.1 ≤ n) : ∀ j : Nat, s.1 ≤ (sqS b n s j).1 ∧ (sqS b n s j).1 ≤ n
  | 0 => ⟨Nat.le_refl _, h⟩
  | j + 1 => by
    rw [sqS]
    split
    · exact ms_tr (ms_sq h j) (fun z => ms_tr (ms_nu z) ms_nu)
    · exact ms_sq h j
theorem ms_fo {b : Nat → Int} {n : Nat} {fi : Int} {s : Sg} (h : s.1 ≤ n) : s.1 ≤ (foS b n fi s).1 ∧ (foS b n fi s).1 ≤ n := by
  unfold foS
  have q : s.1 ≤ (sqS b n (ffS b n fi s) 12).1 ∧ (sqS b n (ffS b n fi s) 12).1 ≤ n := ms_tr (ms_ff h) (fun z => ms_sq z 12)
  split
  · exact ms_tr q ms_fl
  · exact q
theorem ms_pu {b : Nat → Int} {n : Nat} {fi : Int} {s : Sg} (h : s.1 ≤ n) : s.1 ≤ (puS b n fi s).1 ∧ (puS b n fi s).1 ≤ n := ms_tr (ms_fp h) (fun z => ms_tr (ms_nk z 2) ms_nu)
theorem ms_cl {b : Nat → Int} {n : Nat} {s : Sg} (h : s.1 ≤ n) : s.1 ≤ (clS b n s 4).1 ∧ (clS b n s 4).1 ≤ n := ms_tr (ms_nu h) (fun z => ms_tr (ms_nu z) (fun z => ms_tr (ms_ab z) (fun z => ms_tr (ms_nu z) (fun z => ms_tr (ms_ab z) ms_nu))))
theorem ms_ag {b : Nat → Int} {n : Nat} {op : Int} {s : Sg} (h : s.1 ≤ n) : s.1 ≤ (agS b n op s).1 ∧ (agS b n op s).1 ≤ n := by
  have z : s.1 ≤ (arS b n s 3).1 ∧ (arS b n s 3).1 ≤ n := ms_tr (t := nuS b n 0 99 s) (ms_nu h) (fun z => ms_tr (t := sdS b n (nuS b n 0 99 s)) (ms_sd z) ms_sd)
  refine ms_tr (t := aoS b n op (arS b n s 3)) ?_ ms_si
  unfold aoS
  split
  · exact ms_tr z ms_fl
  · exact z
theorem ms_st {b : Nat → Int} {n : Nat} {fi op v : Int} {s : Sg} (h : s.1 ≤ n) : s.1 ≤ (stS b n fi op v s).1 ∧ (stS b n fi op v s).1 ≤ n := by
  unfold stS
  repeat' split
  · exact ms_tr (ms_fo h) ms_si
  · exact ms_tr (ms_pu h) ms_si
  · exact ms_tr (ms_nk h 4) ms_si
  · exact ms_tr (ms_nk h 2) ms_si
  · exact ms_tr (ms_nk h 4) (fun z => ms_tr (ms_nu z) ms_si)
  · exact ms_tr (ms_cl h) ms_si
  · exact ms_ag h
theorem ff_0 {b : Nat → Int} {n : Nat} {fi : Int} {s : Sg} (h : (ffS b n fi s).2.1 = 0) (h0 : s.2.1 = 0) : nmP b n s.1 ∧ ¬ 0 ≤ fi := by
  unfold ffS at h
  rw [if_pos h0] at h
  by_cases c : nmP b n s.1
  · rw [if_pos c] at h
    by_cases e : 0 ≤ fi
    · rw [if_pos e] at h
      exact absurd (show (3 : Int) = 0 from h) (by decide)
    · exact ⟨c, e⟩
  · rw [if_neg c] at h
    exact absurd (show (1 : Int) = 0 from h) (by decide)
theorem fo_0 {b : Nat → Int} {n : Nat} {fi : Int} {s : Sg} (h : (foS b n fi s).2.1 = 0) : (ffS b n fi s).2.1 = 0 ∧ foS b n fi s = sqS b n (ffS b n fi s) 12 ∧ ¬ tK b n (sqS b n (ffS b n fi s) 12).1 = 2 := by
  unfold foS at h ⊢
  by_cases c : tK b n (sqS b n (ffS b n fi s) 12).1 = 2
  · rw [if_pos c] at h
    exact absurd h (flS_n (by decide))
  · rw [if_neg c] at h ⊢
    refine ⟨?_, rfl, c⟩
    by_cases z : (ffS b n fi s).2.1 = 0
    · exact z
    · rw [sq_f z] at h
      exact h
abbrev CB (h : Hp) (n : Nat) (s : Sg) : Prop := TX h n ∧ PS h n s ∧ (0 ≤ h 14 4 ∧ h 14 4 ≤ 5)
abbrev CI (h : Hp) (n : Nat) (s : Sg) (F i : Nat) : Prop := CB h n s ∧ NF h F ∧ (h 4 0 = i ∧ i ≤ 60) ∧ ∀ q : Nat, (q : Int) < h 14 4 → 0 ≤ h 15 q ∧ h 15 q < i
abbrev ClS (h g : Hp) (n : Nat) (s : Sg) : Prop := FrB h g ∧ PS g n (tE3 (h 3) n s) ∧ g 14 4 = h 14 4 - 1 ∧ (∀ k : Nat, k ≠ (h 15 (h 14 4 - 1).toNat).toNat → g 6 k = h 6 k) ∧ g 6 (h 15 (h 14 4 - 1).toNat).toNat = h 4 0 - 1 ∧ ∀ a k : Nat, ((4 ≤ a ∧ a ≤ 13 ∧ a ≠ 6) ∨ a = 15) → g a k = h a k
def StepR (n : Nat) (h g : Hp) : Prop := ∃ (s : Sg) (F i : Nat), CI h n s F i ∧ s.2.1 = 0 ∧ tK (h 3) n s.1 ≠ 0 ∧ ((tK (h 3) n s.1 = 41 ∧ 0 < h 14 4 ∧ ClS h g n s) ∨ (¬ (tK (h 3) n s.1 = 41 ∧ 0 < h 14 4) ∧ StC h g n F i s))
def Rch (n : Nat) : Nat → Hp → Hp → Prop
  | 0, h, g => g = h
  | m + 1, h, g => ∃ x, StepR n h x ∧ Rch n m x g
theorem Rch_snoc {n : Nat} : ∀ {m : Nat} {h g k : Hp}, Rch n m h g → StepR n g k → Rch n (m + 1) h k
  | 0, h, g, k, e, s => ⟨k, e ▸ s, rfl⟩
  | m + 1, h, g, k, ⟨x, a, r⟩, s => ⟨x, a, Rch_snoc r s⟩
theorem PS_eq {h g : Hp} {n : Nat} {s : Sg} (p : PS h n s) (q : PS g n s) : True := trivial
theorem FrB.tx {h g : Hp} {n : Nat} (f : FrB h g) (t : TX h n) : TX g n := ⟨(f 2 5 (by omega)).trans t.1, t.2.1, by rw [show g 3 = h 3 from funext fun j => f 3 j (by omega)]; exact t.2.2⟩
/-- behind a statement: the class goes on, or has a fault -/
theorem StC.next {h g : Hp} {n F i : Nat} {s : Sg} (c : CI h n s F i) (s0 : s.2.1 = 0) (hk : tK (h 3) n s.1 ≠ 0) (t : StC h g n F i s) : ∃ s2 : Sg, CB g n s2 ∧ (s2.2.1 = 0 → s.1 < s2.1 ∧ ∃ F2 i2 : Nat, CI g n s2 F2 i2) := by
  obtain ⟨fb, fo, t⟩ := t
  have gx := fb.tx c.1.1
  have sr := c.1.2.1.2.2.2
  have tr := tK_r (b := h 3) sr.1
  have ts := tS_r (b := h 3) sr.1
  have te := tE_r (b := h 3) sr.1
  rcases t with ⟨_, p⟩ | ⟨_, _, p⟩ | ⟨v0, nb, p, good⟩
  · exact ⟨_, ⟨gx, p, fo⟩, fun z => absurd z (flS_n (by decide))⟩
  · exact ⟨_, ⟨gx, p, fo⟩, fun z => absurd z (flS_n (by decide))⟩
  · refine ⟨_, ⟨gx, p, fo⟩, fun z => ?_⟩
    have e3 : g 3 = h 3 := funext fun j => fb 3 j (by omega)
    have m := ms_st (b := h 3) (n := n) (fi := fiH h n (tE (h 3) n s.1) F) (op := h 14 4) (v := vbF (h 3) n s.1) (s := tE3 (h 3) n s) te.2.1
    refine ⟨Nat.lt_of_lt_of_le (show s.1 < tE (h 3) n s.1 by omega) m.1, ?_⟩
    obtain ⟨ga, g0, gf, go, gv⟩ := good z
    have op : ∀ q : Nat, (q : Int) < g 14 4 → 0 ≤ g 15 q ∧ g 15 q < (i + 1 : Nat) := fun q hq => by
      by_cases v6 : vbF (h 3) n s.1 = 6
      · obtain ⟨-, w1, w2, w3⟩ := gv.2.2.2.2.2 v6
        by_cases e : q = (h 14 4).toNat
        · rw [e, w1]
          omega
        · rw [w3 q e]
          have := c.2.2.2 q (by omega)
          omega
      · obtain ⟨w1, w2⟩ := go v6
        rw [w2 q]
        have := c.2.2.2 q (by omega)
        omega
    have si : g 4 0 = ((i + 1 : Nat) : Int) ∧ i + 1 ≤ 60 := by
      have := ga.1
      have := c.2.2.1
      omega
    by_cases vz : vbF (h 3) n s.1 = 0
    · obtain ⟨⟨n1, n2, n3⟩, fk, no, np⟩ := g0 vz
      refine ⟨F + 1, i + 1, ⟨⟨gx, p, fo⟩, ⟨by rw [n1]; rfl, by omega, fun k hk => ?_⟩, si, op⟩⟩
      rw [e3]
      by_cases e : k = F
      · have es : stS (h 3) n (fiH h n (tE (h 3) n s.1) F) (h 14 4) (vbF (h 3) n s.1) (tE3 (h 3) n s) = siS (h 3) n 59 (foS (h 3) n (fiH h n (tE (h 3) n s.1) F) (tE3 (h 3) n s)) := by
          unfold stS
          rw [if_pos vz]
        rw [es] at z
        have f0 := (fo_0 (siS_0 z)).1
        have nm := (ff_0 f0 s0).1
        have tn : (tE3 (h 3) n s).1 ≤ n := te.2.1
        have ts2 := tS_r (b := h 3) tn
        have te2 := tE_r (b := h 3) tn
        have hn := c.1.1.2.1
        rw [e, n2, n3]
        refine ⟨by omega, by omega, by omega, by omega, ?_⟩
        rw [Int.toNat_natCast, Int.toNat_natCast]
        exact ⟨te2.1, nm.2.1, fun j a b => kd_1 (((tRun tn (Or.inl nm.1)).2.2.1 j a b).trans nm.1)⟩
      · rw [(no k e).1, (no k e).2.1]
        exact c.2.1.2.2 k (by omega)
    · obtain ⟨w1, w2⟩ := gf vz
      exact ⟨F, i + 1, ⟨⟨gx, p, fo⟩, NF_cg e3 w1 (fun k => w2 9 k (by decide) (by decide)) (fun k => w2 10 k (by decide) (by decide)) c.2.1, si, op⟩⟩
theorem ClS.next {h g : Hp} {n F i : Nat} {s : Sg} (c : CI h n s F i) (hk : tK (h 3) n s.1 ≠ 0) (ho : 0 < h 14 4) (t : ClS h g n s) : CI g n (tE3 (h 3) n s) F i ∧ s.1 < (tE3 (h 3) n s).1 := by
  obtain ⟨fb, p, o, -, -, fr⟩ := t
  have sr := c.1.2.1.2.2.2
  have tr := tK_r (b := h 3) sr.1
  have ts := tS_r (b := h 3) sr.1
  have hop := c.1.2.2
  refine ⟨⟨⟨fb.tx c.1.1, p, by omega⟩, NF_cg (funext fun j => fb 3 j (by omega)) (fr 4 1 (by omega)) (fun k => fr 9 k (by omega)) (fun k => fr 10 k (by omega)) c.2.1, by rw [fr 4 0 (by omega)]; exact c.2.2.1, fun q hq => ?_⟩, ?_⟩
  · rw [fr 15 q (by omega)]
    exact c.2.2.2 q (by omega)
  · show s.1 < tE (h 3) n s.1
    omega
set_option maxRecDepth 20000 in
set_option maxHeartbeats 400000 in
theorem lp_read {d : Nat} (hd : 10 ≤ d) {post : Pst} {h0 : Hp} {n : Nat} (K : ∀ (g : Hp) (m : Nat) (s : Sg), Rch n m h0 g → CB g n s → (¬ s.2.1 = 0 ∨ (s.2.1 = 0 ∧ tK (g 3) n s.1 = 0 ∧ ∃ F i : Nat, CI g n s F i)) → ∀ o : Option AV, WW mX3_read (d + 1) post 143 [some (.inr (.inr 14)), some (.inl (n : Int)), o] [] g) : ∀ (nn : Nat) (r : Nat) (g : Hp) (s : Sg) (m : Nat), (r ≤ 501) → (Rch n m h0 g) → (CB g n s) → (s.2.1 = 0 → r ≤ s.1 ∧ ∃ F i : Nat, CI g n s F i) → 501 - r < nn → WW mX3_read (d + 1) post 41 [some (.inr (.inr 14)), some (.inl (n : Int)), some (.inl (r : Int))] [] g := by
  intro nn
  induction nn with
  | zero => intro r g s m hr hc hb hi; intros; omega
  | succ nn ih =>
    intro r g s m hr hc hb hi hmu
    have pr := hb.2.1.r
    have q1 := hb.2.1.2.1
    have tk := hb.2.1.1.1
    have sr := hb.2.1.2.2.2
    have nn := hb.1.2.1
    refine r_iload_n dX3_read_41 rfl rfl ?_
    refine r_sipush dX3_read_42 (by decide +kernel) ?_
    refine r_icmp_gt (tgt := 143) dX3_read_45 rfl (by omega) ⟨by decide, by decide⟩ (fun c_45 => ?_) (fun c_45 => ?_)
    · refine K g m s hc hb ?_ _
      first
        | (left
           intro z
           have := (hi z).1
           omega)
        | (left; omega)
        | (right
           exact ⟨by omega, by omega, (hi (by omega)).2⟩)
    · refine r_aload_n dX3_read_48 rfl rfl ?_
      refine r_getI dX3_read_49 fl_X3_9 sh_14 rfl ?_
      refine r_if_ne (tgt := 143) dX3_read_52 rfl (by omega) (fun c_52 => ?_) (fun c_52 => ?_)
      · refine K g m s hc hb ?_ _
        first
          | (left
             intro z
             have := (hi z).1
             omega)
          | (left; omega)
          | (right
             exact ⟨by omega, by omega, (hi (by omega)).2⟩)
      · refine r_aload_n dX3_read_55 rfl rfl ?_
        refine r_getR dX3_read_56 fl_X3_25 sh_14 rfl ?_
        refine r_getI dX3_read_59 fl_X3_46 sh_2 rfl ?_
        refine r_if_ne (tgt := 68) dX3_read_62 rfl (by omega) (fun c_62 => ?_) (fun c_62 => ?_)
        · have s0 : s.2.1 = 0 := by omega
          have hi := hi s0
          obtain ⟨rp, F, i, ci⟩ := hi
          have k0 : tK (g 3) n s.1 ≠ 0 := by omega
          refine r_aload_n dX3_read_68 rfl rfl ?_
          refine r_getR dX3_read_69 fl_X3_25 sh_14 rfl ?_
          refine r_getI dX3_read_72 fl_X3_46 sh_2 rfl ?_
          refine r_bipush dX3_read_75 (by decide +kernel) ?_
          refine r_icmp_ne (tgt := 133) dX3_read_77 rfl (by omega) ⟨by decide, by decide⟩ (fun c_77 => ?_) (fun c_77 => ?_)
          · refine r_aload_n dX3_read_133 rfl rfl ?_
            refine r_callVU (av := []) (M' := mX3_readStatement) dX3_read_134 vX3_readStatement ml_X3_55 sh_14 (by decide) rfl rfl rfl rfl (by simp [wtA]) (sp_X3_readStatement (by omega) hb.1 hb.2.1 ci.2.1 ci.2.2.1 hb.2.2 (fun h_134 f0_134 => ?_))
            refine r_iinc (L' := [_, _, _]) dX3_read_137 rfl rfl (by decide) rfl ?_
            refine r_goto (tgt := 41) dX3_read_140 rfl ?_
            obtain ⟨s2, b2, n2⟩ := f0_134.next ci s0 k0
            exact ih (r + 1) _ s2 (m + 1) (by omega) (Rch_snoc hc ⟨s, F, i, ci, s0, k0, Or.inr ⟨by omega, f0_134⟩⟩) b2 (fun z => ⟨by have := (n2 z).1; omega, (n2 z).2⟩) (by omega)
          · refine r_aload_n dX3_read_80 rfl rfl ?_
            refine r_getI dX3_read_81 fl_X3_18 sh_14 rfl ?_
            refine r_if_le (tgt := 133) dX3_read_84 rfl (by omega) (fun c_84 => ?_) (fun c_84 => ?_)
            · refine r_aload_n dX3_read_133 rfl rfl ?_
              refine r_callVU (av := []) (M' := mX3_readStatement) dX3_read_134 vX3_readStatement ml_X3_55 sh_14 (by decide) rfl rfl rfl rfl (by simp [wtA]) (sp_X3_readStatement (by omega) hb.1 hb.2.1 ci.2.1 ci.2.2.1 hb.2.2 (fun h_134 f0_134 => ?_))
              refine r_iinc (L' := [_, _, _]) dX3_read_137 rfl rfl (by decide) rfl ?_
              refine r_goto (tgt := 41) dX3_read_140 rfl ?_
              obtain ⟨s2, b2, n2⟩ := f0_134.next ci s0 k0
              exact ih (r + 1) _ s2 (m + 1) (by omega) (Rch_snoc hc ⟨s, F, i, ci, s0, k0, Or.inr ⟨by omega, f0_134⟩⟩) b2 (fun z => ⟨by have := (n2 z).1; omega, (n2 z).2⟩) (by omega)
            · have oq := ci.2.2.2 (g 14 4 - 1).toNat (by omega)
              have ci2 := ci.2.2.1
              refine r_aload_n dX3_read_87 rfl rfl ?_
              refine r_dup dX3_read_88 (fun _ h => by cases h) ?_
              refine r_getI dX3_read_89 fl_X3_18 sh_14 rfl ?_
              refine r_iconst dX3_read_92 ?_
              refine r_isub dX3_read_93 ?_
              refine r_putI dX3_read_94 fl_X3_18 sh_14 rfl ?_
              refine r_aload_n dX3_read_97 rfl rfl ?_
              refine r_getR dX3_read_98 fl_X3_29 sh_14 rfl ?_
              refine r_getR dX3_read_101 fl_X3_49 sh_4 rfl ?_
              refine r_aload_n dX3_read_104 rfl rfl ?_
              refine r_getR dX3_read_105 fl_X3_21 sh_14 rfl ?_
              refine r_aload_n dX3_read_108 rfl rfl ?_
              refine r_getI dX3_read_109 fl_X3_18 sh_14 rfl ?_
              refine r_eqI (up_s _ _ _ _) ?_
              refine r_iald dX3_read_112 sh_15 (by decide) (by omega) ?_
              refine r_eqI (up_nc (by decide)) ?_
              refine r_aload_n dX3_read_113 rfl rfl ?_
              refine r_getR dX3_read_114 fl_X3_29 sh_14 rfl ?_
              refine r_getI dX3_read_117 fl_X3_33 sh_4 rfl ?_
              refine r_eqI (up_nc (by decide)) ?_
              refine r_iconst dX3_read_120 ?_
              refine r_isub dX3_read_121 ?_
              refine r_iast dX3_read_122 sh_6 (by decide) (by omega) ?_
              refine r_gh (fun w ew => ?_)
              have wp : PS w n s := by rw [ew]; exact (hb.2.1.up (by decide) (by decide) (by decide)).up (by decide) (by decide) (by omega)
              have wx : TX w n := by rw [ew]; exact (hb.1.up (by decide) (by decide)).up (by decide) (by decide)
              have w3 : w 3 = g 3 := by rw [ew]; rfl
              have wo : w 14 4 = g 14 4 - 1 := by rw [ew]; rfl
              have w6 : w 6 (g 15 (g 14 4 - 1).toNat).toNat = g 4 0 - 1 := by rw [ew]; exact up_s _ _ _ _
              have w6n : ∀ k : Nat, k ≠ (g 15 (g 14 4 - 1).toNat).toNat → w 6 k = g 6 k := fun k hk => by rw [ew]; exact up_nk hk
              have wf : ∀ a k, ¬ (a = 14 ∧ k = 4) → a ≠ 6 → w a k = g a k := fun a k z1 z2 => by
                rw [ew]
                unfold upH
                rw [if_neg (by omega), if_neg z1]
              clear ew
              refine r_aload_n dX3_read_123 rfl rfl ?_
              refine r_getR dX3_read_124 fl_X3_25 sh_14 rfl ?_
              refine r_callVU (av := []) (M' := mX8_step) dX3_read_127 vX8_step ml_X3_52 sh_2 (by decide) rfl rfl rfl rfl (by simp [wtA]) (sp_X8_step (n := n) (p := tE (w 3) n s.1) (by omega) ⟨wx.1, wx.2.1⟩ ⟨wp.1.2.2.1, (tE_r wp.2.2.2.1).2.1⟩ wx.2.2 (fun h_127 f0_127 f1_127 => ?_))
              refine r_goto (tgt := 137) dX3_read_130 rfl ?_
              refine r_iinc (L' := [_, _, _]) dX3_read_137 rfl rfl (by decide) rfl ?_
              refine r_goto (tgt := 41) dX3_read_140 rfl ?_
              have st := wp.step f0_127 f1_127
              rw [w3] at st
              have cl : ClS g h_127 n s := by
                refine ⟨fun a q z => ?_, st.1, ?_, fun q hq => ?_, ?_, fun a q z => ?_⟩
                · rw [st.2 a q (by omega) (by omega)]
                  exact wf a q (by omega) (by omega)
                · rw [st.2 14 4 (by decide) (by decide)]; exact wo
                · rw [st.2 6 q (by omega) (by omega)]; exact w6n q hq
                · rw [st.2 6 _ (by omega) (by omega)]; exact w6
                · rw [st.2 a q (by omega) (by omega)]
                  exact wf a q (by omega) (by omega)
              have nx := cl.next ci k0 (by omega)
              exact ih (r + 1) _ _ (m + 1) (by omega) (Rch_snoc hc ⟨s, F, i, ci, s0, k0, Or.inl ⟨by omega, by omega, cl⟩⟩) nx.1.1 (fun _ => ⟨by have := nx.2; omega, F, i, nx.1⟩) (by omega)
        · refine r_goto (tgt := 143) dX3_read_65 rfl ?_
          refine K g m s hc hb ?_ _
          first
            | (left
               intro z
               have := (hi z).1
               omega)
            | (left; omega)
            | (right
               exact ⟨by omega, by omega, (hi (by omega)).2⟩)
/-- the heap at the loop's begin -/
abbrev St0 (h h0 : Hp) (n : Nat) : Prop := (∀ a k, ¬ (a = 2 ∧ (k = 1 ∨ k = 2 ∨ k = 3 ∨ k = 4 ∨ k = 5)) → ¬ (a = 14 ∧ (k = 2 ∨ k = 3 ∨ k = 4)) → ¬ (a = 4 ∧ (k = 0 ∨ k = 1)) → h0 a k = h a k) ∧ CI h0 n (0, 0, -1) 0 0 ∧ h0 14 4 = 0
set_option maxRecDepth 20000 in
set_option maxHeartbeats 400000 in
theorem sp_X3_read {d : Nat} (hd : 11 ≤ d) {h : Hp} {n : Nat} (hs : (n : Int) ≤ h 2 0 ∧ h 2 0 ≤ 500) (hb : BY (h 3)) {P : Int → Hp → Prop} (k1 : ∀ (h0 g : Hp) (m : Nat) (s : Sg) (F i : Nat), St0 h h0 n → Rch n m h0 g → CI g n s F i → s.2.1 = 0 → tK (g 3) n s.1 = 0 → g 14 4 = 0 → P 1 g) (k0 : ∀ (h0 g g2 : Hp) (m : Nat) (s : Sg), St0 h h0 n → Rch n m h0 g → CB g n s → FrP g g2 → ((¬ s.2.1 = 0 ∧ PS g2 n s) ∨ (s.2.1 = 0 ∧ tK (g 3) n s.1 = 0 ∧ (∃ F i : Nat, CI g n s F i) ∧ 0 < g 14 4 ∧ PS g2 n (flS (g 3) n 1 s))) → P 0 g2) : Cl d mX3_read [.inr (.inr 14), .inl (n : Int)] h (pI P) := by
  refine Cl.of (L := [some (.inr (.inr 14)), some (.inl (n : Int)), none]) (by decide +kernel) (Nat.le_of_ble_eq_true rfl) rfl ?_
  obtain ⟨d, rfl⟩ : ∃ q, d = q + 1 := ⟨d - 1, by omega⟩
  refine r_aload_n dX3_read_0 rfl rfl ?_
  refine r_iconst dX3_read_1 ?_
  refine r_putI dX3_read_2 fl_X3_9 sh_14 rfl ?_
  refine r_aload_n dX3_read_5 rfl rfl ?_
  refine r_iconst dX3_read_6 ?_
  refine r_putI dX3_read_7 fl_X3_15 sh_14 rfl ?_
  refine r_aload_n dX3_read_10 rfl rfl ?_
  refine r_iconst dX3_read_11 ?_
  refine r_putI dX3_read_12 fl_X3_18 sh_14 rfl ?_
  refine r_aload_n dX3_read_15 rfl rfl ?_
  refine r_getR dX3_read_16 fl_X3_29 sh_14 rfl ?_
  refine r_iconst dX3_read_19 ?_
  refine r_putI dX3_read_20 fl_X3_33 sh_4 rfl ?_
  refine r_aload_n dX3_read_23 rfl rfl ?_
  refine r_getR dX3_read_24 fl_X3_29 sh_14 rfl ?_
  refine r_iconst dX3_read_27 ?_
  refine r_putI dX3_read_28 fl_X3_38 sh_4 rfl ?_
  refine r_gh (fun w ew => ?_)
  have w0 : w 14 2 = 0 ∧ w 14 3 = -1 ∧ w 14 4 = 0 ∧ w 4 0 = 0 ∧ w 4 1 = 0 := by rw [ew]; exact ⟨rfl, rfl, rfl, rfl, rfl⟩
  have wf : ∀ a k, ¬ (a = 14 ∧ (k = 2 ∨ k = 3 ∨ k = 4)) → ¬ (a = 4 ∧ (k = 0 ∨ k = 1)) → w a k = h a k := fun a k z1 z2 => by
    rw [ew]
    unfold upH
    rw [if_neg (by omega), if_neg (by omega), if_neg (by omega), if_neg (by omega), if_neg (by omega)]
  have w3 : w 3 = h 3 := funext fun j => wf 3 j (by omega) (by omega)
  clear ew
  refine r_aload_n dX3_read_31 rfl rfl ?_
  refine r_getR dX3_read_32 fl_X3_25 sh_14 rfl ?_
  refine r_iload_n dX3_read_35 rfl rfl ?_
  refine r_callVU (av := [_]) (M' := mX8_open) dX3_read_36 vX8_open ml_X3_41 sh_2 (by decide) rfl rfl rfl rfl (by simp [wtA]) (sp_X8_open (by omega) (n := n) rfl (by rw [wf 2 0 (by decide) (by decide)]; exact hs) (by rw [w3]; exact hb) (fun h_36 f0_36 f1_36 f2_36 => ?_))
  refine r_iconst dX3_read_39 ?_
  refine r_istore_n (L' := [_, _, _]) dX3_read_40 rfl rfl (by decide) rfl ?_
  have y3 : h_36 3 = h 3 := funext fun j => (f0_36 3 j (by omega)).trans (congrFun w3 j)
  have ps : PS h_36 n (0, 0, -1) := ⟨f2_36, (f0_36 14 2 (by decide)).trans w0.1, (f0_36 14 3 (by decide)).trans w0.2.1, by show 0 ≤ n ∧ (0 : Int) ≤ 0 ∧ (0 : Int) ≤ 5 ∧ (-1 : Int) ≤ -1 ∧ (-1 : Int) ≤ 500; omega⟩
  have ci : CI h_36 n (0, 0, -1) 0 0 := ⟨⟨⟨f1_36, by omega, by rw [y3]; exact hb⟩, ps, by rw [f0_36 14 4 (by decide), w0.2.2.1]; decide⟩, ⟨(f0_36 4 1 (by decide)).trans w0.2.2.2.2, by decide, fun k hk => absurd hk (Nat.not_lt_zero k)⟩, ⟨(f0_36 4 0 (by decide)).trans w0.2.2.2.1, by decide⟩, fun q hq => by rw [f0_36 14 4 (by decide), w0.2.2.1] at hq; omega⟩
  have s0 : St0 h h_36 n := ⟨fun a k z1 z2 z3 => (f0_36 a k z1).trans (wf a k z2 z3), ci, (f0_36 14 4 (by decide)).trans w0.2.2.1⟩
  refine lp_read (h0 := h_36) (by omega) (fun g m s c b e o => ?_) 502 0 h_36 (0, 0, -1) 0 (by omega) rfl ci.1 (fun _ => ⟨Nat.le_refl _, 0, 0, ci⟩) (by omega)
  have pr := b.2.1.r
  have q1 := b.2.1.2.1
  have bo := b.2.2
  refine r_aload_n dX3_read_143 rfl rfl ?_
  refine r_getI dX3_read_144 fl_X3_18 sh_14 rfl ?_
  refine r_if_le (tgt := 155) dX3_read_147 rfl (by omega) (fun c_147 => ?_) (fun c_147 => ?_)
  · refine r_aload_n dX3_read_155 rfl rfl ?_
    refine r_getI dX3_read_156 fl_X3_9 sh_14 rfl ?_
    refine r_if_ne (tgt := 166) dX3_read_159 rfl (by omega) (fun c_159 => ?_) (fun c_159 => ?_)
    · refine r_iconst dX3_read_166 ?_
      refine r_zret dX3_read_167 rfl (.inl rfl) ?_
      exact ⟨_, rfl, k0 h_36 g g m s s0 c b FrP.rf (Or.inl ⟨by omega, b.2.1⟩)⟩
    · refine r_iconst dX3_read_162 ?_
      refine r_goto (tgt := 167) dX3_read_163 rfl ?_
      refine r_zret dX3_read_167 rfl (.inr rfl) ?_
      have e := e.resolve_left (fun z => z (by omega))
      obtain ⟨e1, e2, F, i, ci2⟩ := e
      exact ⟨_, rfl, k1 h_36 g m s F i s0 c ci2 e1 e2 (by omega)⟩
  · refine r_aload_n dX3_read_150 rfl rfl ?_
    refine r_iconst dX3_read_151 ?_
    refine r_callVU (av := [_]) (M' := mX3_fail) dX3_read_152 vX3_fail ml_X3_58 sh_14 (by decide) rfl rfl rfl rfl (by simp [wtA]) (sp_X3_fail (by omega) b.1 b.2.1 (by omega) (fun h_152 f0_152 f1_152 => ?_))
    refine r_aload_n dX3_read_155 rfl rfl ?_
    refine r_getI dX3_read_156 fl_X3_9 sh_14 rfl ?_
    refine r_if_ne (tgt := 166) dX3_read_159 rfl (by have := f1_152.r; omega) (fun c_159 => ?_) (fun c_159 => ?_)
    · refine r_iconst dX3_read_166 ?_
      refine r_zret dX3_read_167 rfl (.inl rfl) ?_
      refine ⟨_, rfl, k0 h_36 g h_152 m s s0 c b f0_152 ?_⟩
      rcases e with e | e
      · left
        rw [flS_f e] at f1_152
        exact ⟨e, f1_152⟩
      · right
        exact ⟨e.1, e.2.1, e.2.2, by omega, f1_152⟩
    · refine r_iconst dX3_read_162 ?_
      refine r_goto (tgt := 167) dX3_read_163 rfl ?_
      refine r_zret dX3_read_167 rfl (.inr rfl) ?_
      exfalso
      have z := f1_152.2.1
      exact flS_n (b := g 3) (n := n) (k := 1) (s := s) (by decide) (by omega)
