/-! DOALL'S LOOP, THE REFERENCE -/
set_option maxRecDepth 20000 in
set_option maxHeartbeats 1000000 in
theorem do_r {x : Hp} {F i d r : Nat} (hd : 7 ≤ d) {P : Hp → Prop} (v : PV x F i) (c : WH (x 1 0) (x 1 1)) (HI : ∀ q : Nat, r = q + 1 → DoS x F i d P q) : DoS x F i d P r := by
  intro a b wn hb m
  have i60 := v.1.2
  induction m with
  | zero =>
    intro s dp dn o g ha hsb2 hm hdp hD ok h0 l K Kf
    have es : s = b := by omega
    subst es
    exact K g dn o ⟨FrJ.rf, fun q hq => ⟨rfl, rfl, fun j hj => rfl⟩⟩ rfl h0
  | succ m ih =>
    intro s dp dn o g ha hsb2 hm hdp hD ok h0 l K Kf
    by_cases es : s = b
    · subst es
      exact K g dn o ⟨FrJ.rf, fun q hq => ⟨rfl, rfl, fun j hj => rfl⟩⟩ (pfL_f (fun z => absurd z.1 (Nat.lt_irrefl _)) _).symm h0
    · have hsb : s < b := by omega
      have fz : flP (psM dn g) = 0 := h0
      have dnr : 0 ≤ dn ∧ dn ≤ 3000 := ok.1
      have v5 := (v.2.2 s (by omega)).1
      have hwn : WnR (wnM g) := ok.2.2.1.r c
      have hgm : GmR (gmM g) := ok.2.2.2.1.r c
      have os1 : (-(98901 * (dp : Int)) ≤ g 49 34 ∧ g 49 34 ≤ 98901 * (dp : Int)) ∧ (-(98901 * (dp : Int)) ≤ g 49 35 ∧ g 49 35 ≤ 98901 * (dp : Int)) := ok.2.1
      have hsh : (-500000 ≤ g 49 34 ∧ g 49 34 ≤ 500000) ∧ (-500000 ≤ g 49 35 ∧ g 49 35 ≤ 500000) := by clear hwn hgm ok ih; omega
      clear os1
      refine d60 hsb (by omega) (by omega) l ?_
      refine r_iload_n dX12_doAll_173 rfl rfl ?_
      refine r_aload_n dX12_doAll_174 rfl rfl ?_
      refine r_getI dX12_doAll_175 fl_X12_276 sh_49 rfl ?_
      rw [hD.1]
      refine r_icmp_ne (tgt := 182) dX12_doAll_178 rfl (by clear ih; omega) (by clear ih; omega) (fun c_178 => ?_) (fun c_178 => absurd c_178 (by clear ih; omega))
      refine r_iload_n dX12_doAll_182 rfl rfl ?_
      refine r_sipush dX12_doAll_183 (by decide +kernel) ?_
      refine r_icmp_ne (tgt := 195) dX12_doAll_186 rfl (by clear ih ok; omega) ⟨by decide, by decide⟩ (fun c_186 => ?_) (fun c_186 => ?_)
      · refine r_iinc (L' := [_, _, _, _, _]) dX12_doAll_195 rfl rfl (by decide) rfl ?_
        have h3 : ¬ 3000 ≤ (psM dn g).1 := show ¬ 3000 ≤ dn by clear ih ok; omega
        refine r_aload_n dX12_doAll_198 rfl rfl ?_
        refine r_getR dX12_doAll_199 fl_X12_35 sh_49 rfl ?_
        refine r_iload_n dX12_doAll_202 rfl rfl ?_
        refine r_iald dX12_doAll_203 sh_52 (by decide) (by clear ih ok; omega) ?_
        rw [Int.toNat_natCast, (hD.2.2.1 s (by clear ih ok; omega)).1]
        refine r_bipush dX12_doAll_204 (by decide +kernel) ?_
        refine r_icmp_eq (tgt := 224) dX12_doAll_206 rfl (by clear ih ok; omega) ⟨by decide, by decide⟩ (fun c_206 => ?_) (fun c_206 => ?_)
        · match r, wn, HI, hdp, K, Kf, ih with
          | 0, wn, _, _, _, _, _ => exact absurd c_206 (wn s ha hsb)
          | r + 1, wn, HI, hdp, K, Kf, ih =>
            obtain ⟨e, e1, e2, e3, wn2⟩ := wn s ha hsb c_206
            have HD := HI r rfl
            have rr := (v.2.2 s (by omega)).2.2.2.2.2 c_206
            have n0 : g 53 (5 * s) = x 8 (5 * s) := hD.n (q := 0) (by omega) (by rw [c_206]; decide) (by rw [c_206]; decide)
            have i0 : (5 * (s : Int)).toNat = 5 * s := by omega
            have g54 : g 54 s = (e : Int) + 1 := by rw [(hD.2.2.1 s (by omega)).2.2 c_206, e1]
            have E := pfL_6 (R := rpD x (r + 1)) (m := m) ⟨hsb, fz⟩ h3 c_206
            rw [rpD, e1, Int.toNat_natCast] at E
            have oko := ok.on h3
            refine r_aload_n dX12_doAll_224 rfl rfl ?_
            refine r_getR dX12_doAll_225 fl_X12_38 sh_49 rfl ?_
            refine r_iconst dX12_doAll_228 ?_
            refine r_iload_n dX12_doAll_229 rfl rfl ?_
            refine r_imul dX12_doAll_230 ?_
            refine r_iald dX12_doAll_231 sh_53 (by decide) (by clear ih ok oko; omega) ?_
            rw [i0, n0]
            refine r_if_ne (tgt := 245) dX12_doAll_232 rfl (by clear ih ok oko; omega) (fun c_232 => ?_) (fun c_232 => ?_)
            · obtain ⟨t, ht⟩ : ∃ t : Nat, x 8 (5 * s) = ((t + 1 : Nat) : Int) := ⟨(x 8 (5 * s)).toNat - 1, by clear ih ok oko; omega⟩
              refine r_aload_n dX12_doAll_245 rfl rfl ?_
              refine r_iload_n dX12_doAll_246 rfl rfl ?_
              refine r_callVU (av := [_]) (M' := mX12_keeps) dX12_doAll_247 vX12_keeps ml_X12_335 sh_49 (by decide) rfl rfl rfl rfl (by simp [wtA]) (sp_X12_keeps (i := dp) (by omega) (by clear ih ok oko; omega) (fun u fu vu => ?_))
              refine r_aload_n dX12_doAll_250 rfl rfl ?_
              refine r_getR dX12_doAll_251 fl_X12_72 sh_49 rfl ?_
              refine r_iload_n dX12_doAll_254 rfl rfl ?_
              refine r_iload_n dX12_doAll_255 rfl rfl ?_
              refine r_iast dX12_doAll_256 sh_64 (by decide) (by clear ih ok oko; omega) ?_
              rw [Int.toNat_natCast]
              refine r_aload_n dX12_doAll_257 rfl rfl ?_
              refine r_getR dX12_doAll_258 fl_X12_75 sh_49 rfl ?_
              refine r_iload_n dX12_doAll_261 rfl rfl ?_
              refine r_aload_n dX12_doAll_262 rfl rfl ?_
              refine r_getR dX12_doAll_263 fl_X12_38 sh_49 rfl ?_
              refine r_iconst dX12_doAll_266 ?_
              refine r_iload_n dX12_doAll_267 rfl rfl ?_
              refine r_imul dX12_doAll_268 ?_
              refine r_iald dX12_doAll_269 sh_53 (by decide) (by clear ih ok oko; omega) ?_
              refine r_eqI (up_nc (by decide)) ?_
              rw [i0, fu 53 (5 * s) (by clear ih ok oko; omega), n0, ht]
              refine r_iast dX12_doAll_270 sh_65 (by decide) (by clear ih ok oko; omega) ?_
              rw [Int.toNat_natCast]
              refine r_iinc (L' := [_, _, _, _, _]) dX12_doAll_271 rfl rfl (by decide) rfl ?_
              refine r_iinc (L' := [_, _, _, _, _]) dX12_doAll_274 rfl rfl (by decide) rfl ?_
              refine r_goto (tgt := 60) dX12_doAll_277 rfl ?_
              rw [ht, Int.toNat_natCast] at E
              have sw : SkE dp g (upH (upH u 64 dp (s : Int)) 65 dp ((t + 1 : Nat) : Int)) := by
                refine ⟨fun a k z1 z2 => ?_, fun q hq => ⟨?_, ?_, fun j hj => ?_⟩⟩
                · rw [up_nc (by omega), up_nc (by omega)]
                  exact fu a k (by omega)
                · rw [up_nc (by decide), up_nk (by omega)]
                  exact fu 64 q (by omega)
                · rw [up_nk (by omega), up_nc (by decide)]
                  exact fu 65 q (by omega)
                · rw [up_nc (by decide), up_nc (by decide)]
                  exact fu 66 _ (by omega)
              have ep : psM (dn + 1) (upH (upH u 64 dp (s : Int)) 65 dp ((t + 1 : Nat) : Int)) = onP (psM dn g) := by
                have y : ∀ a, 60 ≤ a ∧ a ≤ 63 → upH (upH u 64 dp (s : Int)) 65 dp ((t + 1 : Nat) : Int) a = g a := fun a ha => funext fun j => (up_nc (by omega)).trans ((up_nc (by omega)).trans (fu a j (by omega)))
                have y2 : ∀ k, upH (upH u 64 dp (s : Int)) 65 dp ((t + 1 : Nat) : Int) 49 k = g 49 k := fun k => (up_nc (by decide)).trans ((up_nc (by decide)).trans (fu 49 k (by omega)))
                unfold psM wnM gmM
                rw [y 60 (by decide), y 61 (by decide), y 62 (by decide), y 63 (by decide), y2, y2, y2, y2]
                rfl
              rw [E, ← ep] at K
              rw [E, ← ep] at Kf
              rw [← ep] at oko
              generalize hQ : upH (upH u 64 dp (s : Int)) 65 dp ((t + 1 : Nat) : Int) = w at *
              have w64 : w 64 dp = s := by rw [← hQ, up_nc (by decide), up_s]
              have w65 : w 65 dp = ((t + 1 : Nat) : Int) := by rw [← hQ, up_s]
              have w66 : ∀ j : Nat, w 66 (6 * dp + j) = u 66 (6 * dp + j) := fun j => by rw [← hQ, up_nc (by decide), up_nc (by decide)]
              have p34 : (psM (dn + 1) w).2.1 = g 49 34 := congrArg (fun q : Ps => q.2.1) ep
              have p35 : (psM (dn + 1) w).2.2.1 = g 49 35 := congrArg (fun q : Ps => q.2.2.1) ep
              have pw : (psM (dn + 1) w).2.2.2.1 = wnM g := congrArg (fun q : Ps => q.2.2.2.1) ep
              clear hQ
              refine dIt (by omega) v c HD (t + 1) t s e dp (dn + 1) _ w (psM (dn + 1) w) (by omega) c_206 (by omega) e1 e2 (by omega) wn2 (by omega) (hD.f sw.1) (by clear ih ok oko; omega) (oko.wd (by clear ih ok oko; omega)) ((congrArg (fun q : Ps => flP q) ep).trans h0) w64 w65 ?_ (fun u2 d2 o2 s2 e9 z2 => ?_) (fun u2 f2 e9 z2 => ?_)
              · obtain ⟨a0, a1, a2, a3, a4, a5⟩ := vu
                rw [p34, p35, pw]
                exact ⟨(w66 0).trans a0, (w66 1).trans a1, (w66 2).trans a2, (w66 3).trans a3, (w66 4).trans a4, (w66 5).trans a5⟩
              · have ok3 : PQ (x 1 0) (x 1 1) (98901 * (dp : Int)) (psM d2 u2) (psM d2 u2) := by
                  rw [e9]
                  exact oko.bk (PQ.rp rr.2.1 rr.2.2 (fun B p q y => PQ.pf v (by omega) c (PQ.rd v c r (s + 1) (e + 1) wn2 (by omega)) 61 (s + 1) B p q (Nat.le_refl _) y) (t + 1) _ _ _ oko)
                rw [← e9] at K
                rw [← e9] at Kf
                exact ih (e + 1) dp d2 _ u2 (by omega) (by omega) (by omega) hdp ((hD.f sw.1).f s2.1) ok3 z2 (l.sk (sw.tr s2)) (fun u3 d3 o3 s3 e3 z3 => K u3 d3 o3 (sw.tr (s2.tr s3)) e3 z3) (fun u3 f3 e3 z3 => Kf u3 (sw.1.tr (s2.1.tr f3)) e3 z3)
              · refine Kf u2 (sw.1.tr f2) ?_ z2
                have f1 : flP (bkP (psM (dn + 1) w) (rpF (pfL x (rpD x r) (e + 1) 61 (s + 1)) (x 8 (5 * s + 1)) (x 8 (5 * s + 2)) (t + 1) (psM (dn + 1) w))) = u2 49 12 := (congrArg (fun q : Gm => q.2.2.2.2) e9).symm
                rw [pfL_f (fun y => z2 (f1.symm.trans y.2)), e9]
                rfl
            · refine r_aload_n dX12_doAll_235 rfl rfl ?_
              refine r_getR dX12_doAll_236 fl_X12_41 sh_49 rfl ?_
              refine r_iload_n dX12_doAll_239 rfl rfl ?_
              refine r_iald dX12_doAll_240 sh_54 (by decide) (by clear ih ok oko; omega) ?_
              rw [Int.toNat_natCast, g54]
              refine r_istore_n (L' := [_, _, _, _, _]) dX12_doAll_241 rfl rfl (by decide) rfl ?_
              refine r_goto (tgt := 60) dX12_doAll_242 rfl ?_
              rw [show x 8 (5 * s) = 0 by clear ih ok oko; omega] at E
              have ep : psM (dn + 1) g = onP (psM dn g) := rfl
              have E2 : bkP (onP (psM dn g)) (rpF (pfL x (rpD x r) (e + 1) 61 (s + 1)) (x 8 (5 * s + 1)) (x 8 (5 * s + 2)) (Int.toNat 0) (onP (psM dn g))) = psM (dn + 1) g := rfl
              rw [E2] at E
              rw [E] at K
              rw [E] at Kf
              exact ih (e + 1) dp (dn + 1) _ g (by omega) (by omega) (by omega) hdp hD oko h0 l K Kf
        · refine r_aload_n dX12_doAll_209 rfl rfl ?_
          refine r_iload_n dX12_doAll_210 rfl rfl ?_
          refine r_callVI (av := [_]) (M' := mX12_does) dX12_doAll_211 vX12_does ml_X12_332 sh_49 (by decide) rfl rfl rfl rfl (by simp [wtA]) (sp_X12_does (x := x) (a := s) (F := F) (i := i) (by omega) hD v c (by clear ih ok; omega) c_206 hsh hwn hgm h0 (fun u fi ew eg z => ?_) (fun u fi ew eg z => ?_))
          · refine r_if_ne (tgt := 218) dX12_doAll_214 rfl ⟨by decide, by decide⟩ (fun c_214 => ?_) (fun c_214 => absurd c_214 (by decide))
            refine r_iinc (L' := [_, _, _, _, _]) dX12_doAll_218 rfl rfl (by decide) rfl ?_
            refine r_goto (tgt := 60) dX12_doAll_221 rfl ?_
            have ep : psM (dn + 1) u = acP x s (psM dn g) := by
              unfold psM
              rw [ew, eg, fi 49 34 (by decide) (by decide) (by decide) (by decide), fi 49 35 (by decide) (by decide) (by decide) (by decide)]
              rfl
            have okv := ok.ac v (by clear ih ok; omega) c h3 (s := s)
            rw [← ep] at okv
            have E := pfL_a (R := rpD x r) (m := m) ⟨hsb, fz⟩ h3 c_206
            rw [← ep] at E
            rw [E] at K
            rw [E] at Kf
            exact ih (s + 1) dp (dn + 1) _ u (by omega) (by omega) (by omega) hdp (hD.f fi.j) okv z (l.sk (SkE.i fi)) (fun u2 d2 o2 s2 e2 z2 => K u2 d2 o2 ((SkE.i fi).tr s2) e2 z2) (fun u2 f2 e2 z2 => Kf u2 (fi.j.tr f2) e2 z2)
          · refine r_if_ne (tgt := 218) dX12_doAll_214 rfl ⟨by decide, by decide⟩ (fun c_214 => absurd c_214 (by decide)) (fun c_214 => ?_)
            refine r_vret dX12_doAll_217 rfl ?_
            refine ⟨rfl, Kf u fi.j ?_ (by rw [z]; decide)⟩
            have f1 : flP (acP x s (psM dn g)) = u 49 12 := (congrArg (fun q : Gm => q.2.2.2.2) eg).symm
            rw [pfL_a ⟨hsb, fz⟩ h3 c_206, pfL_f (fun y => absurd (f1.symm.trans y.2) (by rw [z]; decide)), eg]
            rfl
      · refine r_aload_n dX12_doAll_189 rfl rfl ?_
        refine r_iconst dX12_doAll_190 ?_
        refine r_putZ dX12_doAll_191 fl_X12_291 sh_49 rfl (.inr rfl) ?_
        refine r_vret dX12_doAll_194 rfl ?_
        refine ⟨rfl, Kf _ (fun a k z1 z2 => ?_) ?_ (by rw [up_s]; decide)⟩
        · unfold upH
          rw [if_neg (by omega)]
        · rw [pfL_3 ⟨hsb, fz⟩ (show 3000 ≤ dn by clear ih ok; omega)]
          rfl
theorem do_all {x : Hp} {F i d : Nat} (hd : 7 ≤ d) {P : Hp → Prop} (v : PV x F i) (c : WH (x 1 0) (x 1 1)) : ∀ r : Nat, DoS x F i d P r
  | 0 => do_r hd v c (fun q h => absurd h (by omega))
  | r + 1 => do_r hd v c (fun q h => by
    have e : q = r := by omega
    rw [e]
    exact do_all hd v c r)
