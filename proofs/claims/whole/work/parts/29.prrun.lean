theorem REL.msx {h : Hp} (r : REL h) {W K E N m dn v : Int} {go : Int} (hN : N = h 16 0) (hm : go = 1 → 0 ≤ m ∧ m ≤ N) : fnRun W K E N m dn go v (h 20) (h 21) (h 22) = fnRun W K E N m dn go v (mL (h 49 5) (h 49 6) (h 60) (h 61)) (mR (h 49 3) (h 49 5) (h 49 6) (h 60) (h 61)) (h 69) := by
  have n := r.n
  unfold fnRun
  by_cases g : go = 1
  · rw [if_pos g, if_pos g]
    have hm := hm g
    have tN := r.tk (i := N.toNat) (by omega)
    have key : (tsF (h 20) (h 22) 0 N m dn (tkF (h 20) (h 21) m.toNat) = tsF (mL (h 49 5) (h 49 6) (h 60) (h 61)) (h 69) 0 N m dn (tkF (mL (h 49 5) (h 49 6) (h 60) (h 61)) (mR (h 49 3) (h 49 5) (h 49 6) (h 60) (h 61)) m.toNat)) ∧ (tsF (h 21) (h 22) 1 N m dn (tkF (h 20) (h 21) m.toNat) = tsF (mR (h 49 3) (h 49 5) (h 49 6) (h 60) (h 61)) (h 69) 1 N m dn (tkF (mL (h 49 5) (h 49 6) (h 60) (h 61)) (mR (h 49 3) (h 49 5) (h 49 6) (h 60) (h 61)) m.toNat)) := by
      unfold tsF
      by_cases z : m < N
      · have t0 := r.tk (i := m.toNat) (by omega)
        have t1 := r.tk (i := m.toNat + 1) (by omega)
        have e := r.tke m.toNat (by omega)
        unfold tkM at e
        rw [if_pos z, if_pos z, if_pos z, if_pos z, t0.1, t0.2.1, t1.1, t1.2.1, e, r.ms.2.2 0 _ (by decide) (by omega), r.ms.2.2 1 _ (by decide) (by omega)]
        exact ⟨rfl, rfl⟩
      · rw [if_neg z, if_neg z, if_neg z, if_neg z, tN.1, tN.2.1, r.ms.2.2 0 _ (by decide) (by omega), r.ms.2.2 1 _ (by decide) (by omega)]
        exact ⟨rfl, rfl⟩
    rw [key.1, key.2]
  · rw [if_neg g, if_neg g]
theorem pr_run {d : Nat} (hd : 20 ≤ d) {v : Int} (hv : R32 v) : PR d mX11_run mX12_run [.inl v] := by
  intro h r
  have n := r.n
  have r9 := r.2.2.2.2.2.2.2.2.1
  have P1 : ∀ {g : Hp}, REL g → (g 48 0 = 1 → 0 ≤ g 48 1 ∧ g 48 1 ≤ g 16 0) ∧ (g 48 0 = 1 → 0 ≤ g 48 2 ∧ (g 48 1 < g 16 0 → g 48 2 < tkF (g 20) (g 21) (g 48 1).toNat)) := fun r => ⟨fun z => by have := (r.pren z).1; exact ⟨this.1, this.2.1⟩, fun z => by have := (r.pren z).1; exact ⟨this.2.2.1, this.2.2.2.2.1⟩⟩
  refine sp_X11_run (by omega) r.1.1 hv r9.2.1 r.lr ⟨n.1, n.2.1⟩ r.ms.1 (P1 r).1 (P1 r).2 (fun h1 f => ?_)
  have r1 := f.rel r
  have n1 := r1.n
  have q9 := r1.2.2.2.2.2.2.2.2.1
  refine sp_X12_run (by omega) r1.1.2.1 hv (by rw [q9.1]; exact q9.2.1) r1.mxy (by omega) r1.ms.2.1 (fun z => by have := (r1.pren (by omega)).2; exact ⟨this.1, this.2.1⟩) (fun z => by have := (r1.pren (by omega)).2; exact ⟨this.2.2.1, this.2.2.2.2.1⟩) (fun h2 f2 => ⟨?_, f2.rel r1⟩)
  have q : ∀ a k, scrC a k = false → h1 a k = h a k := f.1
  rw [← q 16 0 rfl, ← q 1 0 rfl, ← q 1 2 rfl, ← q 1 3 rfl, ← q 48 0 rfl, ← q 48 1 rfl, ← q 48 2 rfl, ← (show h1 20 = h 20 from funext fun j => q 20 j rfl), ← (show h1 21 = h 21 from funext fun j => q 21 j rfl), ← (show h1 22 = h 22 from funext fun j => q 22 j rfl)]
  have w := r1.1
  rw [r1.msx rfl (P1 r1).1]
  rw [w.2.2.1, w.2.2.2.2.1, w.2.2.2.2.2.1, n1.2.2, q9.1]
  by_cases g : h1 48 0 = 1
  · have z := q9.2.2 g
    rw [z.1, z.2.1]
  · unfold fnRun
    rw [if_neg g, if_neg g]
