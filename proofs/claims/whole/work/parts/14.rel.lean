/-! THE RELATION between the class and the reference; what a call that only asks may change -/
def scrC (a k : Nat) : Bool := (a == 1 && (k == 6 || k == 7)) || (a == 32) || (a == 33 && (k == 1)) || (a == 34) || (a == 35) || (a == 39) || (a == 40) || (a == 41) || (a == 42) || (a == 43) || (a == 44) || (a == 45 && (k == 1 || k == 2 || k == 3))
def scrM (a k : Nat) : Bool := (a == 49 && (k == 2 || k == 42 || k == 43 || k == 44 || k == 45 || k == 46 || k == 55)) || (a == 73) || (a == 74) || (a == 75) || (a == 76) || (a == 77) || (a == 78) || (a == 79) || (a == 81)
def FrC (h h2 : Hp) : Prop := (∀ a k, scrC a k = false → h2 a k = h a k) ∧ 0 ≤ h2 1 7 ∧ h2 1 7 ≤ 1099511627776
def FrM (h h2 : Hp) : Prop := ∀ a k, scrM a k = false → h2 a k = h a k
def wordL : List Int := [102, 111, 114, 109, 32, 112, 117, 116, 32, 108, 105, 110, 101, 32, 116, 111, 32, 104, 97, 116, 99, 104, 32, 99, 108, 105, 112, 32, 97, 103, 97, 105, 110, 32]
abbrev RW (h : Hp) : Prop := WOK h ∧ MOK h ∧ h 49 3 = h 1 0 ∧ h 49 4 = h 1 1 ∧ h 49 5 = h 1 2 ∧ h 49 6 = h 1 3 ∧ h 49 7 = h 1 4 ∧ h 49 8 = h 1 5
abbrev RT (h : Hp) : Prop := 0 ≤ h 2 0 ∧ h 2 0 ≤ 500 ∧ h 49 1 = h 2 0 ∧ ∀ j : Nat, j < 500 → -128 ≤ h 3 j ∧ h 3 j ≤ 127 ∧ h 50 j = h 3 j % 256
abbrev RF (h : Hp) : Prop := h 49 10 = h 14 2 ∧ h 49 11 = h 14 3 ∧ h 49 12 = h 0 12 ∧ R32 (h 14 2) ∧ R32 (h 14 3) ∧ (h 0 12 = 0 ∨ h 0 12 = 1)
/-- the moves of a machine: number n, rows x y down left right from place 0 (home) on; in the reference from b on -/
def RMv (W H K E n : Int) (x y dn lf rg mx my md : Nat → Int) (b : Nat) : Prop :=
  0 ≤ n ∧ n ≤ 150 ∧ ∀ p : Nat, (p : Int) ≤ n → 0 ≤ x p ∧ x p ≤ W ∧ 1 ≤ y p ∧ y p ≤ H ∧ (dn p = 0 ∨ dn p = 1) ∧ lf p = stF K E (100 * x p) (100 * y p) ∧ rg p = stF K E (100 * W - 100 * x p) (100 * y p) ∧ mx (b + p) = x p ∧ my (b + p) = y p ∧ md (b + p) = dn p
abbrev RM (h : Hp) : Prop := h 49 29 = h 16 0 ∧ RMv (h 1 0) (h 1 1) (h 1 2) (h 1 3) (h 16 0) (h 17) (h 18) (h 19) (h 20) (h 21) (h 60) (h 61) (h 62) 0
abbrev RO (h : Hp) : Prop := h 49 30 = h 23 0 ∧ RMv (h 1 0) (h 1 1) (h 1 2) (h 1 3) (h 23 0) (h 24) (h 25) (h 26) (h 27) (h 28) (h 60) (h 61) (h 62) 151
abbrev RS (h : Hp) : Prop := ∀ j : Nat, j < 300 → h 69 j = h 22 j ∧ -9 ≤ h 22 j ∧ h 22 j ≤ 9
abbrev RX (h : Hp) : Prop := h 49 48 = h 33 0 ∧ 0 ≤ h 33 0 ∧ h 33 0 ≤ 12 ∧ (∀ k : Nat, (k : Int) < h 33 0 → h 70 k = h 36 k ∧ h 71 k = h 37 k ∧ h 72 k = h 38 k ∧ 0 ≤ h 36 k ∧ h 36 k < h 16 0 ∧ R32 (h 37 k) ∧ R32 (h 38 k)) ∧ ∀ k : Nat, ((k + 1 : Nat) : Int) < h 33 0 → h 36 k < h 36 (k + 1)
abbrev RP (h : Hp) : Prop := h 49 60 = h 45 0 ∧ 0 ≤ h 45 0 ∧ h 45 0 ≤ 20 ∧ ∀ i : Nat, (i : Int) < h 45 0 → R32 (h 80 (4 * i)) ∧ R32 (h 80 (4 * i + 1)) ∧ R32 (h 80 (4 * i + 2)) ∧ R32 (h 80 (4 * i + 3)) ∧ h 46 i = h 80 (4 * i + 2) - h 80 (4 * i) ∧ h 47 i = h 80 (4 * i + 3) - h 80 (4 * i + 1)
def tkF (lf rg : Nat → Int) (m : Nat) : Int := max ((lf (m + 1) - lf m).natAbs : Int) ((rg (m + 1) - rg m).natAbs : Int)
abbrev RR (h : Hp) : Prop := h 49 62 = h 48 0 ∧ (h 48 0 = 0 ∨ h 48 0 = 1) ∧ (h 48 0 = 1 → h 49 63 = h 48 1 ∧ h 49 64 = h 48 2 ∧ h 49 65 = h 48 3 ∧ 0 ≤ h 48 1 ∧ h 48 1 ≤ h 16 0 ∧ 0 ≤ h 48 2 ∧ (h 48 1 = h 16 0 → h 48 2 = 0) ∧ (h 48 1 < h 16 0 → h 48 2 < tkF (h 20) (h 21) (h 48 1).toNat) ∧ 0 ≤ h 48 3 ∧ h 48 3 = sumN (tkF (h 20) (h 21)) (h 48 1).toNat + h 48 2)
abbrev RK (h : Hp) : Prop := (h 1 8 = -1 ∨ h 1 8 = rchF (h 1 4) (h 1 2) (h 1 3) (h 1 0) (h 1 1) (h 1 5)) ∧ ∀ j : Nat, j < 34 → h 51 j = wordL.getD j 0
def REL (h : Hp) : Prop := RW h ∧ RT h ∧ RF h ∧ RM h ∧ RO h ∧ RS h ∧ RX h ∧ RP h ∧ RR h ∧ RK h
theorem FrC.rel {h h2 : Hp} (f : FrC h h2) (r : REL h) : REL h2 := by
  have q := f.1
  have w7 : 0 ≤ h2 1 7 ∧ h2 1 7 ≤ 1099511627776 := f.2
  obtain ⟨r1, r2, r3, r4, r5, r6, r7, r8, r9, r10⟩ := r
  unfold REL
  simp only [RW, RT, RF, RM, RO, RS, RX, RP, RR, RK, WOK, MOK, (q 1 0 rfl), (q 1 1 rfl), (q 1 2 rfl), (q 1 3 rfl), (q 1 4 rfl), (q 1 5 rfl), (q 1 8 rfl), (q 2 0 rfl), (q 14 2 rfl), (q 14 3 rfl), (q 0 12 rfl), (q 16 0 rfl), (q 23 0 rfl), (q 33 0 rfl), (q 45 0 rfl), (q 48 0 rfl), (q 48 1 rfl), (q 48 2 rfl), (q 48 3 rfl), (q 49 1 rfl), (q 49 3 rfl), (q 49 4 rfl), (q 49 5 rfl), (q 49 6 rfl), (q 49 7 rfl), (q 49 8 rfl), (q 49 10 rfl), (q 49 11 rfl), (q 49 12 rfl), (q 49 29 rfl), (q 49 30 rfl), (q 49 48 rfl), (q 49 60 rfl), (q 49 62 rfl), (q 49 63 rfl), (q 49 64 rfl), (q 49 65 rfl), (show h2 3 = h 3 from funext fun j => q 3 j rfl), (show h2 17 = h 17 from funext fun j => q 17 j rfl), (show h2 18 = h 18 from funext fun j => q 18 j rfl), (show h2 19 = h 19 from funext fun j => q 19 j rfl), (show h2 20 = h 20 from funext fun j => q 20 j rfl), (show h2 21 = h 21 from funext fun j => q 21 j rfl), (show h2 22 = h 22 from funext fun j => q 22 j rfl), (show h2 24 = h 24 from funext fun j => q 24 j rfl), (show h2 25 = h 25 from funext fun j => q 25 j rfl), (show h2 26 = h 26 from funext fun j => q 26 j rfl), (show h2 27 = h 27 from funext fun j => q 27 j rfl), (show h2 28 = h 28 from funext fun j => q 28 j rfl), (show h2 36 = h 36 from funext fun j => q 36 j rfl), (show h2 37 = h 37 from funext fun j => q 37 j rfl), (show h2 38 = h 38 from funext fun j => q 38 j rfl), (show h2 46 = h 46 from funext fun j => q 46 j rfl), (show h2 47 = h 47 from funext fun j => q 47 j rfl), (show h2 50 = h 50 from funext fun j => q 50 j rfl), (show h2 51 = h 51 from funext fun j => q 51 j rfl), (show h2 60 = h 60 from funext fun j => q 60 j rfl), (show h2 61 = h 61 from funext fun j => q 61 j rfl), (show h2 62 = h 62 from funext fun j => q 62 j rfl), (show h2 69 = h 69 from funext fun j => q 69 j rfl), (show h2 70 = h 70 from funext fun j => q 70 j rfl), (show h2 71 = h 71 from funext fun j => q 71 j rfl), (show h2 72 = h 72 from funext fun j => q 72 j rfl), (show h2 80 = h 80 from funext fun j => q 80 j rfl)] at r1 r2 r3 r4 r5 r6 r7 r8 r9 r10 ⊢
  refine ⟨?_, r2, r3, r4, r5, r6, r7, r8, r9, r10⟩
  omega
theorem FrM.rel {h h2 : Hp} (f : FrM h h2) (r : REL h) : REL h2 := by
  have q := f
  have w7 : 0 ≤ h2 1 7 ∧ h2 1 7 ≤ 1099511627776 := ⟨by rw [q 1 7 rfl]; exact r.1.1.2.2.2.2.2.2.2.2.2.2.2.2.1, by rw [q 1 7 rfl]; exact r.1.1.2.2.2.2.2.2.2.2.2.2.2.2.2⟩
  obtain ⟨r1, r2, r3, r4, r5, r6, r7, r8, r9, r10⟩ := r
  unfold REL
  simp only [RW, RT, RF, RM, RO, RS, RX, RP, RR, RK, WOK, MOK, (q 1 0 rfl), (q 1 1 rfl), (q 1 2 rfl), (q 1 3 rfl), (q 1 4 rfl), (q 1 5 rfl), (q 1 8 rfl), (q 2 0 rfl), (q 14 2 rfl), (q 14 3 rfl), (q 0 12 rfl), (q 16 0 rfl), (q 23 0 rfl), (q 33 0 rfl), (q 45 0 rfl), (q 48 0 rfl), (q 48 1 rfl), (q 48 2 rfl), (q 48 3 rfl), (q 49 1 rfl), (q 49 3 rfl), (q 49 4 rfl), (q 49 5 rfl), (q 49 6 rfl), (q 49 7 rfl), (q 49 8 rfl), (q 49 10 rfl), (q 49 11 rfl), (q 49 12 rfl), (q 49 29 rfl), (q 49 30 rfl), (q 49 48 rfl), (q 49 60 rfl), (q 49 62 rfl), (q 49 63 rfl), (q 49 64 rfl), (q 49 65 rfl), (show h2 3 = h 3 from funext fun j => q 3 j rfl), (show h2 17 = h 17 from funext fun j => q 17 j rfl), (show h2 18 = h 18 from funext fun j => q 18 j rfl), (show h2 19 = h 19 from funext fun j => q 19 j rfl), (show h2 20 = h 20 from funext fun j => q 20 j rfl), (show h2 21 = h 21 from funext fun j => q 21 j rfl), (show h2 22 = h 22 from funext fun j => q 22 j rfl), (show h2 24 = h 24 from funext fun j => q 24 j rfl), (show h2 25 = h 25 from funext fun j => q 25 j rfl), (show h2 26 = h 26 from funext fun j => q 26 j rfl), (show h2 27 = h 27 from funext fun j => q 27 j rfl), (show h2 28 = h 28 from funext fun j => q 28 j rfl), (show h2 36 = h 36 from funext fun j => q 36 j rfl), (show h2 37 = h 37 from funext fun j => q 37 j rfl), (show h2 38 = h 38 from funext fun j => q 38 j rfl), (show h2 46 = h 46 from funext fun j => q 46 j rfl), (show h2 47 = h 47 from funext fun j => q 47 j rfl), (show h2 50 = h 50 from funext fun j => q 50 j rfl), (show h2 51 = h 51 from funext fun j => q 51 j rfl), (show h2 60 = h 60 from funext fun j => q 60 j rfl), (show h2 61 = h 61 from funext fun j => q 61 j rfl), (show h2 62 = h 62 from funext fun j => q 62 j rfl), (show h2 69 = h 69 from funext fun j => q 69 j rfl), (show h2 70 = h 70 from funext fun j => q 70 j rfl), (show h2 71 = h 71 from funext fun j => q 71 j rfl), (show h2 72 = h 72 from funext fun j => q 72 j rfl), (show h2 80 = h 80 from funext fun j => q 80 j rfl)] at r1 r2 r3 r4 r5 r6 r7 r8 r9 r10 ⊢
  refine ⟨?_, r2, r3, r4, r5, r6, r7, r8, r9, r10⟩
  omega
theorem FrC.rf {h : Hp} (hw : WOK h) : FrC h h := ⟨fun _ _ _ => rfl, by omega⟩
theorem FrM.rf {h : Hp} : FrM h h := fun _ _ _ => rfl
theorem FrC.tr {h h2 h3 : Hp} (f : FrC h h2) (g : FrC h2 h3) : FrC h h3 := ⟨fun a k q => (g.1 a k q).trans (f.1 a k q), g.2⟩
theorem FrM.tr {h h2 h3 : Hp} (f : FrM h h2) (g : FrM h2 h3) : FrM h h3 := fun a k q => (g a k q).trans (f a k q)
theorem FrC.up {h h2 : Hp} {a k : Nat} {z : Int} (f : FrC h h2) (hs : scrC a k = true) (h7 : ¬ (a = 1 ∧ k = 7)) : FrC h (upH h2 a k z) := by
  refine ⟨fun a' k' q => ?_, ?_⟩
  · rw [← f.1 a' k' q]
    unfold upH
    split
    · rename_i z2
      rw [z2.1, z2.2, hs] at q
      cases q
    · rfl
  · have : upH h2 a k z 1 7 = h2 1 7 := by
      unfold upH
      split
      · rename_i z2
        exact absurd ⟨z2.1.symm, z2.2.symm⟩ h7
      · rfl
    rw [this]
    exact f.2
theorem FrC.up7 {h h2 : Hp} {z : Int} (f : FrC h h2) (hz : 0 ≤ z ∧ z ≤ 1099511627776) : FrC h (upH h2 1 7 z) := by
  refine ⟨fun a' k' q => ?_, ?_⟩
  · rw [← f.1 a' k' q]
    unfold upH
    split
    · rename_i z2
      rw [z2.1, z2.2] at q
      cases q
    · rfl
  · rw [up_s]; exact hz
theorem FrM.up {h h2 : Hp} {a k : Nat} {z : Int} (f : FrM h h2) (hs : scrM a k = true) : FrM h (upH h2 a k z) := by
  intro a' k' q
  rw [← f a' k' q]
  unfold upH
  split
  · rename_i z2
    rw [z2.1, z2.2, hs] at q
    cases q
  · rfl
