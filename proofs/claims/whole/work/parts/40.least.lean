/-! CROSSES: the least sums, by numbers alone -/
def fL (f : Nat) : Int := ((f / 13 : Nat) : Int) - 6
def fR (f : Nat) : Int := ((f % 13 : Nat) : Int) - 6
theorem fLR_r {f : Nat} (h : f < 169) : -6 ≤ fL f ∧ fL f ≤ 6 ∧ -6 ≤ fR f ∧ fR f ≤ 6 := by
  unfold fL fR
  omega
def mnN (t : Int) (f : Nat → Int) : Nat → Int
  | 0 => t
  | n + 1 => min (mnN t f n) (f n)
theorem mnN_le0 (t : Int) (f : Nat → Int) : ∀ n : Nat, mnN t f n ≤ t
  | 0 => Int.le_refl _
  | n + 1 => by
    have := mnN_le0 t f n
    rw [mnN]
    omega
theorem mnN_le {t : Int} {f : Nat → Int} : ∀ {n i : Nat}, i < n → mnN t f n ≤ f i
  | 0, i, h => absurd h (Nat.not_lt_zero i)
  | n + 1, i, h => by
    rw [mnN]
    by_cases q : i = n
    · rw [q]; omega
    · have := mnN_le (t := t) (f := f) (n := n) (i := i) (by omega)
      omega
theorem mnN_ge {t z : Int} {f : Nat → Int} (ht : z ≤ t) : ∀ {n : Nat}, (∀ i, i < n → z ≤ f i) → z ≤ mnN t f n
  | 0, _ => ht
  | n + 1, h => by
    have a := mnN_ge (f := f) ht (n := n) (fun i hi => h i (by omega))
    have b := h n (by omega)
    rw [mnN]
    omega
theorem mnN_at {t : Int} {f : Nat → Int} : ∀ {n : Nat}, mnN t f n < t → ∃ i, i < n ∧ f i = mnN t f n
  | 0, h => absurd h (Int.lt_irrefl _)
  | n + 1, h => by
    rw [mnN] at h ⊢
    rcases ilg (f n) (mnN t f n) with q | q
    · exact ⟨n, by omega, by omega⟩
    · by_cases e : mnN t f n < t
      · obtain ⟨i, hi, e2⟩ := mnN_at (t := t) (f := f) (n := n) e
        exact ⟨i, by omega, by omega⟩
      · have := mnN_le0 t f n
        exact ⟨n, by omega, by omega⟩
theorem mnN_lip {t : Int} {f g : Nat → Int} : ∀ {n : Nat}, (∀ i, i < n → f i ≤ g i + 1) → mnN t f n ≤ mnN t g n + 1
  | 0, _ => by rw [mnN, mnN]; omega
  | n + 1, h => by
    have a := mnN_lip (t := t) (n := n) (fun i hi => h i (by omega))
    have b := h n (by omega)
    rw [mnN, mnN]
    omega
def dN (l r : Int) (f : Nat) : Int := ((fL f - l).natAbs : Int) + ((fR f - r).natAbs : Int)
theorem dN_r {l r : Int} {f : Nat} (h : f < 169) (hl : -6 ≤ l ∧ l ≤ 6) (hr : -6 ≤ r ∧ r ≤ 6) : 0 ≤ dN l r f ∧ dN l r f ≤ 24 := by
  have := fLR_r h
  unfold dN
  omega
def dM (B : Nat → Int) (l r : Int) : Int := mnN 1000000 (fun f => B f + dN l r f) 169
theorem dM_r {B : Nat → Int} {l r : Int} (hB : ∀ f : Nat, f < 169 → 0 ≤ B f) : 0 ≤ dM B l r ∧ dM B l r ≤ 1000000 := by
  refine ⟨mnN_ge (by decide) (fun i hi => ?_), mnN_le0 _ _ _⟩
  have := hB i hi
  unfold dN
  omega
def fsN (g : Nat → Int) (z : Int) : Nat → Nat → Nat
  | _, 0 => 0
  | j, n + 1 => if g j = z then j else fsN g z (j + 1) n
theorem fsN_of {g : Nat → Int} {z : Int} {j : Nat} (e : g j = z) : ∀ {n j0 : Nat}, j0 ≤ j → j < j0 + n → (∀ i, j0 ≤ i → i < j → g i ≠ z) → fsN g z j0 n = j
  | 0, j0, h1, h2, _ => by omega
  | n + 1, j0, h1, h2, h3 => by
    rw [fsN]
    by_cases q : j0 = j
    · rw [q, if_pos e]
    · rw [if_neg (h3 j0 (by omega) (by omega))]
      exact fsN_of e (by omega) (by omega) (fun i a b => h3 i (by omega) b)
theorem fsN_sp {g : Nat → Int} {z : Int} : ∀ {n j0 : Nat}, (∃ j, j0 ≤ j ∧ j < j0 + n ∧ g j = z) → g (fsN g z j0 n) = z ∧ fsN g z j0 n < j0 + n
  | 0, j0, h => by
    obtain ⟨j, a, b, _⟩ := h
    omega
  | n + 1, j0, h => by
    rw [fsN]
    by_cases q : g j0 = z
    · rw [if_pos q]; exact ⟨q, by omega⟩
    · rw [if_neg q]
      obtain ⟨j, a, b, c⟩ := h
      have hj : j ≠ j0 := fun e => q (e ▸ c)
      have := fsN_sp (g := g) (z := z) (n := n) (j0 := j0 + 1) ⟨j, by omega, by omega, c⟩
      exact ⟨this.1, by omega⟩
theorem fsN_lt {g : Nat → Int} {z : Int} : ∀ {n j0 : Nat}, fsN g z j0 n < j0 + n ∨ fsN g z j0 n = 0
  | 0, j0 => Or.inr rfl
  | n + 1, j0 => by
    rw [fsN]
    split
    · exact Or.inl (by omega)
    · rcases fsN_lt (g := g) (z := z) (n := n) (j0 := j0 + 1) with q | q
      · exact Or.inl (by omega)
      · exact Or.inr q
def aM (B : Nat → Int) (l r z : Int) : Nat := fsN (fun f => dN l r f + B f) z 0 169
theorem aM_lt {B : Nat → Int} {l r z : Int} : aM B l r z < 169 := by
  unfold aM
  rcases fsN_lt (g := fun f => dN l r f + B f) (z := z) (n := 169) (j0 := 0) with q | q <;> omega
theorem aM_sp {B : Nat → Int} {l r : Int} (h : dM B l r < 1000000) : dN l r (aM B l r (dM B l r)) + B (aM B l r (dM B l r)) = dM B l r := by
  obtain ⟨i, hi, e⟩ := mnN_at (t := 1000000) (f := fun f => B f + dN l r f) (n := 169) h
  have e2 : (fun f => dN l r f + B f) i = dM B l r := by
    show dN l r i + B i = dM B l r
    have e3 : B i + dN l r i = dM B l r := e
    omega
  exact (fsN_sp (g := fun f => dN l r f + B f) (z := dM B l r) (n := 169) (j0 := 0) ⟨i, by omega, by omega, e2⟩).1
/-- going over the fields forth and back reaches all from all -/
theorem sprd {B F R : Nat → Int} (hB : ∀ f : Nat, f < 169 → B f ≤ 1000000)
    (f1 : ∀ f : Nat, f < 169 → F f ≤ B f) (f2 : ∀ f : Nat, f < 169 → 13 ≤ f → F f ≤ F (f - 13) + 1) (f3 : ∀ f : Nat, f < 169 → 0 < f % 13 → F f ≤ F (f - 1) + 1)
    (r1 : ∀ f : Nat, f < 169 → R f ≤ F f) (r2 : ∀ f : Nat, f + 13 < 169 → R f ≤ R (f + 13) + 1) (r3 : ∀ f : Nat, f < 169 → f % 13 < 12 → R f ≤ R (f + 1) + 1)
    (hD : ∀ f : Nat, f < 169 → dM B (fL f) (fR f) ≤ R f) : ∀ f : Nat, f < 169 → R f = dM B (fL f) (fR f) := by
  have fu : ∀ (n c b : Nat), b < 13 → c + n < 13 → F (13 * (c + n) + b) ≤ F (13 * c + b) + n := by
    intro n
    induction n with
    | zero => intro c b hb hc; rw [Nat.add_zero]; omega
    | succ n ih =>
      intro c b hb hc
      have i := ih c b hb (by omega)
      have s := f2 (13 * (c + (n + 1)) + b) (by omega) (by omega)
      rw [show 13 * (c + (n + 1)) + b - 13 = 13 * (c + n) + b by omega] at s
      omega
  have fl : ∀ (n a e : Nat), a < 13 → e + n < 13 → F (13 * a + (e + n)) ≤ F (13 * a + e) + n := by
    intro n
    induction n with
    | zero => intro a e ha he; rw [Nat.add_zero]; omega
    | succ n ih =>
      intro a e ha he
      have i := ih a e ha (by omega)
      have s := f3 (13 * a + (e + (n + 1))) (by omega) (by omega)
      rw [show 13 * a + (e + (n + 1)) - 1 = 13 * a + (e + n) by omega] at s
      omega
  have rd : ∀ (n a b : Nat), b < 13 → a + n < 13 → R (13 * a + b) ≤ R (13 * (a + n) + b) + n := by
    intro n
    induction n with
    | zero => intro a b hb hc; rw [Nat.add_zero]; omega
    | succ n ih =>
      intro a b hb hc
      have i := ih a b hb (by omega)
      have s := r2 (13 * (a + n) + b) (by omega)
      rw [show 13 * (a + n) + b + 13 = 13 * (a + (n + 1)) + b by omega] at s
      omega
  have rr : ∀ (n a b : Nat), a < 13 → b + n < 13 → R (13 * a + b) ≤ R (13 * a + (b + n)) + n := by
    intro n
    induction n with
    | zero => intro a b hb hc; rw [Nat.add_zero]; omega
    | succ n ih =>
      intro a b ha hb
      have i := ih a b ha (by omega)
      have s := r3 (13 * a + (b + n)) (by omega) (by omega)
      rw [show 13 * a + (b + n) + 1 = 13 * a + (b + (n + 1)) by omega] at s
      omega
  intro f hf
  refine Int.le_antisymm (mnN_ge ?_ (fun g hg => ?_)) (hD f hf)
  · have := r1 f hf
    have := f1 f hf
    have := hB f hf
    omega
  · show R f ≤ B g + dN (fL f) (fR f) g
    obtain ⟨a, b, hb, rfl⟩ : ∃ a b, b < 13 ∧ f = 13 * a + b := ⟨f / 13, f % 13, by omega, by omega⟩
    obtain ⟨c, e, he, rfl⟩ : ∃ a b, b < 13 ∧ g = 13 * a + b := ⟨g / 13, g % 13, by omega, by omega⟩
    have ed : dN (fL (13 * a + b)) (fR (13 * a + b)) (13 * c + e) = (((c : Int) - a).natAbs : Int) + (((e : Int) - b).natAbs : Int) := by
      unfold dN fL fR
      rw [show (13 * a + b) / 13 = a by omega, show (13 * a + b) % 13 = b by omega, show (13 * c + e) / 13 = c by omega, show (13 * c + e) % 13 = e by omega]
      omega
    rw [ed]
    rcases Nat.le_total c a with q | q <;> rcases Nat.le_total e b with z | z
    · have t1 := r1 (13 * a + b) hf
      have t2 := fu (a - c) c b hb (by omega)
      have t3 := fl (b - e) c e (by omega) (by omega)
      have t4 := f1 (13 * c + e) hg
      rw [show c + (a - c) = a by omega] at t2
      rw [show e + (b - e) = b by omega] at t3
      omega
    · have t1 := rr (e - b) a b (by omega) (by omega)
      rw [show b + (e - b) = e by omega] at t1
      have t2 := r1 (13 * a + e) (by omega)
      have t3 := fu (a - c) c e he (by omega)
      rw [show c + (a - c) = a by omega] at t3
      have t4 := f1 (13 * c + e) hg
      omega
    · have t1 := rd (c - a) a b hb (by omega)
      rw [show a + (c - a) = c by omega] at t1
      have t2 := r1 (13 * c + b) (by omega)
      have t3 := fl (b - e) c e (by omega) (by omega)
      rw [show e + (b - e) = b by omega] at t3
      have t4 := f1 (13 * c + e) hg
      omega
    · have t1 := rd (c - a) a b hb (by omega)
      rw [show a + (c - a) = c by omega] at t1
      have t2 := rr (e - b) c b (by omega) (by omega)
      rw [show b + (e - b) = e by omega] at t2
      have t3 := r1 (13 * c + e) hg
      have t4 := f1 (13 * c + e) hg
      omega
theorem dM_lip {B : Nat → Int} {l r l2 r2 : Int} (h : ((l - l2).natAbs : Int) + ((r - r2).natAbs : Int) ≤ 1) : dM B l r ≤ dM B l2 r2 + 1 := by
  refine mnN_lip (fun i hi => ?_)
  show B i + dN l r i ≤ B i + dN l2 r2 i + 1
  unfold dN
  omega
theorem dM_self {B : Nat → Int} {f : Nat} (h : f < 169) : dM B (fL f) (fR f) ≤ B f := by
  have := mnN_le (t := 1000000) (f := fun g => B g + dN (fL f) (fR f) g) (n := 169) (i := f) h
  have e : dN (fL f) (fR f) f = 0 := by unfold dN; omega
  have q : mnN 1000000 (fun g => B g + dN (fL f) (fR f) g) 169 ≤ B f + dN (fL f) (fR f) f := this
  unfold dM
  omega
abbrev ftP (K W E l r x y q : Int) : Prop := ((pX K W E l r - x).natAbs : Int) ≤ q ∧ ((pY K W E l r - y).natAbs : Int) ≤ q
noncomputable def ftN (N K W E : Int) (lf rg mv x y : Nat → Int) (q : Int) (k f : Nat) : Int := if (k : Int) < N ∧ ftP K W E (lf ((mv k).toNat + 1) + fL f) (rg ((mv k).toNat + 1) + fR f) (x k) (y k) q then 1 else 0
def onF (ft : Nat → Nat → Int) (N : Nat) : Nat → Nat → Int
  | 0, _ => 0
  | i + 1, f => dM (fun g => if ft (N - 1 - i) g = 1 then onF ft N i g else 1000000) (fL f) (fR f)
def bhF (ft : Nat → Nat → Int) (N i g : Nat) : Int := if ft (N - 1 - i) g = 1 then onF ft N i g else 1000000
theorem onF_s (ft : Nat → Nat → Int) (N i f : Nat) : onF ft N (i + 1) f = dM (bhF ft N i) (fL f) (fR f) := rfl
theorem onF_r (ft : Nat → Nat → Int) (N : Nat) : ∀ i f : Nat, 0 ≤ onF ft N i f ∧ onF ft N i f ≤ 1000000
  | 0, f => ⟨Int.le_refl _, show (0 : Int) ≤ 1000000 by decide⟩
  | i + 1, f => by
    rw [onF_s]
    refine dM_r (fun g hg => ?_)
    have := onF_r ft N i g
    unfold bhF
    split <;> omega
theorem bhF_r (ft : Nat → Nat → Int) (N i f : Nat) : 0 ≤ bhF ft N i f ∧ bhF ft N i f ≤ 1000000 := by
  have := onF_r ft N i f
  unfold bhF
  split <;> omega
/-- behind cross k -/
def bkF (ft : Nat → Nat → Int) (N k : Nat) : Nat → Int := bhF ft N (N - 1 - k)
def chF (bk : Nat → Nat → Int) : Nat → Nat
  | 0 => aM (bk 0) 0 0 (dM (bk 0) 0 0)
  | k + 1 => aM (bk (k + 1)) (fL (chF bk k)) (fR (chF bk k)) (dM (bk (k + 1)) (fL (chF bk k)) (fR (chF bk k)))
def cL (bk : Nat → Nat → Int) : Nat → Int
  | 0 => 0
  | k + 1 => fL (chF bk k)
def cR (bk : Nat → Nat → Int) : Nat → Int
  | 0 => 0
  | k + 1 => fR (chF bk k)
theorem chF_eq (bk : Nat → Nat → Int) : ∀ k : Nat, chF bk k = aM (bk k) (cL bk k) (cR bk k) (dM (bk k) (cL bk k) (cR bk k))
  | 0 => rfl
  | _ + 1 => rfl
theorem chF_lt (bk : Nat → Nat → Int) (k : Nat) : chF bk k < 169 := by
  rw [chF_eq]
  exact aM_lt
theorem cLR_r (bk : Nat → Nat → Int) : ∀ k : Nat, -6 ≤ cL bk k ∧ cL bk k ≤ 6 ∧ -6 ≤ cR bk k ∧ cR bk k ≤ 6
  | 0 => show (-6 : Int) ≤ 0 ∧ (0 : Int) ≤ 6 ∧ (-6 : Int) ≤ 0 ∧ (0 : Int) ≤ 6 by decide
  | k + 1 => fLR_r (chF_lt bk k)
def lsF (ft : Nat → Nat → Int) (N : Nat) : Int := onF ft N N 84
theorem lsF_0 {ft : Nat → Nat → Int} {N : Nat} (h : 0 < N) : lsF ft N = dM (bkF ft N 0) 0 0 := by
  obtain ⟨n, rfl⟩ : ∃ q, N = q + 1 := ⟨N - 1, by omega⟩
  rfl
theorem chn {ft : Nat → Nat → Int} {N k : Nat} (hk : k + 1 < N) (h : dM (bkF ft N k) (cL (bkF ft N) k) (cR (bkF ft N) k) < 1000000) :
    bkF ft N k (chF (bkF ft N) k) = dM (bkF ft N (k + 1)) (cL (bkF ft N) (k + 1)) (cR (bkF ft N) (k + 1)) ∧ dM (bkF ft N (k + 1)) (cL (bkF ft N) (k + 1)) (cR (bkF ft N) (k + 1)) < 1000000 := by
  have s := aM_sp h
  rw [← chF_eq] at s
  have d0 := dN_r (l := cL (bkF ft N) k) (r := cR (bkF ft N) k) (chF_lt (bkF ft N) k) (by have := cLR_r (bkF ft N) k; omega) (by have := cLR_r (bkF ft N) k; omega)
  have e : bkF ft N k (chF (bkF ft N) k) = onF ft N (N - 1 - k) (chF (bkF ft N) k) := by
    unfold bkF bhF
    unfold bkF bhF at s
    split
    · rfl
    · rename_i z
      rw [if_neg z] at s
      unfold bkF bhF at h d0
      omega
  have e2 : onF ft N (N - 1 - k) (chF (bkF ft N) k) = dM (bkF ft N (k + 1)) (cL (bkF ft N) (k + 1)) (cR (bkF ft N) (k + 1)) := by
    have e3 : N - 1 - k = (N - 1 - (k + 1)) + 1 := by omega
    rw [e3, onF_s]
    rfl
  rw [e2] at e
  exact ⟨e, by omega⟩
theorem chn_all {ft : Nat → Nat → Int} {N : Nat} (h : lsF ft N < 1000000) : ∀ {k : Nat}, k < N → dM (bkF ft N k) (cL (bkF ft N) k) (cR (bkF ft N) k) < 1000000
  | 0, hk => by
    rw [lsF_0 hk] at h
    exact h
  | k + 1, hk => (chn hk (chn_all h (k := k) (by omega))).2
