/-! sums, counts, searches -/
def sumL (g : Nat → Int64) : Nat → Int64
  | 0 => 0
  | n + 1 => sumL g n + g n
theorem sumL_congr {g g' : Nat → Int64} {n : Nat} (h : ∀ i, i < n → g i = g' i) : sumL g n = sumL g' n := by
  induction n with
  | zero => rfl
  | succ n ih =>
    simp only [sumL]
    rw [ih (fun i hi => h i (by omega)), h n (by omega)]
theorem sumL_one {g g' : Nat → Int64} {n i : Nat} (hi : i < n) (h : ∀ k, k < n → k ≠ i → g' k = g k) : sumL g' n = sumL g n + (g' i - g i) := by
  induction n with
  | zero => omega
  | succ n ih =>
    simp only [sumL]
    by_cases hn : i = n
    · subst hn
      rw [sumL_congr (g := g') (g' := g) (fun k hk => h k (by omega) (by omega))]
      grind
    · rw [ih (by omega) (fun k hk hne => h k (by omega) hne), h n (by omega) (fun q => hn q.symm)]
      grind
def sumI (g : Nat → Int32) : Nat → Int32
  | 0 => 0
  | n + 1 => sumI g n + g n
theorem sumI_congr {g g' : Nat → Int32} {n : Nat} (h : ∀ i, i < n → g i = g' i) : sumI g n = sumI g' n := by
  induction n with
  | zero => rfl
  | succ n ih =>
    simp only [sumI]
    rw [ih (fun i hi => h i (by omega)), h n (by omega)]
theorem sumI_one {g g' : Nat → Int32} {n i : Nat} (hi : i < n) (h : ∀ k, k < n → k ≠ i → g' k = g k) : sumI g' n = sumI g n + (g' i - g i) := by
  induction n with
  | zero => omega
  | succ n ih =>
    simp only [sumI]
    by_cases hn : i = n
    · subst hn
      rw [sumI_congr (g := g') (g' := g) (fun k hk => h k (by omega) (by omega))]
      grind
    · rw [ih (by omega) (fun k hk hne => h k (by omega) hne), h n (by omega) (fun q => hn q.symm)]
      grind
/-- the first place from k on, d of them, where P holds -/
def fst_ (P : Nat → Bool) : Nat → Nat → Option Nat
  | 0, _ => none
  | d + 1, k => if P k = true then some k else fst_ P d (k + 1)
/-- the last place below n where P holds -/
def lst_ (P : Nat → Bool) : Nat → Option Nat
  | 0 => none
  | n + 1 => if P n = true then some n else lst_ P n
def oI (o : Option Nat) : Int32 := match o with
  | none => -1
  | some k => nI k
/-- a number that is in 0 .. n - 1, in the words of the machine -/
theorem ix_of {f : Int32} {n : Nat} (hn : n < 2 ^ 30) (h : iw f.toInt64 0 (nI n - 1).toInt64 = true) : ∃ j, j < n ∧ f = nI j := by
  simp only [iw, Bool.and_eq_true, Bool.not_eq_true', decide_eq_false_iff_not, Int64.lt_iff_toInt_lt, Int32.toInt_toInt64] at h
  have h1 : (nI n - 1).toInt = (n : Int) - 1 := pk_sub_toInt (a := n) (b := 1) hn (by decide)
  rw [h1] at h
  have h0 : (0 : Int64).toInt = 0 := rfl
  rw [h0] at h
  obtain ⟨j, hj, rfl⟩ := nI_of (x := f) (by rw [Int32.lt_iff_toInt_lt]; exact h.1)
  rw [nI_toInt hj] at h
  exact ⟨j, by omega, rfl⟩
theorem ix_no {f : Int32} {n : Nat} (hn : n < 2 ^ 30) (h : iw f.toInt64 0 (nI n - 1).toInt64 = false) {j : Nat} (hj : j < n) : f ≠ nI j := by
  rintro rfl
  have h1 : (nI n - 1).toInt = (n : Int) - 1 := pk_sub_toInt (a := n) (b := 1) hn (by decide)
  have h2 : (nI j).toInt = (j : Int) := nI_toInt (by omega)
  have h0 : (0 : Int64).toInt = 0 := rfl
  have : iw (nI j).toInt64 0 (nI n - 1).toInt64 = true := by
    simp only [iw, Bool.and_eq_true, Bool.not_eq_true', decide_eq_false_iff_not, Int64.lt_iff_toInt_lt, Int32.toInt_toInt64, h1, h2, h0]
    omega
  rw [this] at h
  cases h
theorem ix_yes {n j : Nat} (hn : n < 2 ^ 30) (hj : j < n) : iw (nI j).toInt64 0 (nI n - 1).toInt64 = true := by
  cases h : iw (nI j).toInt64 0 (nI n - 1).toInt64 with
  | true => rfl
  | false => exact absurd rfl (ix_no hn h hj)
