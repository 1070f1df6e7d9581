/-! the persons who approved: bits of two longs -/
def bitO (p : Int32) : Int64 := (1 : Int64) <<< ((p &&& 63).toInt64 &&& 63)
def hbit (lo hi : Int64) (w : Nat) : Bool := if w < 64 then lo.toBitVec.getLsbD w else hi.toBitVec.getLsbD (w - 64)
theorem bitO_tp : ∀ w, w < 100 → (bitO (nI w)).toBitVec = BitVec.twoPow 64 (w % 64) := by decide +kernel
theorem and_bit (x : Int64) {w : Nat} (hw : w < 100) : (x &&& bitO (nI w)) = 0 ↔ x.toBitVec.getLsbD (w % 64) = false := by
  rw [← Int64.toBitVec_inj, Int64.toBitVec_and, bitO_tp w hw, BitVec.and_twoPow]
  cases h : x.toBitVec.getLsbD (w % 64) with
  | false => simp
  | true =>
    simp only [if_true, Bool.true_eq_false, iff_false]
    intro q
    have := congrArg (fun b : BitVec 64 => b.getLsbD (w % 64)) q
    simp [BitVec.getLsbD_twoPow] at this
    omega
theorem or_bit (x : Int64) {w v : Nat} (hw : w < 100) (hv : v < 64) : (x ||| bitO (nI w)).toBitVec.getLsbD v = (x.toBitVec.getLsbD v || decide (v = w % 64)) := by
  rw [Int64.toBitVec_or, bitO_tp w hw, BitVec.getLsbD_or, BitVec.getLsbD_twoPow]
  have hm : w % 64 < 64 := Nat.mod_lt _ (by decide)
  simp only [hm, decide_true, Bool.true_and]
  congr 1
  exact decide_eq_decide.mpr ⟨fun h => h.symm, fun h => h.symm⟩
theorem nI_64 : ∀ w, w < 100 → (nI w < 64 ↔ w < 64) := by decide +kernel
theorem hbit_lo {lo hi : Int64} {w : Nat} (h : w < 64) : hbit lo hi w = lo.toBitVec.getLsbD (w % 64) := by
  unfold hbit
  rw [if_pos h, Nat.mod_eq_of_lt h]
theorem hbit_hi {lo hi : Int64} {w : Nat} (h : ¬ w < 64) (h2 : w < 100) : hbit lo hi w = hi.toBitVec.getLsbD (w % 64) := by
  unfold hbit
  rw [if_neg h, show w % 64 = w - 64 by omega]
theorem hbit_addlo {lo hi : Int64} {w v : Nat} (h : w < 64) (hv : v < 100) : hbit (lo ||| bitO (nI w)) hi v = (hbit lo hi v || decide (v = w)) := by
  unfold hbit
  by_cases h1 : v < 64
  · rw [if_pos h1, if_pos h1, or_bit lo (by omega) h1, Nat.mod_eq_of_lt h]
  · rw [if_neg h1, if_neg h1]
    have : ¬ v = w := by omega
    simp [this]
theorem hbit_addhi {lo hi : Int64} {w v : Nat} (h : ¬ w < 64) (h2 : w < 100) (hv : v < 100) : hbit lo (hi ||| bitO (nI w)) v = (hbit lo hi v || decide (v = w)) := by
  unfold hbit
  by_cases h1 : v < 64
  · rw [if_pos h1, if_pos h1]
    have : ¬ v = w := by omega
    simp [this]
  · rw [if_neg h1, if_neg h1, or_bit hi h2 (by omega)]
    have : (v - 64 = w % 64) ↔ (v = w) := by omega
    simp [this]
theorem hbit_0 (v : Nat) : hbit 0 0 v = false := by
  unfold hbit
  split <;> simp
