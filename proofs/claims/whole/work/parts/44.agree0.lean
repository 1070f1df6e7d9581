theorem cnt_bound (AB : Nat → Nat → Bool) (i : Nat) : 0 ≤ (m_cnt AB i).toInt ∧ (m_cnt AB i).toInt ≤ 100 := by
  have : ∀ k : Nat, k ≤ 100 → 0 ≤ (sumI (fun q => if AB 17 (100 * i + q) = true then 1 else 0) k).toInt ∧ (sumI (fun q => if AB 17 (100 * i + q) = true then 1 else 0) k).toInt ≤ k := by
    intro k
    induction k with
    | zero => intro _; exact ⟨by simp [sumI], by simp [sumI]⟩
    | succ k ih =>
      intro hk
      obtain ⟨h1, h2⟩ := ih (by omega)
      simp only [sumI]
      generalize (sumI (fun q => if AB 17 (100 * i + q) = true then 1 else 0) k) = z at h1 h2
      split
      · have : (z + 1).toInt = z.toInt + 1 := by
          rw [Int32.toInt_add]
          have h0 : (1 : Int32).toInt = 1 := rfl
          rw [h0]
          apply Int.bmod_eq_of_le <;> omega
        omega
      · have : z + 0 = z := by grind
        rw [this]
        omega
  have h := this 100 (Nat.le_refl _)
  exact ⟨h.1, by have := h.2; unfold m_cnt; omega⟩
theorem cnt_cmp (AB : Nat → Nat → Bool) (i : Nat) : (¬ m_cnt AB i + 1 < 2) ↔ 1 < 1 + m_cnt AB i := by
  obtain ⟨h1, h2⟩ := cnt_bound AB i
  have e1 : (m_cnt AB i + 1).toInt = (m_cnt AB i).toInt + 1 := by
    rw [Int32.toInt_add]
    have h0 : (1 : Int32).toInt = 1 := rfl
    rw [h0]
    apply Int.bmod_eq_of_le <;> omega
  have e2 : (1 + m_cnt AB i).toInt = (m_cnt AB i).toInt + 1 := by
    rw [show 1 + m_cnt AB i = m_cnt AB i + 1 by grind]
    exact e1
  have a1 : (2 : Int32).toInt = 2 := rfl
  have a2 : (1 : Int32).toInt = 1 := rfl
  rw [Int32.lt_iff_toInt_lt, Int32.lt_iff_toInt_lt, e1, e2, a1, a2]
  omega
theorem cnt_add {AB : Nat → Nat → Bool} {i w : Nat} (hw : w < 100) (h : AB 17 (100 * i + w) = false) : m_cnt (u2 AB 17 (100 * i + w) true) i = m_cnt AB i + 1 := by
  unfold m_cnt
  rw [sumI_one (g := fun k => if AB 17 (100 * i + k) = true then 1 else 0) hw (fun k hk hne => by
    have : ¬ 100 * i + k = 100 * i + w := by omega
    simp [u2, va_up, this, hne])]
  simp [u2, va_up, h]
theorem cnt_other {AB : Nat → Nat → Bool} {i k w : Nat} (hw : w < 100) (h : k ≠ i) : m_cnt (u2 AB 17 (100 * i + w) true) k = m_cnt AB k := by
  unfold m_cnt
  exact sumI_congr (fun q hq => by
    have : ¬ 100 * k + q = 100 * i + w := by omega
    simp [u2, va_up, this])

theorem SR_agr {n : Nat → Nat} {ad : Nat → Nat → Nat} {e : Nat → Nat → va_E} {cs : Nat → ClassId} {bl : Nat → Nat → Int64} {rx : Nat → Nat → Nat} {yr : Int32} {nf no nt : Nat} {bd : Int32} {nb : Nat} {fl : Int32} {AI : Nat → Nat → Int32} {AN : Nat → Nat → Nat} {AB : Nat → Nat → Bool} {AL : Nat → Nat → Int64} (hR : SR n ad e cs bl rx yr nf no nt bd nb fl AI AN AB AL) (k : Nat) (hk : k < nt) (lo hi : Int64) (w : Nat) (hw : w < 100) (hf : AB 17 (100 * k + w) = false) : SR n ad (up2 e 5 k (oApp lo hi (m_cnt AB k + 1))) cs (up2 (up2 bl 2 k lo) 3 k hi) rx yr nf no nt bd nb fl AI AN (u2 AB 17 (100 * k + w) true) AL := by
  obtain ⟨hn, e00, e01, e02, e03, e04, e05, e06, e1, e2, e3, e4, e5, e6⟩ := hR
  refine ⟨?_, ?_, ?_, ?_, ?_, ?_, ?_, ?_, ?_, ?_, ?_, ?_, ?_, ?_⟩
  · simpa [up2, u2, va_up] using hn
  · simpa [up2, u2, va_up] using e00
  · simpa [up2, u2, va_up] using e01
  · simpa [up2, u2, va_up] using e02
  · simpa [up2, u2, va_up] using e03
  · simpa [up2, u2, va_up] using e04
  · simpa [up2, u2, va_up] using e05
  · simpa [up2, u2, va_up] using e06
  · intro i hi; simpa [up2, u2, va_up] using e1 i hi
  · intro i hi; simpa [up2, u2, va_up] using e2 i hi
  · intro i hi; simpa [up2, u2, va_up] using e3 i hi
  · intro i hi; simpa [up2, u2, va_up] using e4 i hi
  · intro i hi
    by_cases h : i = k
    · subst h; rw [cnt_add hw hf]; simp [up2]
    · rw [cnt_other hw h]; simpa [up2, h] using e5 i hi
  · intro c r hc hr; simpa [up2, u2, va_up] using e6 c r hc hr

theorem SR_out {n : Nat → Nat} {ad : Nat → Nat → Nat} {e : Nat → Nat → va_E} {cs : Nat → ClassId} {bl : Nat → Nat → Int64} {rx : Nat → Nat → Nat} {yr : Int32} {nf no nt : Nat} {bd : Int32} {nb : Nat} {fl : Int32} {AI : Nat → Nat → Int32} {AN : Nat → Nat → Nat} {AB : Nat → Nat → Bool} {AL : Nat → Nat → Int64} (hR : SR n ad e cs bl rx yr nf no nt bd nb fl AI AN AB AL) (k : Nat) (hk : k < nt) (hft : AN 13 k < nf ∧ AN 14 k < nf ∧ AN 13 k ≠ AN 14 k) : SR n ad (up2 (up2 (up2 e 1 (AN 13 k) (oAcc (nI (AN 13 k)) (AI 1 (AN 13 k)) (AL 2 (AN 13 k) - (AI 15 k).toInt64) (m_enc AI AN no (nI (AN 13 k))) (AL 3 (AN 13 k)) (m_bat AI AN nb (nI (AN 13 k))))) 1 (AN 14 k) (oAcc (nI (AN 14 k)) (AI 1 (AN 14 k)) (AL 2 (AN 14 k) + (AI 15 k).toInt64) (m_enc AI AN no (nI (AN 14 k))) (AL 3 (AN 14 k)) (m_bat AI AN nb (nI (AN 14 k))))) 4 k (oMov (ad 1 (AN 13 k)) (ad 1 (AN 14 k)) (AI 15 k) (ad 5 k) (bI true))) cs bl rx yr nf no nt bd nb fl AI AN (u2 AB 16 k true) (u2 (u2 AL 2 (AN 13 k) (AL 2 (AN 13 k) - (AI 15 k).toInt64)) 2 (AN 14 k) (u2 AL 2 (AN 13 k) (AL 2 (AN 13 k) - (AI 15 k).toInt64) 2 (AN 14 k) + (AI 15 k).toInt64)) := by
  obtain ⟨hn, e00, e01, e02, e03, e04, e05, e06, e1, e2, e3, e4, e5, e6⟩ := hR
  refine ⟨?_, ?_, ?_, ?_, ?_, ?_, ?_, ?_, ?_, ?_, ?_, ?_, ?_, ?_⟩
  · simpa [up2, u2, va_up] using hn
  · simpa [up2, u2, va_up] using e00
  · simpa [up2, u2, va_up] using e01
  · simpa [up2, u2, va_up] using e02
  · simpa [up2, u2, va_up] using e03
  · simpa [up2, u2, va_up] using e04
  · simpa [up2, u2, va_up] using e05
  · simpa [up2, u2, va_up] using e06
  · intro i hi
    by_cases h2 : i = AN 14 k
    · subst h2
      have := hft.2.2
      simp [up2, u2, va_up, this.symm]
    · by_cases h1 : i = AN 13 k
      · subst h1; simp [up2, u2, va_up, h2]
      · simpa [up2, u2, va_up, h1, h2] using e1 i hi
  · intro i hi; simpa [up2, u2, va_up] using e2 i hi
  · intro i hi; simpa [up2, u2, va_up] using e3 i hi
  · intro i hi
    by_cases h : i = k
    · subst h; simp [up2, u2, va_up]
    · simpa [up2, u2, va_up, h] using e4 i hi
  · intro i hi; simpa [up2, u2, va_up, m_cnt] using e5 i hi
  · intro c r hc hr; simpa [up2, u2, va_up] using e6 c r hc hr

theorem InvB_agr {no nt : Nat} {AI : Nat → Nat → Int32} {AB : Nat → Nat → Bool} {bl : Nat → Nat → Int64} (h : InvB no nt AI AB bl) {k w : Nat} (hw : w < 100) : InvB no nt AI (u2 AB 17 (100 * k + w) true) (up2 (up2 bl 2 k (if 64 ≤ nI w then bl 2 k else bl 2 k ||| bitO (nI w))) 3 k (if 64 ≤ nI w then bl 3 k ||| bitO (nI w) else bl 3 k)) := by
  refine ⟨fun i hi g7 => by simpa [up2] using h.1 i hi g7, fun i hi v hv => ?_⟩
  by_cases q : i = k
  · subst q
    have e1 : (up2 (up2 bl 2 i (if 64 ≤ nI w then bl 2 i else bl 2 i ||| bitO (nI w))) 3 i (if 64 ≤ nI w then bl 3 i ||| bitO (nI w) else bl 3 i)) 2 i = (if 64 ≤ nI w then bl 2 i else bl 2 i ||| bitO (nI w)) := by simp [up2]
    have e2 : (up2 (up2 bl 2 i (if 64 ≤ nI w then bl 2 i else bl 2 i ||| bitO (nI w))) 3 i (if 64 ≤ nI w then bl 3 i ||| bitO (nI w) else bl 3 i)) 3 i = (if 64 ≤ nI w then bl 3 i ||| bitO (nI w) else bl 3 i) := by simp [up2]
    rw [e1, e2, hbit_add hw hv, h.2 i hi v hv]
    by_cases z : v = w
    · subst z; simp [u2, va_up]
    · have : ¬ 100 * i + v = 100 * i + w := by omega
      simp [u2, va_up, this, z]
  · have : ¬ 100 * i + v = 100 * k + w := by omega
    simpa [up2, u2, va_up, q, this] using h.2 i hi v hv
theorem InvS_agr {nf no nt : Nat} {yr : Int32} {AI : Nat → Nat → Int32} {AB : Nat → Nat → Bool} {AL : Nat → Nat → Int64} (h : InvS nf no nt yr AI AB AL) {k w : Nat} (hk : k < nt) (hw : w < 100) : InvS nf no nt yr AI (u2 AB 17 (100 * k + w) true) AL := by
  refine ⟨h.1, h.2.1, h.2.2.1, h.2.2.2.1, fun i hi => ⟨(h.2.2.2.2 i hi).1, fun v hv => ?_⟩⟩
  have : ¬ 100 * i + v = 100 * k + w := by omega
  simpa [u2, va_up, this] using (h.2.2.2.2 i hi).2 v hv
theorem InvS_out {nf no nt : Nat} {yr : Int32} {AI : Nat → Nat → Int32} {AB : Nat → Nat → Bool} {AL : Nat → Nat → Int64} (h : InvS nf no nt yr AI AB AL) {k a b : Nat} (hk : k < nt) (ha : a < nf) (hb : b < nf) (x y : Int64) : InvS nf no nt yr AI (u2 AB 16 k true) (u2 (u2 AL 2 a x) 2 b y) := by
  refine ⟨h.1, h.2.1, h.2.2.1, fun j hj => ?_, fun i hi => ?_⟩
  · have h1 : j ≠ a := by omega
    have h2 : j ≠ b := by omega
    simpa [u2, va_up, h1, h2] using h.2.2.2.1 j hj
  · have h1 : i ≠ k := by omega
    simpa [u2, va_up, h1] using h.2.2.2.2 i hi

theorem agr_go (AB : Nat → Nat → Bool) (k : Nat) (F S : Int64) : (decide (¬ m_cnt AB k + 1 < 2) && decide (¬ F < S)) = decide (1 < 1 + m_cnt AB k ∧ S ≤ F) := by
  rw [← Bool.decide_and]
  exact decide_eq_decide.mpr (and_congr (cnt_cmp AB k) Int64.not_lt)
