theorem incl_eq (lo hi : Int64) {w : Nat} (hw : w < 100) : decide (¬ (if 64 ≤ nI w then hi else lo) &&& bitO (nI w) = 0) = hbit lo hi w := by
  have h64 := nI_64 w hw
  by_cases h : w < 64
  · have h1 : ¬ (64 : Int32) ≤ nI w := by rw [Int32.not_le]; exact h64.mpr h
    rw [if_neg h1, hbit_lo h]
    have := and_bit lo hw
    cases hb : lo.toBitVec.getLsbD (w % 64) with
    | false => simp [this.mpr hb]
    | true =>
      have : ¬ lo &&& bitO (nI w) = 0 := fun q => by rw [this.mp q] at hb; cases hb
      simp [this]
  · have h1 : (64 : Int32) ≤ nI w := by rw [← Int32.not_lt]; exact fun q => h (h64.mp q)
    rw [if_pos h1, hbit_hi h hw]
    have := and_bit hi hw
    cases hb : hi.toBitVec.getLsbD (w % 64) with
    | false => simp [this.mpr hb]
    | true =>
      have : ¬ hi &&& bitO (nI w) = 0 := fun q => by rw [this.mp q] at hb; cases hb
      simp [this]
theorem hbit_add {lo hi : Int64} {w v : Nat} (hw : w < 100) (hv : v < 100) : hbit (if 64 ≤ nI w then lo else lo ||| bitO (nI w)) (if 64 ≤ nI w then hi ||| bitO (nI w) else hi) v = (hbit lo hi v || decide (v = w)) := by
  have h64 := nI_64 w hw
  by_cases h : w < 64
  · have h1 : ¬ (64 : Int32) ≤ nI w := by rw [Int32.not_le]; exact h64.mpr h
    rw [if_neg h1, if_neg h1]
    exact hbit_addlo h hv
  · have h1 : (64 : Int32) ≤ nI w := by rw [← Int32.not_lt]; exact fun q => h (h64.mp q)
    rw [if_pos h1, if_pos h1]
    exact hbit_addhi h hw hv

theorem SR_appr {n : Nat → Nat} {ad : Nat → Nat → Nat} {e : Nat → Nat → va_E} {cs : Nat → ClassId} {bl : Nat → Nat → Int64} {rx : Nat → Nat → Nat} {yr : Int32} {nf no nt : Nat} {bd : Int32} {nb : Nat} {fl : Int32} {AI : Nat → Nat → Int32} {AN : Nat → Nat → Nat} {AB : Nat → Nat → Bool} {AL : Nat → Nat → Int64} (hR : SR n ad e cs bl rx yr nf no nt bd nb fl AI AN AB AL) (j : Nat) (lo hi : Int64) (w : Int32) : SR n ad (up2 e 3 j (oApp lo hi (AI 9 j + 1))) cs (up2 (up2 bl 0 j lo) 1 j hi) rx yr nf no nt bd nb fl (u2 (u2 AI 8 j w) 9 j (AI 9 j + 1)) AN AB AL := by
  obtain ⟨hn, e00, e01, e02, e03, e04, e05, e06, e1, e2, e3, e4, e5, e6⟩ := hR
  refine ⟨?_, ?_, ?_, ?_, ?_, ?_, ?_, ?_, ?_, ?_, ?_, ?_, ?_, ?_⟩
  · simpa [up2, u2, va_up] using hn
  · simpa [up2, u2, va_up] using e00
  · simpa [up2, u2, va_up] using e01
  · simpa [up2, u2, va_up] using e02
  · simpa [up2, u2, va_up] using e03
  · simpa [up2, u2, va_up] using e04
  · simpa [up2, u2, va_up, m_tot] using e05
  · simpa [up2, u2, va_up] using e06
  · intro i hi; simpa [up2, u2, va_up, m_enc, m_bat] using e1 i hi
  · intro i hi; simpa [up2, u2, va_up] using e2 i hi
  · intro i hi
    by_cases h : i = j
    · subst h; simp [up2, u2, va_up]
    · simpa [up2, u2, va_up, h] using e3 i hi
  · intro i hi; simpa [up2, u2, va_up] using e4 i hi
  · intro i hi; simpa [up2, u2, va_up] using e5 i hi
  · intro c r hc hr; simpa [up2, u2, va_up] using e6 c r hc hr

theorem InvB_ap1 {no nt : Nat} {AI : Nat → Nat → Int32} {AB : Nat → Nat → Bool} {bl : Nat → Nat → Int64} (h : InvB no nt AI AB bl) {j w : Nat} (hj : j < no) (hw : w < 100) (h7 : AI 7 j = 0) (h9 : AI 9 j = 0) : InvB no nt (u2 (u2 AI 8 j (nI w)) 9 j (AI 9 j + 1)) AB (up2 (up2 bl 0 j (if 64 ≤ nI w then bl 0 j else bl 0 j ||| bitO (nI w))) 1 j (if 64 ≤ nI w then bl 1 j ||| bitO (nI w) else bl 1 j)) := by
  refine ⟨fun i hi g7 => ?_, fun i hi v hv => by simpa [up2] using h.2 i hi v hv⟩
  by_cases q : i = j
  · subst q
    refine ⟨Or.inr (by simp [u2, va_up, h9]), fun v hv => ?_⟩
    have hb := (h.1 i hi h7).2 v hv
    have hf : hbit (bl 0 i) (bl 1 i) v = false := by
      cases hh : hbit (bl 0 i) (bl 1 i) v with
      | false => rfl
      | true => have := (hb.mp hh).1; rw [h9] at this; exact absurd this (by decide)
    have e1 : (up2 (up2 bl 0 i (if 64 ≤ nI w then bl 0 i else bl 0 i ||| bitO (nI w))) 1 i (if 64 ≤ nI w then bl 1 i ||| bitO (nI w) else bl 1 i)) 0 i = (if 64 ≤ nI w then bl 0 i else bl 0 i ||| bitO (nI w)) := by simp [up2]
    have e2 : (up2 (up2 bl 0 i (if 64 ≤ nI w then bl 0 i else bl 0 i ||| bitO (nI w))) 1 i (if 64 ≤ nI w then bl 1 i ||| bitO (nI w) else bl 1 i)) 1 i = (if 64 ≤ nI w then bl 1 i ||| bitO (nI w) else bl 1 i) := by simp [up2]
    rw [e1, e2, hbit_add hw hv, hf]
    simp only [Bool.false_or, decide_eq_true_eq]
    have ea : (u2 (u2 AI 8 i (nI w)) 9 i (AI 9 i + 1)) 9 i = 1 := by simp [u2, va_up, h9]
    have eb : (u2 (u2 AI 8 i (nI w)) 9 i (AI 9 i + 1)) 8 i = nI w := by simp [u2, va_up]
    rw [ea, eb, nI_eq (by omega) (by omega)]
    constructor
    · intro z; exact ⟨rfl, z.symm⟩
    · intro z; exact z.2.symm
  · have g8 : AI 7 i = 0 := by simpa [u2, va_up] using g7
    simpa [up2, u2, va_up, q] using h.1 i hi g8
theorem InvB_ap2 {no nt : Nat} {AI : Nat → Nat → Int32} {AB : Nat → Nat → Bool} {bl : Nat → Nat → Int64} (h : InvB no nt AI AB bl) (j : Nat) (x y : Int32) (lo hi : Int64) : InvB no nt (u2 (u2 (u2 AI 8 j x) 9 j y) 7 j 1) AB (up2 (up2 bl 0 j lo) 1 j hi) := by
  refine ⟨fun i hi' g7 => ?_, fun i hi' v hv => by simpa [up2] using h.2 i hi' v hv⟩
  by_cases q : i = j
  · subst q; simp [u2, va_up] at g7
  · have g8 : AI 7 i = 0 := by simpa [u2, va_up, q] using g7
    simpa [up2, u2, va_up, q] using h.1 i hi' g8
