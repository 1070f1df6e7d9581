theorem SR_begin {n : Nat → Nat} {ad : Nat → Nat → Nat} {e : Nat → Nat → va_E} {cs : Nat → ClassId} {bl : Nat → Nat → Int64} {rx : Nat → Nat → Nat} {yr : Int32} {nf no nt : Nat} {bd : Int32} {nb : Nat} {fl : Int32} {AI : Nat → Nat → Int32} {AN : Nat → Nat → Nat} {AB : Nat → Nat → Bool} {AL : Nat → Nat → Int64} (hR : SR n ad e cs bl rx yr nf no nt bd nb fl AI AN AB AL) (i : Nat) (x : Int64) : SR n ad (up2 e 1 i (oAcc (nI i) (AI 1 i) x (m_enc AI AN no (nI i)) 0 (m_bat AI AN nb (nI i)))) cs bl rx yr nf no nt bd nb fl AI AN AB (u2 (u2 AL 2 i x) 3 i 0) := by
  obtain ⟨hn, e00, e01, e02, e03, e04, e05, e06, e1, e2, e3, e4, e5, e6⟩ := hR
  refine ⟨?_, ?_, ?_, ?_, ?_, ?_, ?_, ?_, ?_, ?_, ?_, ?_, ?_, ?_⟩
  · simpa [up2, u2, va_up] using hn
  · simpa [up2, u2, va_up] using e00
  · simpa [up2, u2, va_up] using e01
  · simpa [up2, u2, va_up] using e02
  · simpa [up2, u2, va_up] using e03
  · simpa [up2, u2, va_up] using e04
  · simpa [up2, u2, va_up] using e05
  · simpa [up2, u2, va_up] using e06
  · intro j hj
    by_cases h : j = i
    · subst h; simp [up2, u2, va_up]
    · simpa [up2, u2, va_up, h] using e1 j hj
  · intro i hi; simpa [up2, u2, va_up] using e2 i hi
  · intro i hi; simpa [up2, u2, va_up] using e3 i hi
  · intro i hi; simpa [up2, u2, va_up] using e4 i hi
  · intro i hi; simpa [up2, u2, va_up] using e5 i hi
  · intro c r hc hr; simpa [up2, u2, va_up] using e6 c r hc hr

theorem SR_year {n : Nat → Nat} {ad : Nat → Nat → Nat} {e : Nat → Nat → va_E} {cs : Nat → ClassId} {bl : Nat → Nat → Int64} {rx : Nat → Nat → Nat} {yr : Int32} {nf no nt : Nat} {bd : Int32} {nb : Nat} {fl : Int32} {AI : Nat → Nat → Int32} {AN : Nat → Nat → Nat} {AB : Nat → Nat → Bool} {AL : Nat → Nat → Int64} (hR : SR n ad e cs bl rx yr nf no nt bd nb fl AI AN AB AL) (y : Int32) : SR n ad (up2 e 0 0 (oFB (ad 0 1) (ad 0 2) (ad 0 3) (ad 0 4) (ad 0 5) (nI nf) (nI no) (nI nt) y bd fl)) cs bl rx y nf no nt bd nb fl AI AN AB AL := by
  obtain ⟨hn, e00, e01, e02, e03, e04, e05, e06, e1, e2, e3, e4, e5, e6⟩ := hR
  refine ⟨?_, ?_, ?_, ?_, ?_, ?_, ?_, ?_, ?_, ?_, ?_, ?_, ?_, ?_⟩
  · simpa [up2, u2, va_up] using hn
  · simp [up2]
  · simpa [up2, u2, va_up] using e01
  · simpa [up2, u2, va_up] using e02
  · simpa [up2, u2, va_up] using e03
  · simpa [up2, u2, va_up] using e04
  · simpa [up2, u2, va_up] using e05
  · simpa [up2, u2, va_up] using e06
  · intro i hi; simpa [up2, u2, va_up] using e1 i hi
  · intro i hi; simpa [up2, u2, va_up] using e2 i hi
  · intro i hi; simpa [up2, u2, va_up] using e3 i hi
  · intro i hi; simpa [up2, u2, va_up] using e4 i hi
  · intro i hi; simpa [up2, u2, va_up] using e5 i hi
  · intro c r hc hr; simpa [up2, u2, va_up] using e6 c r hc hr

theorem carr_eq {cy : Int32} (h : cy = 0 ∨ cy = 1 ∨ cy = 2) (left : Int64) : (if left < 0 ∨ cy = 0 then 0 else if cy = 2 then left / 2 else left) = m_carried cy left := by
  rcases h with rfl | rfl | rfl <;> simp [m_carried]
theorem CX_begin {n : Nat → Nat} {ad : Nat → Nat → Nat} {e : Nat → Nat → va_E} {L : List Nat} {f : Nat → va_E} {cs : Nat → ClassId} {bl : Nat → Nat → Int64} {rx : Nat → Nat → Nat} {yr : Int32} {nf no nt : Nat} {bd : Int32} {nb : Nat} {fl : Int32} {AI : Nat → Nat → Int32} {AN : Nat → Nat → Nat} {AB : Nat → Nat → Bool} {AL : Nat → Nat → Int64} {i : Nat}
    (h : CX n ad e bl rx cs yr nf no nt bd nb fl AI AN AB (clL AI AN AL no i) L f) (hi : i < nf) : ∃ e', CX n ad e' bl rx cs yr nf no nt bd nb fl AI AN AB (clL AI AN AL no (i + 1)) L (va_up f (ad 1 i) (oAcc (nI i) (AI 1 i) ((if ((clL AI AN AL no i) 2 i - m_enc AI AN no (nI i) - (clL AI AN AL no i) 3 i) < 0 ∨ AI 1 i = 0 then 0 else if AI 1 i = 2 then ((clL AI AN AL no i) 2 i - m_enc AI AN no (nI i) - (clL AI AN AL no i) 3 i) / 2 else ((clL AI AN AL no i) 2 i - m_enc AI AN no (nI i) - (clL AI AN AL no i) 3 i)) + m_enc AI AN no (nI i)) (m_enc AI AN no (nI i)) 0 (m_bat AI AN nb (nI i)))) := by
  obtain ⟨hC, hR, hM, hB, hZ⟩ := h
  obtain ⟨⟨n0, n1, n2, n3, n4, n5⟩, -⟩ := id hR
  rw [show ((clL AI AN AL no i) 2 i - m_enc AI AN no (nI i) - (clL AI AN AL no i) 3 i) = m_free AI AN AL no i from clL_free AI AN AL no i, carr_eq (hZ.2.2.1 i hi), clL_s]
  refine ⟨_, hC.put 1 i _ (by rw [n1]; exact hi) rfl, SR_begin hR i _, hM, hB, InvS_AL hZ (fun j hj => ?_)⟩
  have h1 : ¬ j = i := by omega
  simp [va_up, h1]
theorem year_up {y : Int32} (h0 : 0 ≤ y.toInt) (h1 : y < 9999) : 0 ≤ (y + 1).toInt ∧ (y + 1).toInt ≤ 9999 := by
  have e1 : (9999 : Int32).toInt = 9999 := by decide
  have e2 : (1 : Int32).toInt = 1 := by decide
  rw [Int32.lt_iff_toInt_lt, e1] at h1
  rw [Int32.toInt_add, e2, Int.bmod_eq_of_le (by omega) (by omega)]
  omega
theorem year_full {y : Int32} (h0 : y.toInt ≤ 9999) (h1 : ¬ y < 9999) : y = 9999 := by
  have e1 : (9999 : Int32).toInt = 9999 := by decide
  rw [Int32.lt_iff_toInt_lt, e1] at h1
  exact Int32.toInt_inj.mp (by rw [e1]; omega)
theorem year_not {y : Int32} (h1 : y < 9999) : ¬ y = 9999 := fun q => by rw [q] at h1; exact absurd h1 (by decide)
theorem CX_year {n : Nat → Nat} {ad : Nat → Nat → Nat} {e : Nat → Nat → va_E} {L : List Nat} {f : Nat → va_E} {cs : Nat → ClassId} {bl : Nat → Nat → Int64} {rx : Nat → Nat → Nat} {yr : Int32} {nf no nt : Nat} {bd : Int32} {nb : Nat} {fl : Int32} {AI : Nat → Nat → Int32} {AN : Nat → Nat → Nat} {AB : Nat → Nat → Bool} {AL : Nat → Nat → Int64} (h : CX n ad e bl rx cs yr nf no nt bd nb fl AI AN AB AL L f) (hy : yr < 9999) {o : Nat} (ho : ad 0 0 = o) : CS cs o (0, yr + 1, nf, no, nt, bd, nb, fl, AI, AN, AB, AL) L (va_up f o (oFB (ad 0 1) (ad 0 2) (ad 0 3) (ad 0 4) (ad 0 5) (nI nf) (nI no) (nI nt) (yr + 1) bd fl)) := by
  obtain ⟨hC, hR, hM, hB, hZ⟩ := h
  obtain ⟨⟨n0, n1, n2, n3, n4, n5⟩, -⟩ := id hR
  subst ho
  exact ⟨n, ad, _, bl, rx, rfl, hC.put 0 0 _ (by rw [n0]; decide) rfl, SR_year hR (yr + 1), hM, hB, ⟨year_up hZ.1.1 hy, hZ.2⟩⟩
