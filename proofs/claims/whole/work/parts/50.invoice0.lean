theorem neg64 {x : Int32} (h1 : 0 ≤ x.toInt) (h2 : x.toInt ≤ 1000000000) : (-x).toInt64 = -(x.toInt64) := by
  apply Int64.toInt_inj.mp
  rw [Int32.toInt_toInt64, Int32.toInt_neg, Int64.toInt_neg, Int32.toInt_toInt64]
  rw [Int.bmod_eq_of_le (by omega) (by omega), Int.bmod_eq_of_le (by omega) (by omega)]
theorem rel_neg {AI : Nat → Nat → Int32} {AB : Nat → Nat → Bool} {j : Nat} (h : 1 ≤ (AI 5 j).toInt ∧ (AI 5 j).toInt ≤ 1000000000) : (-(if AB 6 j = true then 0 else AI 5 j)).toInt64 = -(if AB 6 j = true then 0 else (AI 5 j).toInt64) := by
  split
  · rfl
  · exact neg64 (by omega) h.2
theorem pay_bnd {nf no nt nb : Nat} {AI : Nat → Nat → Int32} {AN : Nat → Nat → Nat} {AB : Nat → Nat → Bool} (hM : InvM nf no nt nb AI AN) (x : Int32) {j : Nat} (h : 1 ≤ (AI 5 j).toInt ∧ (AI 5 j).toInt ≤ 1000000000) : bnd (m_enc AI AN no x + (-(if AB 6 j = true then 0 else AI 5 j)).toInt64) = true := by
  obtain ⟨hnf, hno, hnt, hnb, hfu, hft, hbf, hrw, hce, hdn⟩ := hM
  obtain ⟨h1, h2⟩ := enc_bound (nf := nf) (nt := nt) (nb := nb) (AN := AN) hno hce x no (Nat.le_refl no)
  have hy : -1000000000 ≤ ((-(if AB 6 j = true then 0 else AI 5 j)).toInt64).toInt ∧ ((-(if AB 6 j = true then 0 else AI 5 j)).toInt64).toInt ≤ 0 := by
    split
    · decide
    · rw [neg64 (by omega) h.2, Int64.toInt_neg, Int32.toInt_toInt64, Int.bmod_eq_of_le (by omega) (by omega)]
      omega
  have es : (m_enc AI AN no x + (-(if AB 6 j = true then 0 else AI 5 j)).toInt64).toInt = (m_enc AI AN no x).toInt + ((-(if AB 6 j = true then 0 else AI 5 j)).toInt64).toInt := by
    rw [Int64.toInt_add]
    apply Int.bmod_eq_of_le <;> omega
  exact bnd_of (by omega) (by omega)
theorem aw_t {a m l : Int32} {b : Bool} (h : (decide (a = 1) && (!b || !decide (m ≤ l))) = true) : ¬ (¬ a = 1 ∨ (b = true ∧ m ≤ l)) := by
  by_cases h1 : a = 1 <;> by_cases h2 : m ≤ l <;> cases b <;> simp_all
theorem aw_f {a m l : Int32} {b : Bool} (h : (decide (a = 1) && (!b || !decide (m ≤ l))) = false) : ¬ a = 1 ∨ (b = true ∧ m ≤ l) := by
  by_cases h1 : a = 1 <;> by_cases h2 : m ≤ l <;> cases b <;> simp_all
theorem pos_nI {k : Nat} (hk : k < 10) (h : ¬ nI k = 0) : 0 < nI k := by
  rcases (show k = 0 ∨ k = 1 ∨ k = 2 ∨ k = 3 ∨ k = 4 ∨ k = 5 ∨ k = 6 ∨ k = 7 ∨ k = 8 ∨ k = 9 by omega) with rfl | rfl | rfl | rfl | rfl | rfl | rfl | rfl | rfl | rfl <;> first | exact absurd rfl h | decide

theorem SR_pay1 {n : Nat → Nat} {ad : Nat → Nat → Nat} {e : Nat → Nat → va_E} {cs : Nat → ClassId} {bl : Nat → Nat → Int64} {rx : Nat → Nat → Nat} {yr : Int32} {nf no nt : Nat} {bd : Int32} {nb : Nat} {fl : Int32} {AI : Nat → Nat → Int32} {AN : Nat → Nat → Nat} {AB : Nat → Nat → Bool} {AL : Nat → Nat → Int64} (hR : SR n ad e cs bl rx yr nf no nt bd nb fl AI AN AB AL) (hnf : nf ≤ 30) (hfu : ∀ i, i < no → AN 4 i < nf) (j : Nat) (hj : j < no) (h7 : AI 7 j = 1) (hc : Int64) (mo : Int32) : SR n ad (up2 (up2 e 1 (AN 4 j) (oAcc (nI (AN 4 j)) (AI 1 (AN 4 j)) (AL 2 (AN 4 j)) (m_enc AI AN no (nI (AN 4 j))) (AL 3 (AN 4 j) + hc) (m_bat AI AN nb (nI (AN 4 j))))) 2 j (oPur (ad 1 (AN 4 j)) (AI 5 j) (bI (AB 6 j)) (ad 3 j) (AI 7 j) (AI 11 j + 1) mo (hc - (AI 5 j).toInt64))) cs bl rx yr nf no nt bd nb fl (u2 (u2 AI 11 j (AI 11 j + 1)) 12 j mo) AN AB (u2 (u2 AL 3 (AN 4 j) (AL 3 (AN 4 j) + hc)) 10 j (hc - (AI 5 j).toInt64)) := by
  obtain ⟨hn, e00, e01, e02, e03, e04, e05, e06, e1, e2, e3, e4, e5, e6⟩ := hR
  refine ⟨?_, ?_, ?_, ?_, ?_, ?_, ?_, ?_, ?_, ?_, ?_, ?_, ?_, ?_⟩
  · simpa [up2, u2, va_up] using hn
  · simpa [up2, u2, va_up] using e00
  · simpa [up2, u2, va_up] using e01
  · simpa [up2, u2, va_up] using e02
  · simpa [up2, u2, va_up] using e03
  · simpa [up2, u2, va_up] using e04
  · simpa [up2, u2, va_up, m_tot] using e05
  · simpa [up2, u2, va_up] using e06
  · intro i hi
    have es : m_enc (u2 (u2 AI 11 j (AI 11 j + 1)) 12 j mo) AN no (nI i) = m_enc AI AN no (nI i) := rfl
    have eb : m_bat (u2 (u2 AI 11 j (AI 11 j + 1)) 12 j mo) AN nb (nI i) = m_bat AI AN nb (nI i) := rfl
    rw [es, eb]
    by_cases h : i = AN 4 j
    · subst h
      simp [up2, u2, va_up]
    · simpa [up2, u2, va_up, h] using e1 i hi
  · intro i hi
    by_cases h : i = j
    · subst h; simp [up2, u2, va_up]
    · simpa [up2, u2, va_up, h] using e2 i hi
  · intro i hi; simpa [up2, u2, va_up] using e3 i hi
  · intro i hi; simpa [up2, u2, va_up] using e4 i hi
  · intro i hi; simpa [up2, u2, va_up] using e5 i hi
  · intro c r hc hr; simpa [up2, u2, va_up] using e6 c r hc hr

theorem SR_pay2 {n : Nat → Nat} {ad : Nat → Nat → Nat} {e : Nat → Nat → va_E} {cs : Nat → ClassId} {bl : Nat → Nat → Int64} {rx : Nat → Nat → Nat} {yr : Int32} {nf no nt : Nat} {bd : Int32} {nb : Nat} {fl : Int32} {AI : Nat → Nat → Int32} {AN : Nat → Nat → Nat} {AB : Nat → Nat → Bool} {AL : Nat → Nat → Int64} (hR : SR n ad e cs bl rx yr nf no nt bd nb fl AI AN AB AL) (hnf : nf ≤ 30) (hfu : ∀ i, i < no → AN 4 i < nf) (j : Nat) (hj : j < no) (h7 : AI 7 j = 1) (hc : Int64) (mo : Int32) : SR n ad (up2 (up2 e 1 (AN 4 j) (oAcc (nI (AN 4 j)) (AI 1 (AN 4 j)) (AL 2 (AN 4 j)) (m_enc AI AN no (nI (AN 4 j)) - (AI 5 j).toInt64) (AL 3 (AN 4 j) + hc) (m_bat AI AN nb (nI (AN 4 j))))) 2 j (oPur (ad 1 (AN 4 j)) (AI 5 j) (bI (AB 6 j)) (ad 3 j) 2 (AI 11 j + 1) mo (hc - (AI 5 j).toInt64))) cs bl rx yr nf no nt bd nb fl (u2 (u2 (u2 AI 11 j (AI 11 j + 1)) 12 j mo) 7 j 2) AN AB (u2 (u2 AL 3 (AN 4 j) (AL 3 (AN 4 j) + hc)) 10 j (hc - (AI 5 j).toInt64)) := by
  obtain ⟨hn, e00, e01, e02, e03, e04, e05, e06, e1, e2, e3, e4, e5, e6⟩ := hR
  refine ⟨?_, ?_, ?_, ?_, ?_, ?_, ?_, ?_, ?_, ?_, ?_, ?_, ?_, ?_⟩
  · simpa [up2, u2, va_up] using hn
  · simpa [up2, u2, va_up] using e00
  · simpa [up2, u2, va_up] using e01
  · simpa [up2, u2, va_up] using e02
  · simpa [up2, u2, va_up] using e03
  · simpa [up2, u2, va_up] using e04
  · simpa [up2, u2, va_up, m_tot] using e05
  · simpa [up2, u2, va_up] using e06
  · intro i hi
    have es := enc_set (AI := AI) (AN := AN) (AI' := (u2 (u2 (u2 AI 11 j (AI 11 j + 1)) 12 j mo) 7 j 2)) hj (fun k _ => rfl) (fun k _ hk => by simp [u2, va_up, hk]) (nI i)
    have h9 := hfu j hj
    have h73 : (u2 (u2 (u2 AI 11 j (AI 11 j + 1)) 12 j mo) 7 j 2) 7 j = 2 := by simp [u2, va_up]
    have eb : m_bat (u2 (u2 (u2 AI 11 j (AI 11 j + 1)) 12 j mo) 7 j 2) AN nb (nI i) = m_bat AI AN nb (nI i) := rfl
    rw [es, h73, eb]
    by_cases h : i = AN 4 j
    · subst h
      rw [up2_k _ _ _ _ (by decide), up2_self]
      simp [h7, u2, va_up] <;> grind
    · have hne : ¬ nI (AN 4 j) = nI i := fun q => h ((nI_eq (by omega) (by omega)).mp q).symm
      rw [up2_k _ _ _ _ (by decide), up2_i _ _ _ _ h, e1 i hi]
      simp [hne, u2, va_up, h]
  · intro i hi
    by_cases h : i = j
    · subst h; simp [up2, u2, va_up]
    · simpa [up2, u2, va_up, h] using e2 i hi
  · intro i hi; simpa [up2, u2, va_up] using e3 i hi
  · intro i hi; simpa [up2, u2, va_up] using e4 i hi
  · intro i hi; simpa [up2, u2, va_up] using e5 i hi
  · intro c r hc hr; simpa [up2, u2, va_up] using e6 c r hc hr

theorem CS_pay {n : Nat → Nat} {ad : Nat → Nat → Nat} {e : Nat → Nat → va_E} {L : List Nat} {f : Nat → va_E} {cs : Nat → ClassId} {bl : Nat → Nat → Int64} {rx : Nat → Nat → Nat} {yr : Int32} {nf no nt : Nat} {bd : Int32} {nb : Nat} {fl : Int32} {AI : Nat → Nat → Int32} {AN : Nat → Nat → Nat} {AB : Nat → Nat → Bool} {AL : Nat → Nat → Int64}
    (hC : CP n ad e L f) (hR : SR n ad e cs bl rx yr nf no nt bd nb fl AI AN AB AL) (hM : InvM nf no nt nb AI AN) (hB : InvB no nt AI AB bl) (hZ : InvS nf no nt yr AI AB AL) {j : Nat} (hj : j < no) (h7 : AI 7 j = 1) (hc : Int64) (mo : Int32) :
    CS cs (ad 0 0) (0, yr, nf, no, nt, bd, nb, fl, (if AB 6 j = true then (u2 (u2 AI 11 j (AI 11 j + 1)) 12 j mo) else (u2 (u2 (u2 AI 11 j (AI 11 j + 1)) 12 j mo) 7 j 2)), AN, AB, (u2 (u2 AL 3 (AN 4 j) (AL 3 (AN 4 j) + hc)) 10 j (hc - (AI 5 j).toInt64))) L (va_up (va_up f (ad 1 (AN 4 j)) (oAcc (nI (AN 4 j)) (AI 1 (AN 4 j)) (AL 2 (AN 4 j)) (m_enc AI AN no (nI (AN 4 j)) - (if AB 6 j = true then 0 else AI 5 j).toInt64) (AL 3 (AN 4 j) + hc) (m_bat AI AN nb (nI (AN 4 j))))) (ad 2 j) (oPur (ad 1 (AN 4 j)) (AI 5 j) (bI (AB 6 j)) (ad 3 j) (if AB 6 j = true then AI 7 j else 2) (AI 11 j + 1) mo (hc - (AI 5 j).toInt64))) := by
  obtain ⟨⟨n0, n1, n2, n3, n4, n5⟩, -⟩ := id hR
  obtain ⟨hnf, hno, hnt, hnb, hfu, hft, hbf, hrw, hce, hdn⟩ := id hM
  have hA := InvS_AL (AL' := (u2 (u2 AL 3 (AN 4 j) (AL 3 (AN 4 j) + hc)) 10 j (hc - (AI 5 j).toInt64))) hZ (fun i hi => by
    have h1 := hfu j hj
    have h2 : ¬ i = AN 4 j := by omega
    simp [u2, va_up, h2])
  cases hst : AB 6 j with
  | true =>
    have e0 : m_enc AI AN no (nI (AN 4 j)) - ((0 : Int32)).toInt64 = m_enc AI AN no (nI (AN 4 j)) := by show _ - 0 = _; grind
    simp only [if_true, e0]
    have h1 := (hC.put 1 (AN 4 j) (oAcc (nI (AN 4 j)) (AI 1 (AN 4 j)) (AL 2 (AN 4 j)) (m_enc AI AN no (nI (AN 4 j))) (AL 3 (AN 4 j) + hc) (m_bat AI AN nb (nI (AN 4 j)))) (by rw [n1]; exact hfu j hj) rfl).put 2 j (oPur (ad 1 (AN 4 j)) (AI 5 j) (bI (AB 6 j)) (ad 3 j) (AI 7 j) (AI 11 j + 1) mo (hc - (AI 5 j).toInt64)) (by rw [n2]; exact hj) rfl
    rw [hst] at h1
    exact ⟨n, ad, _, bl, rx, rfl, h1, by have := SR_pay1 hR hnf hfu j hj h7 hc mo; rw [hst] at this; exact this, hM, hB, hA⟩
  | false =>
    simp only [Bool.false_eq_true, if_false]
    have h1 := (hC.put 1 (AN 4 j) (oAcc (nI (AN 4 j)) (AI 1 (AN 4 j)) (AL 2 (AN 4 j)) (m_enc AI AN no (nI (AN 4 j)) - (AI 5 j).toInt64) (AL 3 (AN 4 j) + hc) (m_bat AI AN nb (nI (AN 4 j)))) (by rw [n1]; exact hfu j hj) rfl).put 2 j (oPur (ad 1 (AN 4 j)) (AI 5 j) (bI (AB 6 j)) (ad 3 j) 2 (AI 11 j + 1) mo (hc - (AI 5 j).toInt64)) (by rw [n2]; exact hj) rfl
    rw [hst] at h1
    exact ⟨n, ad, _, bl, rx, rfl, h1, by have := SR_pay2 hR hnf hfu j hj h7 hc mo; rw [hst] at this; exact this, hM, InvB_st (AI := (u2 (u2 AI 11 j (AI 11 j + 1)) 12 j mo)) hB j 2 (by decide), InvS_st (AI := (u2 (u2 AI 11 j (AI 11 j + 1)) 12 j mo)) hA j 2 (Or.inr (Or.inr (Or.inl rfl)))⟩
