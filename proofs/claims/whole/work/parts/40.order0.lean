/-- the relation with its witnesses -/
def CX (n : Nat → Nat) (ad : Nat → Nat → Nat) (e : Nat → Nat → va_E) (bl : Nat → Nat → Int64) (rx : Nat → Nat → Nat) (cs : Nat → ClassId) (yr : Int32) (nf no nt : Nat) (bd : Int32) (nb : Nat) (fl : Int32) (AI : Nat → Nat → Int32) (AN : Nat → Nat → Nat) (AB : Nat → Nat → Bool) (AL : Nat → Nat → Int64) (L : List Nat) (f : Nat → va_E) : Prop := CP n ad e L f ∧ SR n ad e cs bl rx yr nf no nt bd nb fl AI AN AB AL ∧ InvM nf no nt nb AI AN ∧ InvB no nt AI AB bl ∧ InvS nf no nt yr AI AB AL
theorem CX.cs {n : Nat → Nat} {ad : Nat → Nat → Nat} {e : Nat → Nat → va_E} {L : List Nat} {f : Nat → va_E} {cs : Nat → ClassId} {bl : Nat → Nat → Int64} {rx : Nat → Nat → Nat} {yr : Int32} {nf no nt : Nat} {bd : Int32} {nb : Nat} {fl : Int32} {AI : Nat → Nat → Int32} {AN : Nat → Nat → Nat} {AB : Nat → Nat → Bool} {AL : Nat → Nat → Int64} {th : Int32} (h : CX n ad e bl rx cs yr nf no nt bd nb fl AI AN AB AL L f) {o : Nat} (ho : ad 0 0 = o) : CS cs o (th, yr, nf, no, nt, bd, nb, fl, AI, AN, AB, AL) L f := ⟨n, ad, e, bl, rx, ho, h⟩
theorem enc_more {AI AI' : Nat → Nat → Int32} {AN AN' : Nat → Nat → Nat} {no : Nat} (h4 : ∀ k, k < no → AN' 4 k = AN 4 k) (h5 : ∀ k, k < no → AI' 5 k = AI 5 k) (h7 : ∀ k, k < no → AI' 7 k = AI 7 k) (h0 : ¬ AI' 7 no = 1) (x : Int32) : m_enc AI' AN' (no + 1) x = m_enc AI AN no x := by
  unfold m_enc
  simp only [sumL]
  rw [sumL_congr (g' := fun i => if nI (AN 4 i) = x ∧ AI 7 i = 1 then (AI 5 i).toInt64 else 0) (fun i hi => by rw [h4 i hi, h5 i hi, h7 i hi])]
  simp [h0]
theorem enc_order (AI : Nat → Nat → Int32) (AN : Nat → Nat → Nat) (no j : Nat) (c0 x : Int32) : m_enc (u2 (u2 (u2 (u2 (u2 AI 5 no c0) 7 no 0) 9 no 0) 11 no 0) 12 no (-1)) (u2 AN 4 no j) (no + 1) x = m_enc AI AN no x := by
  have hn : ∀ k, k < no → ¬ k = no := fun k hk => by omega
  refine enc_more (fun k hk => ?_) (fun k hk => ?_) (fun k hk => ?_) ?_ x
  · simp [u2, va_up, hn k hk]
  · simp [u2, va_up, hn k hk]
  · simp [u2, va_up, hn k hk]
  · simp [u2, va_up]
theorem ord_A (AI : Nat → Nat → Int32) (no : Nat) (c0 : Int32) : u2 (u2 (u2 (u2 (u2 (u2 AI 5 no c0) 7 no 0) 9 no 0) 11 no 0) 12 no (-1)) 7 no 1 = u2 (u2 (u2 (u2 (u2 AI 5 no c0) 7 no 1) 9 no 0) 11 no 0) 12 no (-1) := by
  funext a
  by_cases h7 : a = 7
  · subst h7
    funext b
    by_cases hb : b = no
    · simp [u2, va_up, hb]
    · simp [u2, va_up, hb]
  · by_cases h12 : a = 12
    · subst h12; simp [u2, va_up]
    · by_cases h11 : a = 11
      · subst h11; simp [u2, va_up]
      · by_cases h9 : a = 9
        · subst h9; simp [u2, va_up]
        · by_cases h5 : a = 5
          · subst h5; simp [u2, va_up]
          · simp [u2, va_up, h7, h12, h11, h9, h5]
theorem CX_order {n : Nat → Nat} {ad : Nat → Nat → Nat} {e : Nat → Nat → va_E} {L : List Nat} {f : Nat → va_E} {cs : Nat → ClassId} {bl : Nat → Nat → Int64} {rx : Nat → Nat → Nat} {yr : Int32} {nf no nt : Nat} {bd : Int32} {nb : Nat} {fl : Int32} {AI : Nat → Nat → Int32} {AN : Nat → Nat → Nat} {AB : Nat → Nat → Bool} {AL : Nat → Nat → Int64}
    (hC : CP n ad e L f) (hR : SR n ad e cs bl rx yr nf no nt bd nb fl AI AN AB AL) (hM : InvM nf no nt nb AI AN) (hB : InvB no nt AI AB bl) (hZ : InvS nf no nt yr AI AB AL) (hlt : no < 300) {q1 q2 : Nat} (hq1 : q1 ∉ L) (hq2 : q2 ∉ L ++ [q1]) {j : Nat} (hj : j < nf) (c0 : Int32) (hc0 : iw c0.toInt64 1 1000000000 = true) (st : Bool) (d : va_E) :
    ∃ e', CX (va_up (va_up n 2 (no + 1)) 3 (no + 1)) (up2 (up2 ad 2 no q1) 3 no q2) e' (up2 (up2 bl 0 no 0) 1 no 0) rx cs yr nf (no + 1) nt bd nb fl (u2 (u2 (u2 (u2 (u2 AI 5 no c0) 7 no 0) 9 no 0) 11 no 0) 12 no (-1)) (u2 AN 4 no j) (u2 AB 6 no st) (u2 AL 10 no 0) (L ++ [q1] ++ [q2]) (va_up (va_up (va_up (va_up (va_up f q1 d) q1 (oPur (ad 1 j) c0 (bI st) q2 0 0 (-1) 0)) q2 (oApp 0 0 0)) (ad 0 2) (oArr (cs 1) 300 (va_up (fun i => if i < no then some (ad 2 i) else none) no (some q1)))) (ad 0 0) (oFB (ad 0 1) (ad 0 2) (ad 0 3) (ad 0 4) (ad 0 5) (nI nf) (nI (no + 1)) (nI nt) yr bd fl)) := by
  obtain ⟨⟨n0, n1, n2, n3, n4, n5⟩, e00, e01, e02, e03, e04, e05, e06, e1, e2, e3, e4, e5, e6⟩ := hR
  obtain ⟨hnf, hno, hnt, hnb, hfu, hft, hbf, hrw, hce, hdn⟩ := hM
  obtain ⟨z1, z2, z3, z4, z5⟩ := hZ
  obtain ⟨b1, b2⟩ := hB
  have h1 := hC.add 2 (oPur (ad 1 j) c0 (bI st) q2 0 0 (-1) 0) hq1
  rw [n2] at h1
  have h2 := h1.add 3 (oApp 0 0 0) hq2
  rw [va_up_ne _ _ (show (3 : Nat) ≠ 2 by decide), n3] at h2
  have h3 := h2.put 0 2 (a := ad 0 2) (oArr (cs 1) 300 (va_up (fun i => if i < no then some (ad 2 i) else none) no (some q1))) (by rw [va_up_ne _ _ (by decide), va_up_ne _ _ (by decide), n0]; decide) (by rw [up2_k _ _ _ _ (by decide), up2_k _ _ _ _ (by decide)])
  have h4 := h3.put 0 0 (a := ad 0 0) (oFB (ad 0 1) (ad 0 2) (ad 0 3) (ad 0 4) (ad 0 5) (nI nf) (nI (no + 1)) (nI nt) yr bd fl) (by rw [va_up_ne _ _ (by decide), va_up_ne _ _ (by decide), n0]; decide) (by rw [up2_k _ _ _ _ (by decide), up2_k _ _ _ _ (by decide)])
  rw [bx_uu]
  have hcr : 1 ≤ c0.toInt ∧ c0.toInt ≤ 1000000000 := by
    have x1 : (1 : Int64).toInt = 1 := by decide
    have x2 : (1000000000 : Int64).toInt = 1000000000 := by decide
    simp only [iw, Bool.and_eq_true, Bool.not_eq_true', decide_eq_false_iff_not, Int64.lt_iff_toInt_lt, Int32.toInt_toInt64, x1, x2] at hc0
    omega
  refine ⟨_, h4, ⟨?_, ?_, ?_, ?_, ?_, ?_, ?_, ?_, ?_, ?_, ?_, ?_, ?_, ?_⟩, ⟨hnf, by omega, hnt, hnb, fun i hi => ?_, ?_, ?_, ?_, fun i hi => ?_, ?_⟩, ⟨?_, ?_⟩, ⟨z1, ?_, ?_, ?_, ?_⟩⟩
  · simp [va_up, n0, n1, n4, n5]
  · simp [up2]
  · simpa [up2] using e01
  · rw [up2_i _ _ _ _ (by decide), up2_self]
    congr 6
    funext i
    by_cases h : i = no
    · subst h; simp [va_up, up2]
    · have e9 : (i < no + 1) ↔ (i < no) := by omega
      simp [va_up, h, e9, up2]
  · simpa [up2] using e03
  · simpa [up2, u2, va_up] using e04
  · simpa [up2, u2, va_up, m_tot] using e05
  · simpa [up2, u2, va_up] using e06
  · intro i hi
    have em := enc_order AI AN no j c0 (nI i)
    rw [em]
    simpa [up2, u2, va_up, m_bat] using e1 i hi
  · intro i hi
    by_cases h : i = no
    · subst h; simp [up2, u2, va_up]
    · simpa [up2, u2, va_up, h] using e2 i (by omega)
  · intro i hi
    by_cases h : i = no
    · subst h; simp [up2, u2, va_up]
    · simpa [up2, u2, va_up, h] using e3 i (by omega)
  · intro i hi; simpa [up2, u2, va_up] using e4 i hi
  · intro i hi; simpa [up2, u2, va_up, m_cnt] using e5 i hi
  · intro c r hc hr; simpa [up2, u2, va_up] using e6 c r hc hr
  · by_cases h : i = no
    · subst h; simpa [u2, va_up] using hj
    · simpa [u2, va_up, h] using hfu i (by omega)
  · simpa [u2, va_up] using hft
  · simpa [u2, va_up] using hbf
  · simpa [u2, va_up] using hrw
  · by_cases h : i = no
    · subst h; simpa [u2, va_up] using hcr
    · simpa [u2, va_up, h] using hce i (by omega)
  · simpa [u2, va_up] using hdn
  · intro i hi h7
    by_cases h : i = no
    · subst h
      refine ⟨Or.inl (by simp [u2, va_up]), fun w hw => ?_⟩
      simp [up2, hbit_0, u2, va_up]
    · have h8 : AI 7 i = 0 := by simpa [u2, va_up, h] using h7
      simpa [up2, u2, va_up, h] using b1 i (by omega) h8
  · intro i hi w hw; simpa [up2, u2, va_up] using b2 i hi w hw
  · intro i hi
    by_cases h : i = no
    · subst h; simp [u2, va_up]
    · simpa [u2, va_up, h] using z2 i (by omega)
  · simpa [u2, va_up] using z3
  · simpa [u2, va_up] using z4
  · simpa [u2, va_up] using z5

theorem SR_place {n : Nat → Nat} {ad : Nat → Nat → Nat} {e : Nat → Nat → va_E} {cs : Nat → ClassId} {bl : Nat → Nat → Int64} {rx : Nat → Nat → Nat} {yr : Int32} {nf no nt : Nat} {bd : Int32} {nb : Nat} {fl : Int32} {AI : Nat → Nat → Int32} {AN : Nat → Nat → Nat} {AB : Nat → Nat → Bool} {AL : Nat → Nat → Int64} (hR : SR n ad e cs bl rx yr nf no nt bd nb fl AI AN AB AL) (hnf : nf ≤ 30) (hfu : ∀ i, i < no → AN 4 i < nf) (j : Nat) (hj : j < no) (h7 : AI 7 j = 0) : SR n ad (up2 (up2 e 2 j (oPur (ad 1 (AN 4 j)) (AI 5 j) (bI (AB 6 j)) (ad 3 j) 1 (AI 11 j) (AI 12 j) (AL 10 j))) 1 (AN 4 j) (oAcc (nI (AN 4 j)) (AI 1 (AN 4 j)) (AL 2 (AN 4 j)) (m_enc AI AN no (nI (AN 4 j)) + (AI 5 j).toInt64) (AL 3 (AN 4 j)) (m_bat AI AN nb (nI (AN 4 j))))) cs bl rx yr nf no nt bd nb fl (u2 AI 7 j 1) AN AB AL := by
  obtain ⟨hn, e00, e01, e02, e03, e04, e05, e06, e1, e2, e3, e4, e5, e6⟩ := hR
  refine ⟨?_, ?_, ?_, ?_, ?_, ?_, ?_, ?_, ?_, ?_, ?_, ?_, ?_, ?_⟩
  · simpa [up2, u2, va_up] using hn
  · simpa [up2, u2, va_up] using e00
  · simpa [up2, u2, va_up] using e01
  · simpa [up2, u2, va_up] using e02
  · simpa [up2, u2, va_up] using e03
  · simpa [up2, u2, va_up] using e04
  · simpa [up2, u2, va_up, m_tot] using e05
  · simpa [up2, u2, va_up] using e06
  · intro i hi
    have es := enc_set (AI := AI) (AN := AN) (AI' := u2 AI 7 j 1) hj (fun k _ => rfl) (fun k _ hk => by simp [u2, va_up, hk]) (nI i)
    have h9 := hfu j hj
    have h73 : (u2 AI 7 j 1) 7 j = 1 := by simp [u2, va_up]
    have eb : m_bat (u2 AI 7 j 1) AN nb (nI i) = m_bat AI AN nb (nI i) := rfl
    rw [es, h73, eb]
    by_cases h : i = AN 4 j
    · subst h
      rw [up2_self]
      simp [h7, u2, va_up] <;> grind
    · have hne : ¬ nI (AN 4 j) = nI i := fun q => h ((nI_eq (by omega) (by omega)).mp q).symm
      rw [up2_i _ _ _ _ h, up2_k _ _ _ _ (by decide), e1 i hi]
      simp [hne, u2, va_up]
  · intro i hi
    by_cases h : i = j
    · subst h; simp [up2, u2, va_up]
    · simpa [up2, u2, va_up, h] using e2 i hi
  · intro i hi; simpa [up2, u2, va_up] using e3 i hi
  · intro i hi; simpa [up2, u2, va_up] using e4 i hi
  · intro i hi; simpa [up2, u2, va_up] using e5 i hi
  · intro c r hc hr; simpa [up2, u2, va_up] using e6 c r hc hr

theorem CX_place {n : Nat → Nat} {ad : Nat → Nat → Nat} {e : Nat → Nat → va_E} {L : List Nat} {f : Nat → va_E} {cs : Nat → ClassId} {bl : Nat → Nat → Int64} {rx : Nat → Nat → Nat} {yr : Int32} {nf no nt : Nat} {bd : Int32} {nb : Nat} {fl : Int32} {AI : Nat → Nat → Int32} {AN : Nat → Nat → Nat} {AB : Nat → Nat → Bool} {AL : Nat → Nat → Int64} (h : CX n ad e bl rx cs yr nf no nt bd nb fl AI AN AB AL L f) {j : Nat} (hj : j < no) (h7 : AI 7 j = 0) {p1 a1 : Nat} (hp : p1 = ad 2 j) (ha : a1 = ad 1 (AN 4 j)) {v1 v2 : va_E} (e1 : v1 = oPur (ad 1 (AN 4 j)) (AI 5 j) (bI (AB 6 j)) (ad 3 j) 1 (AI 11 j) (AI 12 j) (AL 10 j)) (e2 : v2 = oAcc (nI (AN 4 j)) (AI 1 (AN 4 j)) (AL 2 (AN 4 j)) (m_enc AI AN no (nI (AN 4 j)) + (AI 5 j).toInt64) (AL 3 (AN 4 j)) (m_bat AI AN nb (nI (AN 4 j)))) : ∃ e', CX n ad e' bl rx cs yr nf no nt bd nb fl (u2 AI 7 j 1) AN AB AL L (va_up (va_up f p1 v1) a1 v2) := by
  obtain ⟨hC, hR, hM, hB, hZ⟩ := h
  obtain ⟨⟨n0, n1, n2, n3, n4, n5⟩, -⟩ := id hR
  obtain ⟨hnf, hno, hnt, hnb, hfu, hft, hbf, hrw, hce, hdn⟩ := id hM
  subst e1 e2
  exact ⟨_, (hC.put 2 j _ (by rw [n2]; exact hj) hp).put 1 (AN 4 j) _ (by rw [n1]; exact hfu j hj) ha, SR_place hR hnf hfu j hj h7, hM, InvB_st hB j 1 (by decide), InvS_st hZ j 1 (Or.inr (Or.inl rfl))⟩
