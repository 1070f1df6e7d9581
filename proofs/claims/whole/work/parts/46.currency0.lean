theorem in10_eq (x : Int32) : inN x 10 = iw x.toInt64 0 9 := by
  have e : (nI 10 - 1).toInt64 = 9 := by decide
  unfold inN
  rw [e]
theorem max1 {v : Int32} (h : iw v.toInt64 1 1000000 = true) : (if 1 < v then v else 1) = v ∧ 1 ≤ v.toInt := by
  have x1 : (1 : Int64).toInt = 1 := by decide
  have x2 : (1000000 : Int64).toInt = 1000000 := by decide
  have x3 : (1 : Int32).toInt = 1 := by decide
  simp only [iw, Bool.and_eq_true, Bool.not_eq_true', decide_eq_false_iff_not, Int64.lt_iff_toInt_lt, Int32.toInt_toInt64, x1, x2] at h
  refine ⟨?_, by omega⟩
  split
  · rfl
  · rename_i g
    rw [Int32.lt_iff_toInt_lt, x3] at g
    exact Int32.toInt_inj.mp (by omega)
theorem CS_cur {n : Nat → Nat} {ad : Nat → Nat → Nat} {e : Nat → Nat → va_E} {L : List Nat} {f : Nat → va_E} {cs : Nat → ClassId} {bl : Nat → Nat → Int64} {rx : Nat → Nat → Nat} {yr : Int32} {nf no nt : Nat} {bd : Int32} {nb : Nat} {fl : Int32} {AI : Nat → Nat → Int32} {AN : Nat → Nat → Nat} {AB : Nat → Nat → Bool} {AL : Nat → Nat → Int64}
    (hC : CP n ad e L f) (hR : SR n ad e cs bl rx yr nf no nt bd nb fl AI AN AB AL) (hM : InvM nf no nt nb AI AN) (hB : InvB no nt AI AB bl) (hZ : InvS nf no nt yr AI AB AL) {k : Nat} (hk : k < 10) (hlt : AN 18 k < 10) {q : Nat} (hq : q ∉ L) (d u v : Int32) (hv : iw v.toInt64 1 1000000 = true) {ea : Option Nat} (hea : ea = if AN 18 k = 0 then none else some (ad 6 (rx k (AN 18 k - 1)))) {rk : Int32} (hrk : rk = nI (AN 18 k + 1)) (d0 : va_E) :
    CS cs (ad 0 0) (0, yr, nf, no, nt, bd, nb, fl, u2 (u2 (u2 AI 19 (10 * k + AN 18 k) d) 20 (10 * k + AN 18 k) u) 21 (10 * k + AN 18 k) v, u2 AN 18 k (AN 18 k + 1), AB, AL) (L ++ [q]) (va_up (va_up (va_up f q d0) q (oRat d u (if 1 < v then v else 1) ea rk)) (ad 0 4) (oArr (cs 3) 10 (va_up (fun c => if AN 18 c = 0 then none else some (ad 6 (rx c (AN 18 c - 1)))) k (some q)))) := by
  obtain ⟨⟨n0, n1, n2, n3, n4, n5⟩, e00, e01, e02, e03, e04, e05, e06, e1, e2, e3, e4, e5, e6⟩ := hR
  obtain ⟨hnf, hno, hnt, hnb, hfu, hft, hbf, hrw, hce, hdn⟩ := hM
  obtain ⟨hv1, hv2⟩ := max1 hv
  rw [hv1]
  have h1 := hC.add 6 (oRat d u v ea rk) hq
  have h2 := h1.put 0 4 (a := ad 0 4) (oArr (cs 3) 10 (va_up (fun c => if AN 18 c = 0 then none else some (ad 6 (rx c (AN 18 c - 1)))) k (some q))) (by rw [va_up_ne _ _ (by decide), n0]; decide) (by rw [up2_k _ _ _ _ (by decide)])
  rw [bx_uu]
  obtain ⟨ad', had⟩ : ∃ ad' : Nat → Nat → Nat, ad' = fun k' i => if k' = 6 then (if i < n 6 then ad 6 i else if i = n 6 then q else ad 6 (i - 1)) else ad k' i := ⟨_, rfl⟩
  obtain ⟨rx', hrx⟩ : ∃ rx' : Nat → Nat → Nat, rx' = fun c r => if c = k ∧ r = AN 18 k then n 6 else if rx c r < n 6 then rx c r else rx c r + 1 := ⟨_, rfl⟩
  have hno6 : ∀ k' i, k' ≠ 6 → ad' k' i = ad k' i := fun k' i h => by rw [had]; simp [h]
  have h6 : ∀ c r, ¬ (c = k ∧ r = AN 18 k) → ad' 6 (rx' c r) = ad 6 (rx c r) := by
    intro c r h
    rw [had, hrx]
    simp only [h, if_false, if_true]
    by_cases g : rx c r < n 6
    · simp [g]
    · have g1 : ¬ rx c r + 1 < n 6 := by omega
      have g2 : ¬ rx c r + 1 = n 6 := by omega
      simp [g, g1, g2]
  have h6q : ad' 6 (rx' k (AN 18 k)) = q := by
    rw [had, hrx]
    simp
  have h3 : CP (va_up n 6 (n 6 + 1)) ad' (up2 (up2 e 6 (n 6) (oRat d u v ea rk)) 0 4 (oArr (cs 3) 10 (va_up (fun c => if AN 18 c = 0 then none else some (ad 6 (rx c (AN 18 c - 1)))) k (some q)))) (L ++ [q]) (va_up (va_up f q (oRat d u v ea rk)) (ad 0 4) (oArr (cs 3) 10 (va_up (fun c => if AN 18 c = 0 then none else some (ad 6 (rx c (AN 18 c - 1)))) k (some q)))) := by
    refine h2.to (fun _ => rfl) (fun k' i hi => ?_) (fun _ _ _ => rfl)
    by_cases g : k' = 6
    · subst g
      rw [va_up_self] at hi
      by_cases g2 : i = n 6
      · subst g2; rw [had]; simp [up2]
      · have g3 : i < n 6 := by omega
        rw [had]; simp [up2, g2, g3]
    · rw [hno6 k' i g, up2_k _ _ _ _ g]
  refine ⟨_, ad', _, bl, rx', hno6 0 0 (by decide), h3, ⟨?_, ?_, ?_, ?_, ?_, ?_, ?_, ?_, ?_, ?_, ?_, ?_, ?_, ?_⟩, ⟨hnf, hno, hnt, hnb, hfu, hft, hbf, fun c hc => ?_, hce, fun c r hc hr => ?_⟩, hB, hZ⟩
  · simp [va_up, n0, n1, n2, n3, n4, n5]
  · rw [hno6 0 1 (by decide), hno6 0 2 (by decide), hno6 0 3 (by decide), hno6 0 4 (by decide), hno6 0 5 (by decide)]; simpa [up2] using e00
  · rw [show (fun i => if i < nf then some (ad' 1 i) else none) = (fun i => if i < nf then some (ad 1 i) else none) from funext fun i => by rw [hno6 1 i (by decide)]]; simpa [up2] using e01
  · rw [show (fun i => if i < no then some (ad' 2 i) else none) = (fun i => if i < no then some (ad 2 i) else none) from funext fun i => by rw [hno6 2 i (by decide)]]; simpa [up2] using e02
  · rw [show (fun i => if i < nt then some (ad' 4 i) else none) = (fun i => if i < nt then some (ad 4 i) else none) from funext fun i => by rw [hno6 4 i (by decide)]]; simpa [up2] using e03
  · rw [up2_self]
    congr 6
    funext c
    by_cases g : c = k
    · subst g
      have hz : ¬ (u2 AN 18 c (AN 18 c + 1)) 18 c = 0 := by simp [u2, va_up]
      rw [va_up_self, if_neg hz, show (u2 AN 18 c (AN 18 c + 1)) 18 c - 1 = AN 18 c by simp [u2, va_up], h6q]
    · rw [va_up_ne _ _ g, show (u2 AN 18 k (AN 18 k + 1)) 18 c = AN 18 c by simp [u2, va_up, g], h6 c _ (fun z => g z.1)]
  · rw [hno6 0 6 (by decide)]; simpa [up2, u2, va_up, m_tot] using e05
  · rw [show (fun r => if r < nb then some (ad' 1 ((u2 AN 18 k (AN 18 k + 1)) 22 r)) else none) = (fun r => if r < nb then some (ad 1 (AN 22 r)) else none) from funext fun i => by rw [hno6 1 _ (by decide)]; rfl]; simpa [up2] using e06
  · intro i hi; simpa [up2, u2, va_up, m_enc, m_bat] using e1 i hi
  · intro i hi; rw [hno6 1 _ (by decide), hno6 3 _ (by decide)]; simpa [up2, u2, va_up] using e2 i hi
  · intro i hi; simpa [up2, u2, va_up] using e3 i hi
  · intro i hi; rw [hno6 1 _ (by decide), hno6 1 _ (by decide), hno6 5 _ (by decide)]; simpa [up2, u2, va_up] using e4 i hi
  · intro i hi; simpa [up2] using e5 i hi
  · intro c r hc hr
    by_cases g : c = k ∧ r = AN 18 k
    · obtain ⟨rfl, rfl⟩ := g
      have er : rx' c (AN 18 c) = n 6 := by rw [hrx]; simp
      rw [er, up2_k _ _ _ _ (by decide), up2_self, va_up_self, hea, hrk]
      refine ⟨by omega, ?_⟩
      by_cases z : AN 18 c = 0
      · simp [u2, va_up, z]
      · rw [if_neg z, if_neg z, h6 c (AN 18 c - 1) (fun w => by omega)]
        simp [u2, va_up]
    · have hr' : r < AN 18 c := by
        by_cases g1 : c = k
        · subst g1
          have : r < AN 18 c + 1 := by simpa [u2, va_up] using hr
          have : r ≠ AN 18 c := fun z => g ⟨rfl, z⟩
          omega
        · simpa [u2, va_up, g1] using hr
      obtain ⟨y1, y2⟩ := e6 c r hc hr'
      have hc10 := hrw c hc
      have hix : ¬ 10 * c + r = 10 * k + AN 18 k := by
        intro z
        by_cases g1 : c = k
        · subst g1; exact g ⟨rfl, by omega⟩
        · omega
      have er : rx' c r = rx c r := by rw [hrx]; simp [g, y1]
      have eu : up2 (up2 e 6 (n 6) (oRat d u v ea rk)) 0 4 (oArr (cs 3) 10 (va_up (fun c => if AN 18 c = 0 then none else some (ad 6 (rx c (AN 18 c - 1)))) k (some q))) 6 (rx c r) = e 6 (rx c r) := by
        rw [up2_k _ _ _ _ (by decide), up2_i _ _ _ _ (by omega)]
      rw [er, eu, y2, va_up_self]
      refine ⟨by omega, ?_⟩
      have ee : (if r = 0 then none else some (ad' 6 (rx' c (r - 1)))) = (if r = 0 then none else some (ad 6 (rx c (r - 1)))) := by
        by_cases z : r = 0
        · rw [if_pos z, if_pos z]
        · rw [if_neg z, if_neg z, h6 c (r - 1) (fun w => by obtain ⟨w1, w2⟩ := w; subst w1; omega)]
      rw [ee]
      simp [u2, va_up, hix]
  · by_cases g : c = k
    · subst g; simp [u2, va_up]; omega
    · simpa [u2, va_up, g] using hrw c hc
  · by_cases g : c = k ∧ r = AN 18 k
    · obtain ⟨rfl, rfl⟩ := g; simpa [u2, va_up] using hv2
    · have hr' : r < AN 18 c := by
        by_cases g1 : c = k
        · subst g1
          have : r < AN 18 c + 1 := by simpa [u2, va_up] using hr
          have : r ≠ AN 18 c := fun z => g ⟨rfl, z⟩
          omega
        · simpa [u2, va_up, g1] using hr
      have hc10 := hrw c hc
      have hix : ¬ 10 * c + r = 10 * k + AN 18 k := by
        intro z
        by_cases g1 : c = k
        · subst g1; exact g ⟨rfl, by omega⟩
        · omega
      simpa [u2, va_up, hix] using hdn c r hc hr'
