/-- does the fund stand in one of the first i rows of the batch -/
def seen (AN : Nat → Nat → Nat) : Nat → Nat → Bool
  | 0, _ => false
  | i + 1, j => seen AN i j || decide (AN 22 i = j)
def egv (AI : Nat → Nat → Int32) (AN : Nat → Nat → Nat) (AL : Nat → Nat → Int64) (nb : Nat) (pb : Bool) (i j : Nat) : Int64 := if pb = true ∧ seen AN (min i nb) j = true then AL 2 j + m_bat AI AN nb (nI j) else AL 2 j
def epd (AI : Nat → Nat → Int32) (AN : Nat → Nat → Nat) (nb i j : Nat) : Int64 := if seen AN (min i nb) j = true then 0 else m_bat AI AN nb (nI j)
/-- behind the first i rows of an emptying -/
def EM (cs : Nat → ClassId) (n : Nat → Nat) (ad : Nat → Nat → Nat) (eb e : Nat → Nat → va_E) (nf no nb : Nat) (AI : Nat → Nat → Int32) (AN : Nat → Nat → Nat) (AL : Nat → Nat → Int64) (pb : Bool) (i : Nat) (L : List Nat) (f : Nat → va_E) : Prop :=
  CP n ad e L f ∧ e 0 6 = oArr (cs 4) 20 (fun r => if i ≤ r ∧ r < nb then some (ad 1 (AN 22 r)) else none) ∧
  (∀ j, j < nf → e 1 j = oAcc (nI j) (AI 1 j) (egv AI AN AL nb pb i j) (m_enc AI AN no (nI j)) (AL 3 j) (epd AI AN nb i j)) ∧ (∀ k j, ¬ k = 1 → ¬ (k = 0 ∧ j = 6) → e k j = eb k j)
theorem EM_same {cs : Nat → ClassId} {n : Nat → Nat} {ad : Nat → Nat → Nat} {eb e : Nat → Nat → va_E} {nf no nb : Nat} {AI : Nat → Nat → Int32} {AN : Nat → Nat → Nat} {AL : Nat → Nat → Int64} {pb : Bool} {i : Nat} {L : List Nat} {f : Nat → va_E} (h : EM cs n ad eb e nf no nb AI AN AL pb i L f) (hi : nb ≤ i) : EM cs n ad eb e nf no nb AI AN AL pb (i + 1) L f := by
  obtain ⟨h1, h2, h3, h4⟩ := h
  refine ⟨h1, ?_, fun j hj => ?_, h4⟩
  · rw [h2]
    congr 6
    funext r
    rw [if_neg (by omega), if_neg (by omega)]
  · rw [h3 j hj, egv, egv, epd, epd, show min (i + 1) nb = min i nb by omega]
theorem EM_step {cs : Nat → ClassId} {n : Nat → Nat} {ad : Nat → Nat → Nat} {eb e : Nat → Nat → va_E} {nf no nb : Nat} {AI : Nat → Nat → Int32} {AN : Nat → Nat → Nat} {AL : Nat → Nat → Int64} {pb : Bool} {i : Nat} {L : List Nat} {f : Nat → va_E} (h : EM cs n ad eb e nf no nb AI AN AL pb i L f) (hi : i < nb) (hbf : ∀ r, r < nb → AN 22 r < nf) (n0 : n 0 = 7) (n1 : n 1 = nf) {G : Int64} (hG : G = if pb = true then egv AI AN AL nb pb i (AN 22 i) + epd AI AN nb i (AN 22 i) else egv AI AN AL nb pb i (AN 22 i)) :
    ∃ e', EM cs n ad eb e' nf no nb AI AN AL pb (i + 1) L (va_up (va_up f (ad 1 (AN 22 i)) (oAcc (nI (AN 22 i)) (AI 1 (AN 22 i)) G (m_enc AI AN no (nI (AN 22 i))) (AL 3 (AN 22 i)) 0)) (ad 0 6) (oArr (cs 4) 20 (va_up (fun r => if i ≤ r ∧ r < nb then some (ad 1 (AN 22 r)) else none) i none))) := by
  obtain ⟨h1, h2, h3, h4⟩ := h
  have ha := hbf i hi
  refine ⟨_, (h1.put 1 (AN 22 i) _ (by rw [n1]; exact ha) rfl).put 0 6 _ (by rw [n0]; decide) rfl, ?_, fun j hj => ?_, fun k j hk hkj => ?_⟩
  · rw [up2_self]
    congr 6
    funext r
    by_cases q : r = i
    · subst q; rw [va_up_self, if_neg (by omega)]
    · rw [va_up_ne _ _ q]
      have e9 : (i ≤ r ∧ r < nb) ↔ (i + 1 ≤ r ∧ r < nb) := by omega
      simp only [e9]
  · rw [up2_k _ _ _ _ (by decide)]
    have hm : min (i + 1) nb = i + 1 := by omega
    have hm2 : min i nb = i := by omega
    by_cases q : j = AN 22 i
    · subst q
      rw [up2_self]
      have hs : seen AN (i + 1) (AN 22 i) = true := by simp [seen]
      have e1 : G = egv AI AN AL nb pb (i + 1) (AN 22 i) := by
        rw [hG]
        unfold egv epd
        rw [hm, hm2, hs]
        cases pb <;> cases hz : seen AN i (AN 22 i) <;> simp
      have e2 : epd AI AN nb (i + 1) (AN 22 i) = 0 := by
        unfold epd
        rw [hm, hs]
        rfl
      rw [e1, e2]
    · rw [up2_i _ _ _ _ q, h3 j hj]
      have hs : seen AN (i + 1) j = seen AN i j := by
        have : ¬ AN 22 i = j := fun z => q z.symm
        simp [seen, this]
      unfold egv epd
      rw [hm, hm2, hs]
  · rw [show up2 (up2 e 1 (AN 22 i) _) 0 6 _ k j = up2 e 1 (AN 22 i) _ k j from by unfold up2; rw [if_neg hkj]]
    rw [up2_k _ _ _ _ hk]
    exact h4 k j hk hkj
theorem seen_bat {AI : Nat → Nat → Int32} {AN : Nat → Nat → Nat} {nf nb j : Nat} (hnf : nf ≤ 30) (hj : j < nf) : ∀ r, r ≤ nb → (∀ q, q < nb → AN 22 q < nf) → seen AN r j = false → m_bat AI AN r (nI j) = 0 := by
  intro r
  induction r with
  | zero => intro _ _ _; rfl
  | succ r ih =>
    intro hr hbf h
    simp only [seen, Bool.or_eq_false_iff, decide_eq_false_iff_not] at h
    have h9 := hbf r (by omega)
    have hne : ¬ nI (AN 22 r) = nI j := fun q => h.2 ((nI_eq (by omega) (by omega)).mp q)
    have es : m_bat AI AN (r + 1) (nI j) = m_bat AI AN r (nI j) + (if nI (AN 22 r) = nI j then (AI 23 r).toInt64 else 0) := rfl
    rw [es, ih (by omega) hbf h.1, if_neg hne]
    rfl
theorem posted_bat {AI : Nat → Nat → Int32} {AN : Nat → Nat → Nat} {nf nb j : Nat} (hnf : nf ≤ 30) (hj : j < nf) (g : Nat → Int64) (hbf : ∀ q, q < nb → AN 22 q < nf) : ∀ r, r ≤ nb → m_posted AI AN g r j = g j + m_bat AI AN r (nI j) := by
  intro r
  induction r with
  | zero => intro _; show g j = g j + 0; grind
  | succ r ih =>
    intro hr
    have h9 := hbf r (by omega)
    have es : m_bat AI AN (r + 1) (nI j) = m_bat AI AN r (nI j) + (if nI (AN 22 r) = nI j then (AI 23 r).toInt64 else 0) := rfl
    have ep : m_posted AI AN g (r + 1) j = va_up (m_posted AI AN g r) (AN 22 r) (m_posted AI AN g r (AN 22 r) + (AI 23 r).toInt64) j := rfl
    rw [es, ep]
    by_cases q : j = AN 22 r
    · subst q
      rw [va_up_self, if_pos rfl, ih (by omega)]
      grind
    · rw [va_up_ne _ _ q, ih (by omega), if_neg (fun z => q ((nI_eq (by omega) (by omega)).mp z).symm)]
      grind
theorem posted_out {AI : Nat → Nat → Int32} {AN : Nat → Nat → Nat} {nf nb j : Nat} (hj : nf ≤ j) (g : Nat → Int64) (hbf : ∀ q, q < nb → AN 22 q < nf) : ∀ r, r ≤ nb → m_posted AI AN g r j = g j := by
  intro r
  induction r with
  | zero => intro _; rfl
  | succ r ih =>
    intro hr
    have h9 := hbf r (by omega)
    show va_up _ _ _ j = _
    rw [va_up_ne _ _ (by omega), ih (by omega)]

theorem CX_empty {n : Nat → Nat} {ad : Nat → Nat → Nat} {e : Nat → Nat → va_E} {L : List Nat} {f : Nat → va_E} {cs : Nat → ClassId} {bl : Nat → Nat → Int64} {rx : Nat → Nat → Nat} {yr : Int32} {nf no nt : Nat} {bd : Int32} {nb : Nat} {fl : Int32} {AI : Nat → Nat → Int32} {AN : Nat → Nat → Nat} {AB : Nat → Nat → Bool} {AL : Nat → Nat → Int64} {eb : Nat → Nat → va_E} {pb : Bool} (h : EM cs n ad eb e nf no nb AI AN AL pb 20 L f) (hR : SR n ad eb cs bl rx yr nf no nt bd nb fl AI AN AB AL) (hM : InvM nf no nt nb AI AN) (hB : InvB no nt AI AB bl) (hZ : InvS nf no nt yr AI AB AL) : ∃ e', CX n ad e' bl rx cs yr nf no nt bd 0 fl AI AN AB (if pb = true then va_up AL 2 (m_posted AI AN (AL 2) nb) else AL) L (va_up f (ad 0 5) (oBat (ad 0 6) 0 0)) := by
  obtain ⟨⟨n0, n1, n2, n3, n4, n5⟩, e00, e01, e02, e03, e04, e05, e06, e1, e2, e3, e4, e5, e6⟩ := hR
  obtain ⟨hnf, hno, hnt, hnb, hfu, hft, hbf, hrw, hce, hdn⟩ := hM
  obtain ⟨h1, h2, h3, h4⟩ := h
  have hm : min 20 nb = nb := by omega
  have hAL : ∀ k, ¬ k = 2 → (if pb = true then va_up AL 2 (m_posted AI AN (AL 2) nb) else AL) k = AL k := by
    intro k hk
    split
    · rw [va_up_ne _ _ hk]
    · rfl
  have hA2 : ∀ j, j < nf → (if pb = true then va_up AL 2 (m_posted AI AN (AL 2) nb) else AL) 2 j = egv AI AN AL nb pb 20 j := by
    intro j hj
    unfold egv
    rw [hm]
    cases pb with
    | false => simp
    | true =>
      simp only [if_true, true_and]
      rw [va_up_self, posted_bat hnf hj (AL 2) hbf nb (Nat.le_refl nb)]
      cases hz : seen AN nb j with
      | true => simp
      | false =>
        rw [seen_bat hnf hj nb (Nat.le_refl nb) hbf hz]
        simp
  have hp0 : ∀ j, j < nf → epd AI AN nb 20 j = 0 := by
    intro j hj
    unfold epd
    rw [hm]
    cases hz : seen AN nb j with
    | true => rfl
    | false => simp [seen_bat hnf hj nb (Nat.le_refl nb) hbf hz]
  have hk0 : ∀ j, ¬ j = 6 → ¬ j = 5 → up2 e 0 5 (oBat (ad 0 6) 0 0) 0 j = eb 0 j := by
    intro j h6 h5
    rw [up2_i _ _ _ _ h5]
    exact h4 0 j (by decide) (fun q => h6 q.2)
  have hk2 : ∀ k j, ¬ k = 0 → ¬ k = 1 → up2 e 0 5 (oBat (ad 0 6) 0 0) k j = eb k j := by
    intro k j h0 h1
    rw [up2_k _ _ _ _ h0]
    exact h4 k j h1 (fun q => h0 q.1)
  refine ⟨_, h1.put 0 5 _ (by rw [n0]; decide) rfl, ⟨⟨n0, n1, n2, n3, n4, n5⟩, ?_, ?_, ?_, ?_, ?_, ?_, ?_, ?_, ?_, ?_, ?_, ?_, ?_⟩, ⟨hnf, hno, hnt, by omega, hfu, hft, fun r hr => by omega, hrw, hce, hdn⟩, hB, InvS_AL hZ (fun j hj => ⟨?_, by rw [hAL 3 (by decide)]⟩)⟩
  · rw [hk0 0 (by decide) (by decide)]; exact e00
  · rw [hk0 1 (by decide) (by decide)]; exact e01
  · rw [hk0 2 (by decide) (by decide)]; exact e02
  · rw [hk0 3 (by decide) (by decide)]; exact e03
  · rw [hk0 4 (by decide) (by decide)]; exact e04
  · rw [up2_self]; rfl
  · rw [up2_i _ _ _ _ (by decide), h2]
    congr 6
    funext r
    rw [if_neg (by omega), if_neg (by omega)]
  · intro j hj
    rw [up2_k _ _ _ _ (by decide), h3 j hj, hA2 j hj, hAL 3 (by decide), hp0 j hj]
    rfl
  · intro i hi; rw [hk2 2 i (by decide) (by decide), hAL 10 (by decide)]; exact e2 i hi
  · intro i hi; rw [hk2 3 i (by decide) (by decide)]; exact e3 i hi
  · intro i hi; rw [hk2 4 i (by decide) (by decide)]; exact e4 i hi
  · intro i hi; rw [hk2 5 i (by decide) (by decide)]; exact e5 i hi
  · intro c r hc hr; rw [hk2 6 (rx c r) (by decide) (by decide)]; exact e6 c r hc hr
  · split
    · rw [va_up_self]; exact posted_out hj (AL 2) hbf nb (Nat.le_refl nb)
    · rfl
