theorem pl_nost {D : va_G} {cl : List vw_C} {ws : va_W} {H : Heap} (hP : va_P D cl ws H) {k : Nat} {q : Nat × va_E} (hk : ws[k]? = some q) {x : Cell} (hx : H[q.1]? = some x) : x.vm.isStatics = false := by
  have h := hP k q hk
  obtain ⟨a, e⟩ := q
  cases e with
  | inl y =>
    have h1 : H[a]? = some (vp_cell y.1 y.2) := h
    rw [h1] at hx
    cases hx
    obtain ⟨cA, n, z⟩ := y
    rcases z with z | z | z | z | z <;> rfl
  | inr y =>
    obtain ⟨r, -, cell, h1, -, h3, -⟩ := h
    have h1' : H[a]? = some cell := h1
    rw [h1'] at hx
    cases hx
    rw [h3]
    rfl
theorem pl_stat {D : va_G} {cl : List vw_C} {ws : va_W} {A : Nat → Prop} {H0 H : Heap} {locs : List Loc} (hP : va_P D cl ws H0) (hA : va_A ws H0.size = A) (hS : va_S A H0 H locs) (q : Nat) (x : Cell) (h1 : x.vm.isStatics = true) (h2 : H0[q]? = some x) : H[q]? = some x := by
  have hq : q < H0.size := (Array.getElem?_eq_some_iff.mp h2).1
  have hn : ¬ A q := by
    rw [← hA]
    intro h
    rcases h with ⟨k, e, h⟩ | h
    · rw [pl_nost hP h h2] at h1; cases h1
    · omega
  rw [hS.2.1 q hq hn]
  exact h2
/-- the start of post: the fragment, and what a throw needs -/
def po_P (D : va_G) (cl : List vw_C) (tys : List (ClassId × FieldType)) (ws : va_W) (sz : Nat) (av : List Value) : Array Value → State → Prop := fun v U => mu_P D cl tys ws sz av v U ∧ XK U
theorem po_blind {D : va_G} {cl : List vw_C} {tys : List (ClassId × FieldType)} {ws : va_W} {sz : Nat} {av : List Value} : FrameBlind (po_P D cl tys ws sz av) := fun a U g mk q => ⟨mu_blind a U g mk q.1, XK.same (s := U) (U := U.calling g mk a) rfl rfl q.2⟩
/-- the end of post: it returns or throws, as the reference's state says, and the fragment holds that state -/
def qP (D : va_G) (cl : List vw_C) (tys : List (ClassId × FieldType)) (A : Nat → Prop) (cs : Nat → ClassId) (o : Nat) (v : Int32 × MS) : Array Value → State → Outcome → State → Prop := fun _ st oc t =>
  (∃ u : List Nat × (Nat → va_E), CS cs o v.2 u.1 u.2 ∧ ((oc = .returned (some (.int v.1)) ∧ v.2.1 = 0) ∨ (∃ (a : Nat) (ce : Cell), oc = .threw a ∧ v.2.1 = 1 ∧ t.heap[a]? = some ce ∧ ce.vm.isStatics = false ∧ t.vm.findClass "java/lang/IllegalStateException" = some ce.cls ∧ t.vm.assignable ce.cls ce.cls = true)) ∧ mu_B D cl tys A fw_w u t) ∧ va_F A st t
theorem bad_lt {AI : Nat → Nat → Int32} {AN : Nat → Nat → Nat} {AL : Nat → Nat → Int64} {no nb r : Nat} (h : m_bad AI AN AL no nb = some r) : r < nb := by
  unfold m_bad at h
  cases hf : fst_ (m_short AI AN AL no nb) nb 0 with
  | some q =>
    rw [hf] at h
    cases h
    have := (fst_lt hf).2.1
    omega
  | none =>
    rw [hf] at h
    dsimp only at h
    split at h
    · cases h
    · rename_i h0
      cases h
      have : nb ≠ 0 := fun z => h0 (by rw [z]; rfl)
      omega
theorem post_some {th yr : Int32} {nf no nt : Nat} {bd : Int32} {nb : Nat} {fl : Int32} {AI : Nat → Nat → Int32} {AN : Nat → Nat → Nat} {AB : Nat → Nat → Bool} {AL : Nat → Nat → Int64} {r : Nat} (h : m_bad AI AN AL no nb = some r) : m_post (th, yr, nf, no, nt, bd, nb, fl, AI, AN, AB, AL) = (0, (1, yr, nf, no, nt, bd, 0, nI (AN 22 r), AI, AN, AB, AL)) := by
  unfold m_post; dsimp only; rw [h]
theorem post_none {th yr : Int32} {nf no nt : Nat} {bd : Int32} {nb : Nat} {fl : Int32} {AI : Nat → Nat → Int32} {AN : Nat → Nat → Nat} {AB : Nat → Nat → Bool} {AL : Nat → Nat → Int64} (h : m_bad AI AN AL no nb = none) : m_post (th, yr, nf, no, nt, bd, nb, fl, AI, AN, AB, AL) = (nI nb, (0, yr, nf, no, nt, bd, 0, fl, AI, AN, AB, va_up AL 2 (m_posted AI AN (AL 2) nb))) := by
  unfold m_post; dsimp only; rw [h]

theorem SR_fail {n : Nat → Nat} {ad : Nat → Nat → Nat} {e : Nat → Nat → va_E} {cs : Nat → ClassId} {bl : Nat → Nat → Int64} {rx : Nat → Nat → Nat} {yr : Int32} {nf no nt : Nat} {bd : Int32} {nb : Nat} {fl : Int32} {AI : Nat → Nat → Int32} {AN : Nat → Nat → Nat} {AB : Nat → Nat → Bool} {AL : Nat → Nat → Int64} (hR : SR n ad e cs bl rx yr nf no nt bd nb fl AI AN AB AL) (x : Int32) : SR n ad (up2 e 0 0 (oFB (ad 0 1) (ad 0 2) (ad 0 3) (ad 0 4) (ad 0 5) (nI nf) (nI no) (nI nt) yr bd x)) cs bl rx yr nf no nt bd nb x AI AN AB AL := by
  obtain ⟨hn, e00, e01, e02, e03, e04, e05, e06, e1, e2, e3, e4, e5, e6⟩ := hR
  refine ⟨?_, ?_, ?_, ?_, ?_, ?_, ?_, ?_, ?_, ?_, ?_, ?_, ?_, ?_⟩
  · simpa [up2, u2, va_up] using hn
  · simp [up2]
  · simpa [up2, u2, va_up] using e01
  · simpa [up2, u2, va_up] using e02
  · simpa [up2, u2, va_up] using e03
  · simpa [up2, u2, va_up] using e04
  · simpa [up2, u2, va_up] using e05
  · simpa [up2, u2, va_up] using e06
  · intro i hi; simpa [up2, u2, va_up] using e1 i hi
  · intro i hi; simpa [up2, u2, va_up] using e2 i hi
  · intro i hi; simpa [up2, u2, va_up] using e3 i hi
  · intro i hi; simpa [up2, u2, va_up] using e4 i hi
  · intro i hi; simpa [up2, u2, va_up] using e5 i hi
  · intro c r hc hr; simpa [up2, u2, va_up] using e6 c r hc hr
