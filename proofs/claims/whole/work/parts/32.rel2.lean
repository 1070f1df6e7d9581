/-- what else always holds: the year, the states, the carries -/
def InvS (nf no nt : Nat) (yr : Int32) (AI : Nat → Nat → Int32) (AB : Nat → Nat → Bool) (AL : Nat → Nat → Int64) : Prop :=
  (0 ≤ yr.toInt ∧ yr.toInt ≤ 9999) ∧ (∀ i, i < no → AI 7 i = 0 ∨ AI 7 i = 1 ∨ AI 7 i = 2 ∨ AI 7 i = 3) ∧ (∀ j, j < nf → AI 1 j = 0 ∨ AI 1 j = 1 ∨ AI 1 j = 2) ∧
  (∀ j, nf ≤ j → AL 2 j = 0 ∧ AL 3 j = 0) ∧ (∀ i, nt ≤ i → AB 16 i = false ∧ ∀ w, w < 100 → AB 17 (100 * i + w) = false)
/-- the class's fragment holds the state -/
def CS (cs : Nat → ClassId) (o : Nat) (u : MS) (L : List Nat) (f : Nat → va_E) : Prop := match u with
  | (_, yr, nf, no, nt, bd, nb, fl, AI, AN, AB, AL) => ∃ (n : Nat → Nat) (ad : Nat → Nat → Nat) (e : Nat → Nat → va_E) (bl : Nat → Nat → Int64) (rx : Nat → Nat → Nat), ad 0 0 = o ∧ CP n ad e L f ∧ SR n ad e cs bl rx yr nf no nt bd nb fl AI AN AB AL ∧ InvM nf no nt nb AI AN ∧ InvB no nt AI AB bl ∧ InvS nf no nt yr AI AB AL

theorem CP.ne {n : Nat → Nat} {ad : Nat → Nat → Nat} {e : Nat → Nat → va_E} {L : List Nat} {f : Nat → va_E} (h : CP n ad e L f) (k i k' i' : Nat) (hi : i < n k) (hi' : i' < n k') (hne : ¬ (k = k' ∧ i = i')) : ad k i ≠ ad k' i' := fun q => hne (h.2 k i k' i' hi hi' q)

theorem InvS_AL {nf no nt : Nat} {yr : Int32} {AI : Nat → Nat → Int32} {AB : Nat → Nat → Bool} {AL AL' : Nat → Nat → Int64} (h : InvS nf no nt yr AI AB AL) (h2 : ∀ j, nf ≤ j → AL' 2 j = AL 2 j ∧ AL' 3 j = AL 3 j) : InvS nf no nt yr AI AB AL' :=
  ⟨h.1, h.2.1, h.2.2.1, fun j hj => ⟨(h2 j hj).1.trans (h.2.2.2.1 j hj).1, (h2 j hj).2.trans (h.2.2.2.1 j hj).2⟩, h.2.2.2.2⟩
theorem InvS_give {nf no nt : Nat} {yr : Int32} {AI : Nat → Nat → Int32} {AB : Nat → Nat → Bool} {AL : Nat → Nat → Int64} (h : InvS nf no nt yr AI AB AL) {j : Nat} (hj : j < nf) (g : Int64) : InvS nf no nt yr AI AB (u2 AL 2 j g) := InvS_AL h (fun i hi => by
  have : i ≠ j := by omega
  simp [u2, va_up, this])
