/-- what else always holds: the year, the states, the carries -/
def InvS (nf no : Nat) (yr : Int32) (AI : Nat → Nat → Int32) : Prop :=
  (0 ≤ yr.toInt ∧ yr.toInt ≤ 9999) ∧ (∀ i, i < no → AI 7 i = 0 ∨ AI 7 i = 1 ∨ AI 7 i = 2 ∨ AI 7 i = 3) ∧ (∀ j, j < nf → AI 1 j = 0 ∨ AI 1 j = 1 ∨ AI 1 j = 2)
/-- the class's fragment holds the state -/
def CS (cs : Nat → ClassId) (o : Nat) (u : MS) (L : List Nat) (f : Nat → va_E) : Prop := match u with
  | (_, yr, nf, no, nt, bd, nb, fl, AI, AN, AB, AL) => ∃ (n : Nat → Nat) (ad : Nat → Nat → Nat) (e : Nat → Nat → va_E) (bl : Nat → Nat → Int64) (rx : Nat → Nat → Nat), ad 0 0 = o ∧ CP n ad e L f ∧ SR n ad e cs bl rx yr nf no nt bd nb fl AI AN AB AL ∧ InvM nf no nt nb AI AN ∧ InvB no nt AI AB bl ∧ InvS nf no yr AI

theorem CP.ne {n : Nat → Nat} {ad : Nat → Nat → Nat} {e : Nat → Nat → va_E} {L : List Nat} {f : Nat → va_E} (h : CP n ad e L f) (k i k' i' : Nat) (hi : i < n k) (hi' : i' < n k') (hne : ¬ (k = k' ∧ i = i')) : ad k i ≠ ad k' i' := fun q => hne (h.2 k i k' i' hi hi' q)
