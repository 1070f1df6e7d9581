/-! the state in the reference's words: th yr nf no nt bd nb fl, arrays of ints AI, of small naturals AN, of truth values AB, of longs AL, by the places of the reference's cells:
1 carry, 2 given, 3 spent, 4 fund, 5 cents, 6 standing, 7 state, 8 firstBy, 9 approved, 10 difference, 11 invoices, 12 month, 13 from, 14 to, 15 sum, 16 happened, 17 agreed, 18 rows, 19 day, 20 up, 21 down, 22 batchFund, 23 batchCents -/
abbrev MS : Type := Int32 × Int32 × Nat × Nat × Nat × Int32 × Nat × Int32 × (Nat → Nat → Int32) × (Nat → Nat → Nat) × (Nat → Nat → Bool) × (Nat → Nat → Int64)
def m_enc (AI : Nat → Nat → Int32) (AN : Nat → Nat → Nat) (no : Nat) (f : Int32) : Int64 := sumL (fun i => if nI (AN 4 i) = f ∧ AI 7 i = 1 then (AI 5 i).toInt64 else 0) no
def m_bat (AI : Nat → Nat → Int32) (AN : Nat → Nat → Nat) (nb : Nat) (f : Int32) : Int64 := sumL (fun r => if nI (AN 22 r) = f then (AI 23 r).toInt64 else 0) nb
def m_tot (AI : Nat → Nat → Int32) (nb : Nat) : Int64 := sumL (fun r => (AI 23 r).toInt64) nb
def m_cnt (AB : Nat → Nat → Bool) (i : Nat) : Int32 := sumI (fun k => if AB 17 (100 * i + k) = true then 1 else 0) 100
/-- the objects of the class -/
abbrev oFB (a b c d e : Nat) (na np nm yr tl fl : Int32) : va_E := .inr (0, [.ref a, .ref b, .ref c, .ref d, .ref e, .int na, .int np, .int nm, .int yr, .int tl, .int fl])
abbrev oAcc (n cy : Int32) (g en sp pd : Int64) : va_E := .inr (1, [.int n, .int cy, .long g, .long en, .long sp, .long pd])
abbrev oPur (a : Nat) (ct st : Int32) (q : Nat) (stt ic lm : Int32) (lx : Int64) : va_E := .inr (2, [.ref a, .int ct, .int st, .ref q, .int stt, .int ic, .int lm, .long lx])
abbrev oMov (a b : Nat) (ct : Int32) (q : Nat) (hp : Int32) : va_E := .inr (3, [.ref a, .ref b, .int ct, .ref q, .int hp])
abbrev oApp (lo hi : Int64) (n : Int32) : va_E := .inr (4, [.long lo, .long hi, .int n])
abbrev oRat (d u w : Int32) (ea : Option Nat) (rk : Int32) : va_E := .inr (5, [.int d, .int u, .int w, va_rf ea, .int rk])
abbrev oBat (rw : Nat) (n : Int32) (t : Int64) : va_E := .inr (6, [.ref rw, .int n, .long t])
abbrev oArr (cA : ClassId) (n : Nat) (g : Nat → Option Nat) : va_E := .inl (cA, n, .inr (.inr (.inr (.inr g))))
abbrev ctys (cs : Nat → ClassId) : List (ClassId × FieldType) := [(cs 0, .object "FundBook$Account"), (cs 1, .object "FundBook$Purchase"), (cs 2, .object "FundBook$Move"), (cs 3, .object "FundBook$Rate"), (cs 4, .object "FundBook$Account")]
/-- what lies in the class's cells, in the reference's words; bl: the bits of the approvals (0, 1 of orders, 2, 3 of transfers), rx c r: the place of a currency's row -/
def SR (n : Nat → Nat) (ad : Nat → Nat → Nat) (e : Nat → Nat → va_E) (cs : Nat → ClassId) (bl : Nat → Nat → Int64) (rx : Nat → Nat → Nat) (yr : Int32) (nf no nt : Nat) (bd : Int32) (nb : Nat) (fl : Int32) (AI : Nat → Nat → Int32) (AN : Nat → Nat → Nat) (AB : Nat → Nat → Bool) (AL : Nat → Nat → Int64) : Prop :=
  (n 0 = 7 ∧ n 1 = nf ∧ n 2 = no ∧ n 3 = no ∧ n 4 = nt ∧ n 5 = nt) ∧
  e 0 0 = oFB (ad 0 1) (ad 0 2) (ad 0 3) (ad 0 4) (ad 0 5) (nI nf) (nI no) (nI nt) yr bd fl ∧
  e 0 1 = oArr (cs 0) 30 (fun i => if i < nf then some (ad 1 i) else none) ∧
  e 0 2 = oArr (cs 1) 300 (fun i => if i < no then some (ad 2 i) else none) ∧
  e 0 3 = oArr (cs 2) 100 (fun i => if i < nt then some (ad 4 i) else none) ∧
  e 0 4 = oArr (cs 3) 10 (fun c => if AN 18 c = 0 then none else some (ad 6 (rx c (AN 18 c - 1)))) ∧
  e 0 5 = oBat (ad 0 6) (nI nb) (m_tot AI nb) ∧
  e 0 6 = oArr (cs 4) 20 (fun r => if r < nb then some (ad 1 (AN 22 r)) else none) ∧
  (∀ i, i < nf → e 1 i = oAcc (nI i) (AI 1 i) (AL 2 i) (m_enc AI AN no (nI i)) (AL 3 i) (m_bat AI AN nb (nI i))) ∧
  (∀ i, i < no → e 2 i = oPur (ad 1 (AN 4 i)) (AI 5 i) (bI (AB 6 i)) (ad 3 i) (AI 7 i) (AI 11 i) (AI 12 i) (AL 10 i)) ∧
  (∀ i, i < no → e 3 i = oApp (bl 0 i) (bl 1 i) (AI 9 i)) ∧
  (∀ i, i < nt → e 4 i = oMov (ad 1 (AN 13 i)) (ad 1 (AN 14 i)) (AI 15 i) (ad 5 i) (bI (AB 16 i))) ∧
  (∀ i, i < nt → e 5 i = oApp (bl 2 i) (bl 3 i) (m_cnt AB i)) ∧
  (∀ c r, c < 10 → r < AN 18 c → rx c r < n 6 ∧ e 6 (rx c r) = oRat (AI 19 (10 * c + r)) (AI 20 (10 * c + r)) (AI 21 (10 * c + r)) (if r = 0 then none else some (ad 6 (rx c (r - 1)))) (nI (r + 1)))
/-- what always holds of the reference's state -/
def InvM (nf no nt nb : Nat) (AI : Nat → Nat → Int32) (AN : Nat → Nat → Nat) : Prop :=
  nf ≤ 30 ∧ no ≤ 300 ∧ nt ≤ 100 ∧ nb ≤ 20 ∧
  (∀ i, i < no → AN 4 i < nf) ∧ (∀ i, i < nt → AN 13 i < nf ∧ AN 14 i < nf ∧ AN 13 i ≠ AN 14 i) ∧ (∀ r, r < nb → AN 22 r < nf) ∧ (∀ c, c < 10 → AN 18 c ≤ 10) ∧
  (∀ i, i < no → 1 ≤ (AI 5 i).toInt ∧ (AI 5 i).toInt ≤ 1000000000) ∧ (∀ c r, c < 10 → r < AN 18 c → 1 ≤ (AI 21 (10 * c + r)).toInt)
/-- the bits of the approvals, in the reference's words -/
def InvB (no nt : Nat) (AI : Nat → Nat → Int32) (AB : Nat → Nat → Bool) (bl : Nat → Nat → Int64) : Prop :=
  (∀ i, i < no → AI 7 i = 0 → (AI 9 i = 0 ∨ AI 9 i = 1) ∧ ∀ w, w < 100 → (hbit (bl 0 i) (bl 1 i) w = true ↔ (AI 9 i = 1 ∧ AI 8 i = nI w))) ∧
  (∀ i, i < nt → ∀ w, w < 100 → hbit (bl 2 i) (bl 3 i) w = AB 17 (100 * i + w))
/-- the class's fragment holds the state -/
def CR (cs : Nat → ClassId) (o : Nat) (u : MS) (L : List Nat) (f : Nat → va_E) : Prop := match u with
  | (_, yr, nf, no, nt, bd, nb, fl, AI, AN, AB, AL) => ∃ (n : Nat → Nat) (ad : Nat → Nat → Nat) (e : Nat → Nat → va_E) (bl : Nat → Nat → Int64) (rx : Nat → Nat → Nat), ad 0 0 = o ∧ CP n ad e L f ∧ SR n ad e cs bl rx yr nf no nt bd nb fl AI AN AB AL ∧ InvM nf no nt nb AI AN ∧ InvB no nt AI AB bl
