/-! what the reference answers, and its state behind the call -/
def u2 {α : Type} (F : Nat → Nat → α) (k j : Nat) (v : α) : Nat → Nat → α := va_up F k (va_up (F k) j v)
theorem u2_at {α : Type} (F : Nat → Nat → α) (k j : Nat) (v : α) : u2 F k j v k = va_up (F k) j v := va_up_self _ _ _
theorem u2_ne {α : Type} (F : Nat → Nat → α) {k k' : Nat} (j : Nat) (v : α) (h : k' ≠ k) : u2 F k j v k' = F k' := va_up_ne _ _ h
def bnd (v : Int64) : Bool := iw v (-1000000000000000) 1000000000000000
def m_free (AI : Nat → Nat → Int32) (AN : Nat → Nat → Nat) (AL : Nat → Nat → Int64) (no : Nat) (j : Nat) : Int64 := AL 2 j - m_enc AI AN no (nI j) - AL 3 j
def m_fits (AI : Nat → Nat → Int32) (AN : Nat → Nat → Nat) (AL : Nat → Nat → Int64) (no : Nat) (j : Nat) (mg ms le : Int64) : Bool :=
  bnd (AL 2 j + mg) && bnd (AL 3 j + ms) && bnd (AL 2 j + mg - (m_enc AI AN no (nI j) - le) - (AL 3 j + ms))
abbrev ixn (f : Int32) : Nat := f.toNatClampNeg
def inN (f : Int32) (n : Nat) : Bool := iw f.toInt64 0 (nI n - 1).toInt64
def m_fund (u : MS) (c : Int32) : Int32 × MS := match u with
  | (_, yr, nf, no, nt, bd, nb, fl, AI, AN, AB, AL) =>
    if iw c.toInt64 0 2 = false then (-2, (0, yr, nf, no, nt, bd, nb, fl, AI, AN, AB, AL))
    else if nf = 30 then (-4, (0, yr, nf, no, nt, bd, nb, fl, AI, AN, AB, AL))
    else (nI nf, (0, yr, nf + 1, no, nt, bd, nb, fl, u2 AI 1 nf c, AN, AB, AL))
def m_give (u : MS) (f : Int32) (more : Int64) : Int32 × MS := match u with
  | (_, yr, nf, no, nt, bd, nb, fl, AI, AN, AB, AL) =>
    if inN f nf = false then (-1, (0, yr, nf, no, nt, bd, nb, fl, AI, AN, AB, AL))
    else if iw more 1 1000000000000 = false then (-2, (0, yr, nf, no, nt, bd, nb, fl, AI, AN, AB, AL))
    else if m_fits AI AN AL no (ixn f) more 0 0 = false then (-4, (0, yr, nf, no, nt, bd, nb, fl, AI, AN, AB, AL))
    else (1, (0, yr, nf, no, nt, bd, nb, fl, AI, AN, AB, u2 AL 2 (ixn f) (AL 2 (ixn f) + more)))
def m_order (u : MS) (f c : Int32) (st : Bool) : Int32 × MS := match u with
  | (_, yr, nf, no, nt, bd, nb, fl, AI, AN, AB, AL) =>
    if inN f nf = false then (-1, (0, yr, nf, no, nt, bd, nb, fl, AI, AN, AB, AL))
    else if iw c.toInt64 1 1000000000 = false then (-2, (0, yr, nf, no, nt, bd, nb, fl, AI, AN, AB, AL))
    else if no = 300 then (-4, (0, yr, nf, no, nt, bd, nb, fl, AI, AN, AB, AL))
    else if c.toInt64 ≤ m_free AI AN AL no (ixn f) then (nI no, (0, yr, nf, no + 1, nt, bd, nb, fl, u2 (u2 (u2 (u2 (u2 AI 5 no c) 7 no 1) 9 no 0) 11 no 0) 12 no (-1), u2 AN 4 no (ixn f), u2 AB 6 no st, u2 AL 10 no 0))
    else (-10 - nI no, (0, yr, nf, no + 1, nt, bd, nb, fl, u2 (u2 (u2 (u2 (u2 AI 5 no c) 7 no 0) 9 no 0) 11 no 0) 12 no (-1), u2 AN 4 no (ixn f), u2 AB 6 no st, u2 AL 10 no 0))
def m_approve (u : MS) (i who : Int32) : Int32 × MS := match u with
  | (_, yr, nf, no, nt, bd, nb, fl, AI, AN, AB, AL) =>
    if inN i no = false then (-1, (0, yr, nf, no, nt, bd, nb, fl, AI, AN, AB, AL))
    else if iw who.toInt64 0 99 = false then (-2, (0, yr, nf, no, nt, bd, nb, fl, AI, AN, AB, AL))
    else if ¬ AI 7 (ixn i) = 0 ∨ (AI 9 (ixn i) = 1 ∧ AI 8 (ixn i) = who) then (-3, (0, yr, nf, no, nt, bd, nb, fl, AI, AN, AB, AL))
    else if AI 9 (ixn i) + 1 = 2 then (AI 9 (ixn i) + 1, (0, yr, nf, no, nt, bd, nb, fl, u2 (u2 (u2 AI 8 (ixn i) (if AI 9 (ixn i) = 0 then who else AI 8 (ixn i))) 9 (ixn i) (AI 9 (ixn i) + 1)) 7 (ixn i) 1, AN, AB, AL))
    else (AI 9 (ixn i) + 1, (0, yr, nf, no, nt, bd, nb, fl, u2 (u2 AI 8 (ixn i) (if AI 9 (ixn i) = 0 then who else AI 8 (ixn i))) 9 (ixn i) (AI 9 (ixn i) + 1), AN, AB, AL))
def m_rowOn (AI : Nat → Nat → Int32) (AN : Nat → Nat → Nat) (cur : Nat) (on : Int32) : Option Nat := lst_ (fun r => decide (AI 19 (10 * cur + r) ≤ on)) (AN 18 cur)
def m_house (AI : Nat → Nat → Int32) (cur : Nat) (c : Int32) (o : Option Nat) : Int64 := match o with
  | none => c.toInt64
  | some r => c.toInt64 * (AI 20 (10 * cur + r)).toInt64 / (AI 21 (10 * cur + r)).toInt64
def m_invoice (u : MS) (i c cur on : Int32) : Int64 × MS := match u with
  | (_, yr, nf, no, nt, bd, nb, fl, AI, AN, AB, AL) =>
    if inN i no = false then (-1, (0, yr, nf, no, nt, bd, nb, fl, AI, AN, AB, AL))
    else if iw c.toInt64 1 1000000000 = false ∨ iw cur.toInt64 0 9 = false ∨ iw on.toInt64 0 100000 = false then (-2, (0, yr, nf, no, nt, bd, nb, fl, AI, AN, AB, AL))
    else if ¬ AI 7 (ixn i) = 1 ∨ (AB 6 (ixn i) = true ∧ on / 30 ≤ AI 12 (ixn i)) then (-3, (0, yr, nf, no, nt, bd, nb, fl, AI, AN, AB, AL))
    else if m_rowOn AI AN (ixn cur) on = none ∧ 0 < cur then (-6, (0, yr, nf, no, nt, bd, nb, fl, AI, AN, AB, AL))
    else if iw (m_house AI (ixn cur) c (m_rowOn AI AN (ixn cur) on)) ((AI 5 (ixn i)).toInt64 - (AI 5 (ixn i)).toInt64 * bd.toInt64 / 1000) ((AI 5 (ixn i)).toInt64 + (AI 5 (ixn i)).toInt64 * bd.toInt64 / 1000) = false then (-5, (0, yr, nf, no, nt, bd, nb, fl, AI, AN, AB, AL))
    else if m_fits AI AN AL no (AN 4 (ixn i)) 0 (m_house AI (ixn cur) c (m_rowOn AI AN (ixn cur) on)) (if AB 6 (ixn i) = true then 0 else (AI 5 (ixn i)).toInt64) = false then (-4, (0, yr, nf, no, nt, bd, nb, fl, AI, AN, AB, AL))
    else (m_house AI (ixn cur) c (m_rowOn AI AN (ixn cur) on), (0, yr, nf, no, nt, bd, nb, fl, if AB 6 (ixn i) = true then u2 (u2 AI 11 (ixn i) (AI 11 (ixn i) + 1)) 12 (ixn i) (on / 30) else u2 (u2 (u2 AI 11 (ixn i) (AI 11 (ixn i) + 1)) 12 (ixn i) (on / 30)) 7 (ixn i) 2, AN, AB, u2 (u2 AL 3 (AN 4 (ixn i)) (AL 3 (AN 4 (ixn i)) + m_house AI (ixn cur) c (m_rowOn AI AN (ixn cur) on))) 10 (ixn i) (m_house AI (ixn cur) c (m_rowOn AI AN (ixn cur) on) - (AI 5 (ixn i)).toInt64)))
def m_cancel (u : MS) (i : Int32) : Int32 × MS := match u with
  | (_, yr, nf, no, nt, bd, nb, fl, AI, AN, AB, AL) =>
    if inN i no = false then (-1, (0, yr, nf, no, nt, bd, nb, fl, AI, AN, AB, AL))
    else if 1 < AI 7 (ixn i) then (-3, (0, yr, nf, no, nt, bd, nb, fl, AI, AN, AB, AL))
    else (if AI 7 (ixn i) = 1 then AI 5 (ixn i) else 0, (0, yr, nf, no, nt, bd, nb, fl, u2 AI 7 (ixn i) 3, AN, AB, AL))
def m_band (u : MS) (b : Int32) : Int32 × MS := match u with
  | (_, yr, nf, no, nt, bd, nb, fl, AI, AN, AB, AL) =>
    if iw b.toInt64 0 1000 = false then (-2, (0, yr, nf, no, nt, bd, nb, fl, AI, AN, AB, AL))
    else (1, (0, yr, nf, no, nt, b, nb, fl, AI, AN, AB, AL))
def m_currency (u : MS) (c d up dn : Int32) : Int32 × MS := match u with
  | (_, yr, nf, no, nt, bd, nb, fl, AI, AN, AB, AL) =>
    if iw c.toInt64 0 9 = false then (-1, (0, yr, nf, no, nt, bd, nb, fl, AI, AN, AB, AL))
    else if iw d.toInt64 0 100000 = false ∨ iw up.toInt64 1 1000000 = false ∨ iw dn.toInt64 1 1000000 = false then (-2, (0, yr, nf, no, nt, bd, nb, fl, AI, AN, AB, AL))
    else if 0 < AN 18 (ixn c) ∧ d ≤ AI 19 (10 * ixn c + AN 18 (ixn c) - 1) then (-3, (0, yr, nf, no, nt, bd, nb, fl, AI, AN, AB, AL))
    else if AN 18 (ixn c) = 10 then (-4, (0, yr, nf, no, nt, bd, nb, fl, AI, AN, AB, AL))
    else (1, (0, yr, nf, no, nt, bd, nb, fl, u2 (u2 (u2 AI 19 (10 * ixn c + AN 18 (ixn c)) d) 20 (10 * ixn c + AN 18 (ixn c)) up) 21 (10 * ixn c + AN 18 (ixn c)) dn, u2 AN 18 (ixn c) (AN 18 (ixn c) + 1), AB, AL))
def m_transfer (u : MS) (f t c : Int32) : Int32 × MS := match u with
  | (_, yr, nf, no, nt, bd, nb, fl, AI, AN, AB, AL) =>
    if inN f nf = false ∨ inN t nf = false then (-1, (0, yr, nf, no, nt, bd, nb, fl, AI, AN, AB, AL))
    else if iw c.toInt64 1 1000000000 = false ∨ f = t then (-2, (0, yr, nf, no, nt, bd, nb, fl, AI, AN, AB, AL))
    else if nt = 100 then (-4, (0, yr, nf, no, nt, bd, nb, fl, AI, AN, AB, AL))
    else (nI nt, (0, yr, nf, no, nt + 1, bd, nb, fl, u2 AI 15 nt c, u2 (u2 AN 13 nt (ixn f)) 14 nt (ixn t), AB, AL))
def m_agree (u : MS) (i who : Int32) : Int32 × MS := match u with
  | (_, yr, nf, no, nt, bd, nb, fl, AI, AN, AB, AL) =>
    if inN i nt = false then (-1, (0, yr, nf, no, nt, bd, nb, fl, AI, AN, AB, AL))
    else if iw who.toInt64 0 99 = false then (-2, (0, yr, nf, no, nt, bd, nb, fl, AI, AN, AB, AL))
    else if AB 16 (ixn i) = true ∨ AB 17 (100 * ixn i + ixn who) = true then (-3, (0, yr, nf, no, nt, bd, nb, fl, AI, AN, AB, AL))
    else if 1 < 1 + m_cnt AB (ixn i) ∧ (AI 15 (ixn i)).toInt64 ≤ m_free AI AN AL no (AN 13 (ixn i)) then
      (if m_fits AI AN AL no (AN 13 (ixn i)) ((-AI 15 (ixn i)).toInt64) 0 0 = false ∨ m_fits AI AN AL no (AN 14 (ixn i)) ((AI 15 (ixn i)).toInt64) 0 0 = false then (-4, (0, yr, nf, no, nt, bd, nb, fl, AI, AN, AB, AL))
      else (2, (0, yr, nf, no, nt, bd, nb, fl, AI, AN, u2 (u2 AB 17 (100 * ixn i + ixn who) true) 16 (ixn i) true, u2 (u2 AL 2 (AN 13 (ixn i)) (AL 2 (AN 13 (ixn i)) - (AI 15 (ixn i)).toInt64)) 2 (AN 14 (ixn i)) (u2 AL 2 (AN 13 (ixn i)) (AL 2 (AN 13 (ixn i)) - (AI 15 (ixn i)).toInt64) 2 (AN 14 (ixn i)) + (AI 15 (ixn i)).toInt64))))
    else (1, (0, yr, nf, no, nt, bd, nb, fl, AI, AN, u2 AB 17 (100 * ixn i + ixn who) true, AL))
def m_row (u : MS) (f c : Int32) : Int32 × MS := match u with
  | (_, yr, nf, no, nt, bd, nb, fl, AI, AN, AB, AL) =>
    if inN f nf = false then (-1, (0, yr, nf, no, nt, bd, nb, fl, AI, AN, AB, AL))
    else if iw c.toInt64 (-1000000000) 1000000000 = false then (-2, (0, yr, nf, no, nt, bd, nb, fl, AI, AN, AB, AL))
    else if nb = 20 then (-4, (0, yr, nf, no, nt, bd, nb, fl, AI, AN, AB, AL))
    else (nI (nb + 1), (0, yr, nf, no, nt, bd, nb + 1, fl, u2 AI 23 nb c, u2 AN 22 nb (ixn f), AB, AL))
/-- GIVEN behind the first r rows of the batch -/
def m_posted (AI : Nat → Nat → Int32) (AN : Nat → Nat → Nat) (g : Nat → Int64) : Nat → Nat → Int64
  | 0 => g
  | r + 1 => va_up (m_posted AI AN g r) (AN 22 r) (m_posted AI AN g r (AN 22 r) + (AI 23 r).toInt64)
def m_short (AI : Nat → Nat → Int32) (AN : Nat → Nat → Nat) (AL : Nat → Nat → Int64) (no nb : Nat) (r : Nat) : Bool := decide (m_free AI AN AL no (AN 22 r) + m_bat AI AN nb (nI (AN 22 r)) < 0)
/-- the row whose fund fails, if there is one -/
def m_bad (AI : Nat → Nat → Int32) (AN : Nat → Nat → Nat) (AL : Nat → Nat → Int64) (no nb : Nat) : Option Nat :=
  match fst_ (m_short AI AN AL no nb) nb 0 with
  | some r => some r
  | none => if m_tot AI nb = 0 then none else some (nb - 1)
def m_post (u : MS) : Int32 × MS := match u with
  | (_, yr, nf, no, nt, bd, nb, fl, AI, AN, AB, AL) => match m_bad AI AN AL no nb with
    | some r => (0, (1, yr, nf, no, nt, bd, 0, nI (AN 22 r), AI, AN, AB, AL))
    | none => (nI nb, (0, yr, nf, no, nt, bd, 0, fl, AI, AN, AB, va_up AL 2 (m_posted AI AN (AL 2) nb)))
def m_failing (u : MS) : Int32 × MS := match u with
  | (_, yr, nf, no, nt, bd, nb, fl, AI, AN, AB, AL) => (fl, (0, yr, nf, no, nt, bd, nb, fl, AI, AN, AB, AL))
def m_carried (cy : Int32) (left : Int64) : Int64 := if left < 0 ∨ cy = 0 then 0 else if cy = 1 then left else left / 2
def m_close (u : MS) : Int32 × MS := match u with
  | (_, yr, nf, no, nt, bd, nb, fl, AI, AN, AB, AL) =>
    if yr = 9999 then (-3, (0, yr, nf, no, nt, bd, nb, fl, AI, AN, AB, AL))
    else (yr + 1, (0, yr + 1, nf, no, nt, bd, nb, fl, AI, AN, AB, va_up (va_up AL 2 (fun j => if j < nf then m_carried (AI 1 j) (m_free AI AN AL no j) + m_enc AI AN no (nI j) else AL 2 j)) 3 (fun j => if j < nf then 0 else AL 3 j)))
def m_about (u : MS) (f w : Int32) : Int64 × MS := match u with
  | (_, yr, nf, no, nt, bd, nb, fl, AI, AN, AB, AL) => (if inN f nf = false then -1000000000000000001 else if w = 0 then AL 2 (ixn f) else if w = 1 then m_enc AI AN no f else if w = 2 then AL 3 (ixn f) else if w = 3 then m_free AI AN AL no (ixn f) else -1000000000000000001, (0, yr, nf, no, nt, bd, nb, fl, AI, AN, AB, AL))
def m_told (u : MS) (i w : Int32) : Int64 × MS := match u with
  | (_, yr, nf, no, nt, bd, nb, fl, AI, AN, AB, AL) => (if inN i no = false then -1000000000000000001 else if w = 0 then (nI (AN 4 (ixn i))).toInt64 else if w = 1 then (AI 5 (ixn i)).toInt64 else if w = 2 then (AI 7 (ixn i)).toInt64 else if w = 3 then (AI 9 (ixn i)).toInt64 else if w = 4 then AL 10 (ixn i) else if w = 5 then (AI 11 (ixn i)).toInt64 else -1000000000000000001, (0, yr, nf, no, nt, bd, nb, fl, AI, AN, AB, AL))
def m_sum (u : MS) (w : Int32) : Int64 × MS := match u with
  | (_, yr, nf, no, nt, bd, nb, fl, AI, AN, AB, AL) => (if w = 0 then sumL (AL 2) nf else if w = 1 then yr.toInt64 else if w = 2 then (nI no).toInt64 else if w = 3 then (nI nt).toInt64 else -1, (0, yr, nf, no, nt, bd, nb, fl, AI, AN, AB, AL))
theorem inN_of {f : Int32} {n : Nat} (hn : n < 2 ^ 30) (h : inN f n = true) : ∃ j, j < n ∧ f = nI j := ix_of hn h
theorem inN_no {f : Int32} {n : Nat} (hn : n < 2 ^ 30) (h : inN f n = false) {j : Nat} (hj : j < n) : f ≠ nI j := ix_no hn h hj
theorem inN_yes {n j : Nat} (hn : n < 2 ^ 30) (hj : j < n) : inN (nI j) n = true := ix_yes hn hj
theorem inN_false {f : Int32} {n : Nat} (hn : n < 2 ^ 30) (h : ∀ j, j < n → f ≠ nI j) : inN f n = false := by
  cases q : inN f n with
  | false => rfl
  | true =>
    obtain ⟨j, hj, e⟩ := inN_of hn q
    exact absurd e (h j hj)
/-- a place of an array of N that holds n objects: which one, or null -/
theorem at_cases {x : Int32} {N n : Nat} {a : Nat → Nat} {r : Option Nat} (hn : n ≤ N) (hN : N < 2 ^ 30) (hr : r = if inN x N = true then (fun i => if i < n then some (a i) else none) x.toNatClampNeg else none) : (inN x n = false ∧ r = none) ∨ (∃ j, j < n ∧ x = nI j ∧ r = some (a j)) := by
  cases q : inN x N with
  | false =>
    refine Or.inl ⟨inN_false (by omega) (fun j hj => inN_no hN q (by omega)), ?_⟩
    rw [hr, q]
    rfl
  | true =>
    obtain ⟨j, hj, rfl⟩ := inN_of hN q
    have hc : (nI j).toNatClampNeg = j := nI_clamp (by omega)
    rw [q, if_pos rfl] at hr
    dsimp only at hr
    rw [hc] at hr
    by_cases hjn : j < n
    · rw [if_pos hjn] at hr
      exact Or.inr ⟨j, hjn, rfl, hr⟩
    · rw [if_neg hjn] at hr
      refine Or.inl ⟨inN_false (by omega) (fun i hi e => ?_), hr⟩
      have : j = i := (nI_eq (by omega) (by omega)).mp e
      omega
theorem inN_vp {f : Int32} {n : Nat} (hn : n < 2 ^ 30) (h : inN f n = true) : vp_in f n := by
  obtain ⟨j, hj, rfl⟩ := inN_of hn h
  exact vp_in_nI hj (by omega)
