/-! THE CLAIM OUT OF ONE WALK OF THE LAW'S BODY. Your part is whole_start (and what it stands on); all else here is the same for every law, but numbers. -/
def R_law : String := "FundBookLaw"
def lw_P (b : Addr) (xs : List Int32) (args : Array Value) (s : State) : Prop := args = #[.ref b] ∧ s.IntsAt b xs ∧ xs.length ≤ 2561 ∧ (Jvm.Cond.and given_1 narrow_1).before args s = true
def lw_Q (_ : Array Value) (s : State) (o : Outcome) (t : State) : Prop := o = .returned (some (.int 1)) ∧ Framed s o t [] 601024 7293000
def lw_Z (below : List Frame) (a : Array Value) (s : State) : State → Prop := fun t => ∃ o, t.status = .running ∧ Ended t below o ∧ lw_Q a s o t
/-- the law's own end, with 1 on the stack, nothing written that was there before, its room as the claim has it -/
theorem lw_ret {p : Program} {l : Launch} {e : Env} {s : State} {m : MethodId} {below : List Frame} {meth : Method} {c : Code} {b : Nat} (hx : p.tables.exec = Jvm.exec) (hb : c.code = code) (hr : meth.sig.returnType = ret) (hlocks : meth.locks = false) {pc : Nat} {H : Heap} {ls : Array Slot} (hdg : decode code pc = .ok (.ireturn, 1)) : W p l e room_1 s m #[Value.ref b] below meth c H [] 601024 7293000 (lw_Z below #[Value.ref b] s) (F0 m pc ls [.int 1]) := by
  intro T hT X
  obtain ⟨fs, hret, hrun, hended, hW, hframe⟩ := X.leave (v := some (.int 1)) (hlocks := hlocks) (fun h => by rw [hr] at h; cases h)
  have hmeth' : T.vm.method? m = some meth := X.method'
  refine ⟨T.setFrames fs, ?_, .returned (some (.int 1)), hrun, hended, rfl, ⟨_, rfl⟩, hW, hframe⟩
  jvm_step X.here [X.here.top, hx, hb, hdg, hmeth', hr, ret, narrow_b1]
  (try refine ⟨rfl, ?_⟩); (try refine ⟨rfl, ?_⟩)
  first | (intro acts; rw [hret _ acts rfl rfl rfl]) | rw [hret _ _ rfl rfl rfl]
  exact Steps.refl _
/-- what holds at the law's entry: the machine, the code, the tables' words (any of lw_tbl by 'hts w (by decide +kernel)'), the script of L ints xs at the cell b, what the Statement gives of the start (any of its parts by flat_of_before) -/
def lw_At (p : Program) (s : State) (m : MethodId) (meth : Method) (c : Code) (b L : Nat) (xs : Nat → Int32) : Prop :=
  p.tables.exec = Jvm.exec ∧ c.code = code ∧ meth.sig.returnType = ret ∧ c.maxLocals = 7 ∧ s.vm.findClass R_law = some m.cls ∧ (∀ w ∈ lw_tbl, w.before #[Value.ref b] s = true) ∧ va_X b L xs s s.heap ∧ b < s.heap.size ∧ meth.locks = false ∧ (Jvm.Cond.and given_1 narrow_1).before #[Value.ref b] s = true

set_option maxHeartbeats 4000000 in
set_option maxRecDepth 100000 in
theorem lw_loop {p : Program} {l : Launch} {e : Env} {s : State} {m : MethodId} {below : List Frame} {meth : Method} {c : Code} {b N0 : Nat} {xs : Nat → Int32} {dC : Nat → ClassId} {dI : Nat → Nat → Nat} {ad : Nat → Nat} {cA cs : Nat → ClassId} {o q3 : Nat} {k3 : ClassId} (C0 : lw_C p l s m c b N0 xs dC dI cA cs k3) (hr : meth.sig.returnType = ret) (hlocks : meth.locks = false) : ∀ (n k : Nat), k ≤ 512 → 513 ≤ k + n → ∀ (u : MS) (L : List Nat) (f : Nat → va_E) (ov : Nat → Int64) (H : Heap) (locs : List Loc) (ls : Array Slot), CS cs o u L f → va_P (dC, dI) classes (((q3, .inl (k3, 1, .inr (.inl ov))) :: va_pl L f) ++ mwS ad cA u) H → va_D (lw_A s) (((q3, .inl (k3, 1, .inr (.inl ov))) :: va_pl L f) ++ mwS ad cA u) → va_S (lw_A s) s.heap H locs → lv_has ls 7 [(0, .ref b), (1, .ref o), (2, .ref (ad 0)), (3, .ref q3), (4, .int (nI (1 + 5 * k)))] → W p l e room_1 s m #[Value.ref b] below meth c H locs (32 + 2 * k) (14046 + 11 * k) (lw_Z below #[Value.ref b] s) (F0 m 33 ls []) := by
  obtain ⟨hx, hb, hml, hown, hts, hX, hbl, hN0, hfl, hKm, hKc, hKo, hN, hXK⟩ := id C0
  have hA : ∀ q : Nat, s.heap.size ≤ q → lw_A s q := fun _ h => h
  have hbA : ¬ lw_A s b := Nat.not_le.mpr hbl
  intro n
  induction n with
  | zero =>
    intro k h1 h2
    omega
  | succ n ih =>
    intro k hk hkn u L f ov H locs ls hCS hP hD hS hl
    refine lv_iload hx hb d_Law_law_33 (lv_at hl 4 rfl) ?_
    refine lv_aload_n hx hb d_Law_law_35 rfl (lv_at hl 0 rfl) ?_
    refine va_slen hx hb hX hbl hbA hS d_Law_law_36 ?_
    refine lv_iconst (v := 5) hx hb d_Law_law_37 (by decide) ?_
    refine lv_isub hx hb d_Law_law_38 ?_
    refine lv_icmp_gt (tgt := 802) hx hb d_Law_law_39 (by decide) (fun h1 => ?_) (fun h1 => ?_)
    · refine lv_iconst (v := 1) hx hb d_Law_law_802 (by decide) ?_
      refine va_forget (fun q hq => hS.2.2 q hq) ?_
      refine W.widen (k := 601024) (n := 7293000) (by omega) (by omega) ?_
      exact lw_ret hx hb hr hlocks d_Law_law_803
    · have hi : (1 + 5 * k) + 5 ≤ N0 := Nat.not_lt.mp (fun z => h1 ((lw_cmp hN0 (by omega)).mpr z))
      obtain ⟨i, ei⟩ : ∃ i, i = 1 + 5 * k := ⟨_, rfl⟩
      rw [← ei] at hi hl
      have next : ∀ (u : MS) (L : List Nat) (f : Nat → va_E) (ov : Nat → Int64) (H : Heap) (locs : List Loc) (ls : Array Slot), CS cs o u L f → va_P (dC, dI) classes (((q3, .inl (k3, 1, .inr (.inl ov))) :: va_pl L f) ++ mwS ad cA u) H → va_D (lw_A s) (((q3, .inl (k3, 1, .inr (.inl ov))) :: va_pl L f) ++ mwS ad cA u) → va_S (lw_A s) s.heap H locs → lv_has ls 7 [(0, .ref b), (1, .ref o), (2, .ref (ad 0)), (3, .ref q3), (4, .int (nI i))] → W p l e room_1 s m #[Value.ref b] below meth c H locs (32 + 2 * k + 2) (14046 + 11 * k + 11) (lw_Z below #[Value.ref b] s) (F0 m 796 ls []) := by
        intro u L f ov H locs ls hCS hP hD hS hl
        refine lv_iinc (v := nI (1 + 5 * (k + 1))) (lv' := [(4, .int (nI (1 + 5 * (k + 1)))), (0, .ref b), (1, .ref o), (2, .ref (ad 0)), (3, .ref q3)]) hx hb d_Law_law_796 hl (k := 4) rfl ((nI_add i 5).trans (congrArg nI (by omega))) (by decide) rfl (fun ls hl => ?_)
        refine lv_goto (tgt := 33) hx hb d_Law_law_799 (by decide) ?_
        refine W.widen (k := 32 + 2 * (k + 1)) (n := 14046 + 11 * (k + 1)) (by omega) (by omega) ?_
        exact ih (k + 1) (by omega) (by omega) u L f ov H locs ls hCS hP hD hS (lv_sub hl [1, 2, 3, 4, 0] rfl)
      obtain ⟨th, yr, nf, no, nt, bd, nb, fl, AI, AN, AB, AL⟩ := u
      have hP : va_P (dC, dI) classes (((q3, .inl (k3, 1, .inr (.inl ov))) :: va_pl L f) ++ (mw ad cA th yr nf no nt bd nb fl AI AN AB AL)) H := hP
      have hD : va_D (lw_A s) (((q3, .inl (k3, 1, .inr (.inl ov))) :: va_pl L f) ++ (mw ad cA th yr nf no nt bd nb fl AI AN AB AL)) := hD
      refine lv_aload_n hx hb d_Law_law_42 rfl (lv_at hl 0 rfl) ?_
      refine lv_iload hx hb d_Law_law_43 (lv_at hl 4 rfl) ?_
      refine va_sld hx hb hX hbl hbA hS (vp_in_nI (by omega) (by omega)) d_Law_law_45 ?_
      refine lv_bipush (v := 31) hx hb d_Law_law_46 (by decide) ?_
      refine lv_iand hx hb d_Law_law_48 ?_
      generalize xs (nI i).toNatClampNeg &&& 31 = z
      by_cases s0 : z = 0
      · refine lv_tableIn (off := 83) (tgt := 132) hx hb d_Law_law_49 (by rw [s0]; decide) (by rw [s0]; decide) (by rw [s0]; decide) (by decide) ?_
        exact lw_fund C0 hi (by omega) (by omega) hCS hP hD hS hl next
      by_cases s1 : z = 1
      · refine lv_tableIn (off := 108) (tgt := 157) hx hb d_Law_law_49 (by rw [s1]; decide) (by rw [s1]; decide) (by rw [s1]; decide) (by decide) ?_
        exact lw_give C0 hi (by omega) (by omega) hCS hP hD hS hl next
      by_cases s2 : z = 2
      · refine lv_tableIn (off := 177) (tgt := 226) hx hb d_Law_law_49 (by rw [s2]; decide) (by rw [s2]; decide) (by rw [s2]; decide) (by decide) ?_
        exact lw_order C0 hi (by omega) (by omega) hCS hP hD hS hl next
      by_cases s3 : z = 3
      · refine lv_tableIn (off := 242) (tgt := 291) hx hb d_Law_law_49 (by rw [s3]; decide) (by rw [s3]; decide) (by rw [s3]; decide) (by decide) ?_
        exact lw_approve C0 hi (by omega) (by omega) hCS hP hD hS hl next
      by_cases s4 : z = 4
      · refine lv_tableIn (off := 279) (tgt := 328) hx hb d_Law_law_49 (by rw [s4]; decide) (by rw [s4]; decide) (by rw [s4]; decide) (by decide) ?_
        exact lw_invoice C0 hi (by omega) (by omega) hCS hP hD hS hl next
      by_cases s5 : z = 5
      · refine lv_tableIn (off := 341) (tgt := 390) hx hb d_Law_law_49 (by rw [s5]; decide) (by rw [s5]; decide) (by rw [s5]; decide) (by decide) ?_
        exact lw_cancel C0 hi (by omega) (by omega) hCS hP hD hS hl next
      by_cases s6 : z = 6
      · refine lv_tableIn (off := 366) (tgt := 415) hx hb d_Law_law_49 (by rw [s6]; decide) (by rw [s6]; decide) (by rw [s6]; decide) (by decide) ?_
        exact lw_band C0 hi (by omega) (by omega) hCS hP hD hS hl next
      by_cases s7 : z = 7
      · refine lv_tableIn (off := 391) (tgt := 440) hx hb d_Law_law_49 (by rw [s7]; decide) (by rw [s7]; decide) (by rw [s7]; decide) (by decide) ?_
        exact lw_currency C0 hi (by omega) (by omega) hCS hP hD hS hl next
      by_cases s8 : z = 8
      · refine lv_tableIn (off := 452) (tgt := 501) hx hb d_Law_law_49 (by rw [s8]; decide) (by rw [s8]; decide) (by rw [s8]; decide) (by decide) ?_
        exact lw_transfer C0 hi (by omega) (by omega) hCS hP hD hS hl next
      by_cases s9 : z = 9
      · refine lv_tableIn (off := 501) (tgt := 550) hx hb d_Law_law_49 (by rw [s9]; decide) (by rw [s9]; decide) (by rw [s9]; decide) (by decide) ?_
        exact lw_agree C0 hi (by omega) (by omega) hCS hP hD hS hl next
      by_cases s10 : z = 10
      · refine lv_tableIn (off := 538) (tgt := 587) hx hb d_Law_law_49 (by rw [s10]; decide) (by rw [s10]; decide) (by rw [s10]; decide) (by decide) ?_
        exact lw_row C0 hi (by omega) (by omega) hCS hP hD hS hl next
      by_cases s11 : z = 11
      · refine lv_tableIn (off := 575) (tgt := 624) hx hb d_Law_law_49 (by rw [s11]; decide) (by rw [s11]; decide) (by rw [s11]; decide) (by decide) ?_
        exact lw_post C0 hi (by omega) (by omega) hCS hP hD hS hl next
      by_cases s12 : z = 12
      · refine lv_tableIn (off := 619) (tgt := 668) hx hb d_Law_law_49 (by rw [s12]; decide) (by rw [s12]; decide) (by rw [s12]; decide) (by decide) ?_
        exact lw_failing C0 hi (by omega) (by omega) hCS hP hD hS hl next
      by_cases s13 : z = 13
      · refine lv_tableIn (off := 632) (tgt := 681) hx hb d_Law_law_49 (by rw [s13]; decide) (by rw [s13]; decide) (by rw [s13]; decide) (by decide) ?_
        exact lw_close C0 hi (by omega) (by omega) hCS hP hD hS hl next
      by_cases s14 : z = 14
      · refine lv_tableIn (off := 645) (tgt := 694) hx hb d_Law_law_49 (by rw [s14]; decide) (by rw [s14]; decide) (by rw [s14]; decide) (by decide) ?_
        exact lw_about C0 hi (by omega) (by omega) hCS hP hD hS hl next
      by_cases s15 : z = 15
      · refine lv_tableIn (off := 683) (tgt := 732) hx hb d_Law_law_49 (by rw [s15]; decide) (by rw [s15]; decide) (by rw [s15]; decide) (by decide) ?_
        exact lw_told C0 hi (by omega) (by omega) hCS hP hD hS hl next
      by_cases s16 : z = 16
      · refine lv_tableIn (off := 721) (tgt := 770) hx hb d_Law_law_49 (by rw [s16]; decide) (by rw [s16]; decide) (by rw [s16]; decide) (by decide) ?_
        exact lw_sum C0 hi (by omega) (by omega) hCS hP hD hS hl next
      have t0 := lv_neT s0 (show (0 : Int32).toInt = 0 by decide)
      have t1 := lv_neT s1 (show (1 : Int32).toInt = 1 by decide)
      have t2 := lv_neT s2 (show (2 : Int32).toInt = 2 by decide)
      have t3 := lv_neT s3 (show (3 : Int32).toInt = 3 by decide)
      have t4 := lv_neT s4 (show (4 : Int32).toInt = 4 by decide)
      have t5 := lv_neT s5 (show (5 : Int32).toInt = 5 by decide)
      have t6 := lv_neT s6 (show (6 : Int32).toInt = 6 by decide)
      have t7 := lv_neT s7 (show (7 : Int32).toInt = 7 by decide)
      have t8 := lv_neT s8 (show (8 : Int32).toInt = 8 by decide)
      have t9 := lv_neT s9 (show (9 : Int32).toInt = 9 by decide)
      have t10 := lv_neT s10 (show (10 : Int32).toInt = 10 by decide)
      have t11 := lv_neT s11 (show (11 : Int32).toInt = 11 by decide)
      have t12 := lv_neT s12 (show (12 : Int32).toInt = 12 by decide)
      have t13 := lv_neT s13 (show (13 : Int32).toInt = 13 by decide)
      have t14 := lv_neT s14 (show (14 : Int32).toInt = 14 by decide)
      have t15 := lv_neT s15 (show (15 : Int32).toInt = 15 by decide)
      have t16 := lv_neT s16 (show (16 : Int32).toInt = 16 by decide)
      refine lv_tableOut (tgt := 796) hx hb d_Law_law_49 (by omega) (by decide) ?_
      refine W.widen (k := 32 + 2 * k + 2) (n := 14046 + 11 * k + 11) (by omega) (by omega) ?_
      exact next (th, yr, nf, no, nt, bd, nb, fl, AI, AN, AB, AL) L f ov H locs ls hCS hP hD hS hl
