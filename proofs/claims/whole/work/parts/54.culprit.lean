theorem d_Ba_culprit_0 : decode b_Ba_culprit 0 = .ok (.aconst_null, 1) := by decide +kernel
theorem d_Ba_culprit_1 : decode b_Ba_culprit 1 = .ok (.astore_n 1, 1) := by decide +kernel
theorem d_Ba_culprit_2 : decode b_Ba_culprit 2 = .ok (.aload_n 0, 1) := by decide +kernel
theorem d_Ba_culprit_3 : decode b_Ba_culprit 3 = .ok (.getfield 11, 3) := by decide +kernel
theorem d_Ba_culprit_6 : decode b_Ba_culprit 6 = .ok (.astore_n 2, 1) := by decide +kernel
theorem d_Ba_culprit_7 : decode b_Ba_culprit 7 = .ok (.aload_n 2, 1) := by decide +kernel
theorem d_Ba_culprit_8 : decode b_Ba_culprit 8 = .ok (.arraylength, 1) := by decide +kernel
theorem d_Ba_culprit_9 : decode b_Ba_culprit 9 = .ok (.istore_n 3, 1) := by decide +kernel
theorem d_Ba_culprit_10 : decode b_Ba_culprit 10 = .ok (.iconst 0, 1) := by decide +kernel
theorem d_Ba_culprit_11 : decode b_Ba_culprit 11 = .ok (.istore 4, 2) := by decide +kernel
theorem d_Ba_culprit_13 : decode b_Ba_culprit 13 = .ok (.iload 4, 2) := by decide +kernel
theorem d_Ba_culprit_15 : decode b_Ba_culprit 15 = .ok (.iload_n 3, 1) := by decide +kernel
theorem d_Ba_culprit_16 : decode b_Ba_culprit 16 = .ok (.if_icmp .ge 42, 3) := by decide +kernel
theorem d_Ba_culprit_19 : decode b_Ba_culprit 19 = .ok (.aload_n 2, 1) := by decide +kernel
theorem d_Ba_culprit_20 : decode b_Ba_culprit 20 = .ok (.iload 4, 2) := by decide +kernel
theorem d_Ba_culprit_22 : decode b_Ba_culprit 22 = .ok (.aaload, 1) := by decide +kernel
theorem d_Ba_culprit_23 : decode b_Ba_culprit 23 = .ok (.astore 5, 2) := by decide +kernel
theorem d_Ba_culprit_25 : decode b_Ba_culprit 25 = .ok (.aload 5, 2) := by decide +kernel
theorem d_Ba_culprit_27 : decode b_Ba_culprit 27 = .ok (.ifnull 25, 3) := by decide +kernel
theorem d_Ba_culprit_30 : decode b_Ba_culprit 30 = .ok (.aload 5, 2) := by decide +kernel
theorem d_Ba_culprit_32 : decode b_Ba_culprit 32 = .ok (.invokevirtual 32, 3) := by decide +kernel
theorem d_Ba_culprit_35 : decode b_Ba_culprit 35 = .ok (.aload 5, 2) := by decide +kernel
theorem d_Ba_culprit_37 : decode b_Ba_culprit 37 = .ok (.getfield 25, 3) := by decide +kernel
theorem d_Ba_culprit_40 : decode b_Ba_culprit 40 = .ok (.ladd, 1) := by decide +kernel
theorem d_Ba_culprit_41 : decode b_Ba_culprit 41 = .ok (.lconst 0, 1) := by decide +kernel
theorem d_Ba_culprit_42 : decode b_Ba_culprit 42 = .ok (.lcmp, 1) := by decide +kernel
theorem d_Ba_culprit_43 : decode b_Ba_culprit 43 = .ok (.ifCond .ge 6, 3) := by decide +kernel
theorem d_Ba_culprit_46 : decode b_Ba_culprit 46 = .ok (.aload 5, 2) := by decide +kernel
theorem d_Ba_culprit_48 : decode b_Ba_culprit 48 = .ok (.areturn, 1) := by decide +kernel
theorem d_Ba_culprit_49 : decode b_Ba_culprit 49 = .ok (.aload 5, 2) := by decide +kernel
theorem d_Ba_culprit_51 : decode b_Ba_culprit 51 = .ok (.astore_n 1, 1) := by decide +kernel
theorem d_Ba_culprit_52 : decode b_Ba_culprit 52 = .ok (.iinc 4 1, 3) := by decide +kernel
theorem d_Ba_culprit_55 : decode b_Ba_culprit 55 = .ok (.goto (-42), 3) := by decide +kernel
theorem d_Ba_culprit_58 : decode b_Ba_culprit 58 = .ok (.aload_n 0, 1) := by decide +kernel
theorem d_Ba_culprit_59 : decode b_Ba_culprit 59 = .ok (.getfield 29, 3) := by decide +kernel
theorem d_Ba_culprit_62 : decode b_Ba_culprit 62 = .ok (.lconst 0, 1) := by decide +kernel
theorem d_Ba_culprit_63 : decode b_Ba_culprit 63 = .ok (.lcmp, 1) := by decide +kernel
theorem d_Ba_culprit_64 : decode b_Ba_culprit 64 = .ok (.ifCond .ne 7, 3) := by decide +kernel
theorem d_Ba_culprit_67 : decode b_Ba_culprit 67 = .ok (.aconst_null, 1) := by decide +kernel
theorem d_Ba_culprit_68 : decode b_Ba_culprit 68 = .ok (.goto 4, 3) := by decide +kernel
theorem d_Ba_culprit_71 : decode b_Ba_culprit 71 = .ok (.aload_n 1, 1) := by decide +kernel
theorem d_Ba_culprit_72 : decode b_Ba_culprit 72 = .ok (.areturn, 1) := by decide +kernel
set_option maxHeartbeats 4000000 in
set_option maxRecDepth 100000 in
theorem lp_Ba_culprit {p : Program} {l : Launch} {e : Env} {s : State} {m : MethodId} {args : Array Value} {below : List Frame} {meth : Method} {c : Code} {Q : State → Prop} {H : Heap} {locs : List Loc} {dC : Nat → ClassId} {dI : Nat → Nat → Nat} {cs : Nat → ClassId} {th yr : Int32} {nf no nt : Nat} {bd : Int32} {nb : Nat} {fl : Int32} {AI : Nat → Nat → Int32} {AN : Nat → Nat → Nat} {AB : Nat → Nat → Bool} {AL : Nat → Nat → Int64} {L : List Nat} {f : Nat → va_E} {ad : Nat → Nat → Nat} {rx : Nat → Nat → Nat} (hx : p.tables.exec = Jvm.exec) (hb : c.code = b_Ba_culprit) (hml : c.maxLocals = 6) (hown : s.vm.findClass R_Ba = some m.cls) (hts : ∀ w ∈ w_Ba_culprit, w.before args s = true) (hK : va_K (dC, dI) classes (ctys cs) s) (hN : NK s) (hP : va_P (dC, dI) classes (va_pl L f) H) (hnb : nb ≤ 20) (hbf : ∀ r, r < nb → AN 22 r < nf) (hm06 : ad 0 6 ∈ L) (he06 : f (ad 0 6) = .inl ((cs 4), 20, .inr (.inr (.inr (.inr (fun r => if r < nb then some (ad 1 (AN 22 r)) else none)))))) (hac : ∀ j, j < nf → ad 1 j ∈ L ∧ f (ad 1 j) = .inr (1, [.int (nI j), .int (AI 1 j), .long (AL 2 j), .long (m_enc AI AN no (nI j)), .long (AL 3 j), .long (m_bat AI AN nb (nI j))]))
    (ex0 : ∀ ls : Array Slot, fst_ (m_short AI AN AL no nb) nb 0 = none → lv_has ls 6 [(1, va_rf (if min 20 nb = 0 then none else some (ad 1 (AN 22 (min 20 nb - 1))))), (0, .ref (ad 0 5))] → W p l e { frames := 1, cells := 0, slots := 0, locals := 20 } s m args below meth c H locs 0 0 Q (F0 m 58 ls []))
    (ex1 : ∀ (ls : Array Slot) (r : Nat), r < nb → fst_ (m_short AI AN AL no nb) nb 0 = some r → lv_has ls 6 [(5, .ref (ad 1 (AN 22 r)))] → W p l e { frames := 1, cells := 0, slots := 0, locals := 20 } s m args below meth c H locs 0 0 Q (F0 m 46 ls [])) :
    ∀ k9 i : Nat, i ≤ 20 → 20 + 1 ≤ i + k9 → fst_ (m_short AI AN AL no nb) nb 0 = fst_ (m_short AI AN AL no nb) (nb - min i nb) (min i nb) → ∀ ls : Array Slot, lv_has ls 6 [(4, .int (nI i)), (3, .int (nI 20)), (2, .ref (ad 0 6)), (1, va_rf (if min i nb = 0 then none else some (ad 1 (AN 22 (min i nb - 1))))), (0, .ref (ad 0 5))] → W p l e { frames := 1, cells := 0, slots := 0, locals := 20 } s m args below meth c H locs 0 0 Q (F0 m 13 ls []) := by
  have hG := fun (w : Cond) (h : w ∈ wG) => hts w (List.mem_cons_of_mem _ h)
  intro k9
  induction k9 with
  | zero =>
    intro i h1 h2
    omega
  | succ k9 ih =>
    intro i hi hin hst ls hl
    refine lv_iload hx hb d_Ba_culprit_13 (lv_at hl 0 rfl) ?_
    refine lv_iload_n hx hb d_Ba_culprit_15 rfl (lv_at hl 1 rfl) ?_
    refine lv_icmp_ge (tgt := 58) hx hb d_Ba_culprit_16 (by decide) (fun c_1 => ?_) (fun c_1 => ?_)
    · obtain rfl : i = 20 := by have := (nI_leI (by omega) (by omega)).mp c_1; omega
      refine ex0 ls (hst.trans ?_) (lv_sub hl [3, 4] rfl)
      rw [show nb - min 20 nb = 0 by omega]; rfl
    · have hlt : i < 20 := by have h9 := c_1; rw [nI_leI (by omega) (by omega)] at h9; omega
      refine lv_aload_n hx hb d_Ba_culprit_19 rfl (lv_at hl 2 rfl) ?_
      refine lv_iload hx hb d_Ba_culprit_20 (lv_at hl 0 rfl) ?_
      refine fw_ald (D := (dC, dI)) (C := "FundBook$Account") (n := 20) (g := (fun r => if r < nb then some (ad 1 (AN 22 r)) else none)) hx hb hK hP hm06 4 he06 rfl (vp_in_nI (by omega) (by omega)) d_Ba_culprit_22 ?_
      rw [nI_clamp (by omega)]
      by_cases hj : i < nb
      · refine W.eq (g2 := F0 m 23 ls [.ref (ad 1 (AN 22 i))]) (congrArg (fun z => F0 m 23 ls [va_rf z]) (if_pos hj)) ?_
        obtain ⟨hm_a, he_a⟩ := hac (AN 22 i) (hbf i hj)
        rw [show min i nb = i by omega] at hst
        refine lv_astore (lv' := [(5, .ref (ad 1 (AN 22 i))), (4, .int (nI i)), (3, .int (nI 20)), (2, .ref (ad 0 6)), (1, va_rf (if min i nb = 0 then none else some (ad 1 (AN 22 (min i nb - 1))))), (0, .ref (ad 0 5))]) hx hb d_Ba_culprit_23 hl (by decide) rfl (fun ls hl => ?_)
        refine lv_aload hx hb d_Ba_culprit_25 (lv_at hl 0 rfl) ?_
        refine lv_ifnull hx hb d_Ba_culprit_27 ?_
        refine lv_aload hx hb d_Ba_culprit_30 (lv_at hl 0 rfl) ?_
        refine rd_calll (va_runV (As := []) (rest := []) ⟨hx, hb, hml, hown, hts⟩ (c_Ac_free l dC dI (ctys cs) L f (ad 1 (AN 22 i)) (nI (AN 22 i)) (AI 1 (AN 22 i)) (AL 2 (AN 22 i)) (m_enc AI AN no (nI (AN 22 i))) (AL 3 (AN 22 i)) (m_bat AI AN nb (nI (AN 22 i))) hm_a he_a) (cwV 0 hts (gd_V k_446 k_160 k_161 k_18 k_162) rfl rfl rfl (by decide +kernel) ⟨Nat.le_of_ble_eq_true rfl, Nat.le_of_ble_eq_true rfl⟩) (fw_preV hK hN hP rfl hm_a he_a) rfl rfl hl.1 rfl (lv_room (Nat.le_of_ble_eq_true rfl)) d_Ba_culprit_32 ⟨Nat.zero_le _, Nat.zero_le _⟩) (fun r_2 hr_2 => ?_)
        subst hr_2
        refine lv_aload hx hb d_Ba_culprit_35 (lv_at hl 0 rfl) ?_
        refine fw_getN (D := (dC, dI)) (ci := 1) (v := .long (m_bat AI AN nb (nI (AN 22 i)))) (C := R_Ac) (T := F_Ac) (N := 6) hx hb hG iG_Ac hown hK hP hm_a he_a rfl 5 (by decide) (hN.use k_127) (fun _ h9 => h9) rfl d_Ba_culprit_37 ?_
        refine lv_ladd hx hb d_Ba_culprit_40 ?_
        refine lv_lconst (v := 0) hx hb d_Ba_culprit_41 (by decide) ?_
        refine lc_ge (tgt := 49) hx hb d_Ba_culprit_42 d_Ba_culprit_43 (by decide) (fun c_3 => ?_) (fun c_3 => ?_)
        · refine lv_aload hx hb d_Ba_culprit_49 (lv_at hl 0 rfl) ?_
          refine lv_astore_n (lv' := [(1, .ref (ad 1 (AN 22 i))), (5, .ref (ad 1 (AN 22 i))), (4, .int (nI i)), (3, .int (nI 20)), (2, .ref (ad 0 6)), (0, .ref (ad 0 5))]) hx hb d_Ba_culprit_51 rfl hl (by decide) rfl (fun ls hl => ?_)
          refine lv_iinc (v := nI (i + 1)) (lv' := [(4, .int (nI (i + 1))), (1, .ref (ad 1 (AN 22 i))), (5, .ref (ad 1 (AN 22 i))), (3, .int (nI 20)), (2, .ref (ad 0 6)), (0, .ref (ad 0 5))]) hx hb d_Ba_culprit_52 hl (k := 2) rfl (nI_1 i) (by decide) rfl (fun ls hl => ?_)
          refine lv_goto (tgt := 13) hx hb d_Ba_culprit_55 (by decide) ?_
          have hsh : m_short AI AN AL no nb i = false := decide_eq_false (Int64.not_lt.mpr c_3)
          have hmn : min (i + 1) nb = i + 1 := by omega
          exact ih (i + 1) (by omega) (by omega) (by rw [hmn, ← fst_f hj hsh]; exact hst) ls (by rw [hmn, if_neg (Nat.succ_ne_zero i), Nat.add_sub_cancel]; exact lv_sub hl [0, 3, 4, 1, 5] rfl)
        · have hsh : m_short AI AN AL no nb i = true := decide_eq_true (Int64.not_le.mp c_3)
          exact ex1 ls i hj (hst.trans (fst_t hj hsh)) (lv_sub hl [0] rfl)
      · refine W.eq (g2 := F0 m 23 ls [.null]) (congrArg (fun z => F0 m 23 ls [va_rf z]) (if_neg hj)) ?_
        refine lv_astoreN (lv' := [(5, .null), (4, .int (nI i)), (3, .int (nI 20)), (2, .ref (ad 0 6)), (1, va_rf (if min i nb = 0 then none else some (ad 1 (AN 22 (min i nb - 1))))), (0, .ref (ad 0 5))]) hx hb d_Ba_culprit_23 hl (by decide) rfl (fun ls hl => ?_)
        refine lv_aloadN hx hb d_Ba_culprit_25 (lv_at hl 0 rfl) ?_
        refine lv_ifnullN (tgt := 52) hx hb d_Ba_culprit_27 (by decide) ?_
        refine lv_iinc (v := nI (i + 1)) (lv' := [(4, .int (nI (i + 1))), (5, .null), (3, .int (nI 20)), (2, .ref (ad 0 6)), (1, va_rf (if min i nb = 0 then none else some (ad 1 (AN 22 (min i nb - 1))))), (0, .ref (ad 0 5))]) hx hb d_Ba_culprit_52 hl (k := 1) rfl (nI_1 i) (by decide) rfl (fun ls hl => ?_)
        refine lv_goto (tgt := 13) hx hb d_Ba_culprit_55 (by decide) ?_
        have hmn : min (i + 1) nb = min i nb := by omega
        exact ih (i + 1) (by omega) (by omega) (by rw [hmn]; exact hst) ls (by rw [hmn]; exact lv_sub hl [0, 2, 3, 4, 5] rfl)
set_option maxHeartbeats 4000000 in
set_option maxRecDepth 100000 in
theorem c_Ba_culprit (l : Launch) (dC : Nat → ClassId) (dI : Nat → Nat → Nat) (cs : Nat → ClassId) (th yr : Int32) (nf no nt : Nat) (bd : Int32) (nb : Nat) (fl : Int32) (AI : Nat → Nat → Int32) (AN : Nat → Nat → Nat) (AB : Nat → Nat → Bool) (AL : Nat → Nat → Int64) (L : List Nat) (f : Nat → va_E) (n : Nat → Nat) (ad : Nat → Nat → Nat) (e0 : Nat → Nat → va_E) (bl : Nat → Nat → Int64) (rx : Nat → Nat → Nat) (hC : CP n ad e0 L f) (hR : SR n ad e0 cs bl rx yr nf no nt bd nb fl AI AN AB AL) (hM : InvM nf no nt nb AI AN) (hB : InvB no nt AI AB bl) (hZ : InvS nf no nt yr AI AB AL) : Met l y_Ba_culprit w_Ba_culprit { frames := 1, cells := 0, slots := 0, locals := 20 } (rd_P (dC, dI) classes (ctys cs) (va_pl L f) [.ref (ad 0 5)]) (va_Sq (fun r => r = (m_bad AI AN AL no nb).map (fun r => ad 1 (AN 22 r)))) 0 0 (fun _ => False) := by
  obtain ⟨⟨n0, n1, n2, n3, n4, n5⟩, e00, e01, e02, e03, e04, e05, e06, e1, e2, e3, e4, e5, e6⟩ := id hR
  obtain ⟨hnf, hno, hnt, hnb, hfu, hft, hbf, hrw, hce, hdn⟩ := id hM
  have hm00 : ad 0 0 ∈ L := (hC.1 0 0 (by rw [n0]; decide)).1
  have he00 : f (ad 0 0) = .inr (0, [.ref (ad 0 1), .ref (ad 0 2), .ref (ad 0 3), .ref (ad 0 4), .ref (ad 0 5), .int (nI nf), .int (nI no), .int (nI nt), .int yr, .int bd, .int fl]) := (hC.1 0 0 (by rw [n0]; decide)).2.trans e00
  have hm01 : ad 0 1 ∈ L := (hC.1 0 1 (by rw [n0]; decide)).1
  have he01 : f (ad 0 1) = .inl ((cs 0), 30, .inr (.inr (.inr (.inr (fun i => if i < nf then some (ad 1 i) else none))))) := (hC.1 0 1 (by rw [n0]; decide)).2.trans e01
  have hm02 : ad 0 2 ∈ L := (hC.1 0 2 (by rw [n0]; decide)).1
  have he02 : f (ad 0 2) = .inl ((cs 1), 300, .inr (.inr (.inr (.inr (fun i => if i < no then some (ad 2 i) else none))))) := (hC.1 0 2 (by rw [n0]; decide)).2.trans e02
  have hm03 : ad 0 3 ∈ L := (hC.1 0 3 (by rw [n0]; decide)).1
  have he03 : f (ad 0 3) = .inl ((cs 2), 100, .inr (.inr (.inr (.inr (fun i => if i < nt then some (ad 4 i) else none))))) := (hC.1 0 3 (by rw [n0]; decide)).2.trans e03
  have hm04 : ad 0 4 ∈ L := (hC.1 0 4 (by rw [n0]; decide)).1
  have he04 : f (ad 0 4) = .inl ((cs 3), 10, .inr (.inr (.inr (.inr (fun c => if AN 18 c = 0 then none else some (ad 6 (rx c (AN 18 c - 1)))))))) := (hC.1 0 4 (by rw [n0]; decide)).2.trans e04
  have hm05 : ad 0 5 ∈ L := (hC.1 0 5 (by rw [n0]; decide)).1
  have he05 : f (ad 0 5) = .inr (6, [.ref (ad 0 6), .int (nI nb), .long (m_tot AI nb)]) := (hC.1 0 5 (by rw [n0]; decide)).2.trans e05
  have hm06 : ad 0 6 ∈ L := (hC.1 0 6 (by rw [n0]; decide)).1
  have he06 : f (ad 0 6) = .inl ((cs 4), 20, .inr (.inr (.inr (.inr (fun r => if r < nb then some (ad 1 (AN 22 r)) else none))))) := (hC.1 0 6 (by rw [n0]; decide)).2.trans e06
  refine Met.ofW (cc := b_Ba_culprit) (maxL := 6) (ret := (some (.object "FundBook$Account"))) (by decide) rfl ?_
  intro p e s m args below meth c s₁ B hml hv
  obtain ⟨rfl, hP, hK, hN⟩ := hv
  have hx := B.exec
  have hb := B.bytes
  have hr := B.returns
  have hts := atoms_spec (ws := w_Ba_culprit) B.pre
  have hG := fun (w : Cond) (h : w ∈ wG) => hts w (List.mem_cons_of_mem _ h)
  have hown : s.vm.findClass R_Ba = some m.cls := findClass_of_methodNamed B.named
  have hlocks := B.notSynchronized
  have hl := lv_entry ([.ref (ad 0 5)]) (n := 6) (Nat.le_of_ble_eq_true rfl)
  rw [lg_entry_eq]
  generalize (lg_sl ([.ref (ad 0 5)]) ++ List.replicate (6 - (lg_sl ([.ref (ad 0 5)])).length) Slot.unset).toArray = ls at hl ⊢
  have hl : lv_has ls 6 [(0, .ref (ad 0 5))] := hl
  refine lv_null hx hb d_Ba_culprit_0 ?_
  refine lv_astore_nN (lv' := [(1, .null), (0, .ref (ad 0 5))]) hx hb d_Ba_culprit_1 rfl hl (by decide) rfl (fun ls hl => ?_)
  refine lv_aload_n hx hb d_Ba_culprit_2 rfl (lv_at hl 1 rfl) ?_
  refine fw_get (D := (dC, dI)) (ci := 6) (v := .ref (ad 0 6)) (C := R_Ba) (T := F_Ba) (N := 3) hx hb hG iG_Ba hown hK hP hm05 he05 rfl 0 (by decide) (hG _ k_50) (fun _ h9 => h9) rfl d_Ba_culprit_3 ?_
  refine lv_astore_n (lv' := [(2, .ref (ad 0 6)), (1, .null), (0, .ref (ad 0 5))]) hx hb d_Ba_culprit_6 rfl hl (by decide) rfl (fun ls hl => ?_)
  refine lv_aload_n hx hb d_Ba_culprit_7 rfl (lv_at hl 0 rfl) ?_
  refine fw_alen (D := (dC, dI)) (v := nI 20) hx hb hK hP hm06 4 he06 rfl rfl d_Ba_culprit_8 ?_
  refine lv_istore_n (lv' := [(3, .int (nI 20)), (2, .ref (ad 0 6)), (1, .null), (0, .ref (ad 0 5))]) hx hb d_Ba_culprit_9 rfl hl (by decide) rfl (fun ls hl => ?_)
  refine lv_iconst (v := 0) hx hb d_Ba_culprit_10 (by decide) ?_
  refine lv_istore (lv' := [(4, .int 0), (3, .int (nI 20)), (2, .ref (ad 0 6)), (1, .null), (0, .ref (ad 0 5))]) hx hb d_Ba_culprit_11 hl (by decide) rfl (fun ls hl => ?_)
  refine lp_Ba_culprit (th := th) (yr := yr) (nf := nf) (no := no) (nt := nt) (bd := bd) (nb := nb) (fl := fl) (AI := AI) (AN := AN) (AB := AB) (AL := AL) (ad := ad) (rx := rx) hx hb hml hown hts hK hN hP hnb hbf hm06 he06 (fun j hj => ⟨(hC.1 1 j (by rw [n1]; exact hj)).1, (hC.1 1 j (by rw [n1]; exact hj)).2.trans (e1 j hj)⟩) (fun ls hfs hl => ?_) (fun ls r hr9 hfs hl => ?_) 21 0 (by omega) (by omega) (by rw [show min 0 nb = 0 by omega]; rfl) ls (by rw [show min 0 nb = 0 by omega, if_pos rfl]; exact lv_sub hl [0, 1, 2, 3, 4] rfl)
  · rw [show min 20 nb = nb by omega] at hl
    refine lv_aload_n hx hb d_Ba_culprit_58 rfl (lv_at hl 1 rfl) ?_
    refine fw_get (D := (dC, dI)) (ci := 6) (v := .long (m_tot AI nb)) (C := R_Ba) (T := F_Ba) (N := 3) hx hb hG iG_Ba hown hK hP hm05 he05 rfl 2 (by decide) (hG _ k_53) (fun _ h9 => h9) rfl d_Ba_culprit_59 ?_
    refine lv_lconst (v := 0) hx hb d_Ba_culprit_62 (by decide) ?_
    refine lc_ne (tgt := 71) hx hb d_Ba_culprit_63 d_Ba_culprit_64 (by decide) (fun c_1 => ?_) (fun c_1 => ?_)
    · have hn0 : ¬ nb = 0 := fun q => c_1 (by rw [q]; rfl)
      rw [if_neg hn0] at hl
      have hl : lv_has ls 6 [(1, .ref (ad 1 (AN 22 (nb - 1)))), (0, .ref (ad 0 5))] := hl
      refine lv_aload_n hx hb d_Ba_culprit_71 rfl (lv_at hl 0 rfl) ?_
      exact W.aret (v := .ref (ad 1 (AN 22 (nb - 1)))) hx hb hr (Or.inl ⟨_, rfl⟩) (Or.inr ⟨_, rfl⟩) (fun t ht hW => ⟨some (ad 1 (AN 22 (nb - 1))), rfl, (by rw [bad_sum hfs c_1]; rfl), ht⟩) (fun q h => by cases h) d_Ba_culprit_72
    · refine lv_null hx hb d_Ba_culprit_67 ?_
      refine lv_goto (tgt := 72) hx hb d_Ba_culprit_68 (by decide) ?_
      exact W.aret (v := .null) hx hb hr (Or.inl ⟨_, rfl⟩) (Or.inl rfl) (fun t ht hW => ⟨none, rfl, (by rw [bad_none hfs c_1]; rfl), ht⟩) (fun q h => by cases h) d_Ba_culprit_72
  · refine lv_aload hx hb d_Ba_culprit_46 (lv_at hl 0 rfl) ?_
    exact W.aret (v := .ref (ad 1 (AN 22 r))) hx hb hr (Or.inl ⟨_, rfl⟩) (Or.inr ⟨_, rfl⟩) (fun t ht hW => ⟨some (ad 1 (AN 22 r)), rfl, (by rw [bad_some hfs]; rfl), ht⟩) (fun q h => by cases h) d_Ba_culprit_48
