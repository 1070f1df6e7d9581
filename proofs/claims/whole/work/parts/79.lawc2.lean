set_option maxHeartbeats 4000000 in
set_option maxRecDepth 100000 in
theorem lw_transfer {p : Program} {l : Launch} {e : Env} {s : State} {m : MethodId} {below : List Frame} {meth : Method} {c : Code} {Q : State → Prop} {b N0 : Nat} {xs : Nat → Int32} {dC : Nat → ClassId} {dI : Nat → Nat → Nat} {ad : Nat → Nat} {cA cs : Nat → ClassId} {o q3 : Nat} {k3 : ClassId} {th yr : Int32} {nf no nt : Nat} {bd : Int32} {nb : Nat} {fl : Int32} {AI : Nat → Nat → Int32} {AN : Nat → Nat → Nat} {AB : Nat → Nat → Bool} {AL : Nat → Nat → Int64} {L : List Nat} {f : Nat → va_E} {ov : Nat → Int64} {i cells slots : Nat} {H : Heap} {locs : List Loc} {ls : Array Slot} (C0 : lw_C p l s m c b N0 xs dC dI cA cs k3) (hi : i + 5 ≤ N0) (hc1 : cells + 2 ≤ 601024) (hs1 : slots + 11 ≤ 7293000) (hCS : CS cs o (th, yr, nf, no, nt, bd, nb, fl, AI, AN, AB, AL) L f) (hP : va_P (dC, dI) classes (((q3, .inl (k3, 1, .inr (.inl ov))) :: va_pl L f) ++ (mw ad cA th yr nf no nt bd nb fl AI AN AB AL)) H) (hD : va_D (lw_A s) (((q3, .inl (k3, 1, .inr (.inl ov))) :: va_pl L f) ++ (mw ad cA th yr nf no nt bd nb fl AI AN AB AL))) (hS : va_S (lw_A s) s.heap H locs) (hl : lv_has ls 7 [(0, .ref b), (1, .ref o), (2, .ref (ad 0)), (3, .ref q3), (4, .int (nI i))])
    (kk : ∀ (u : MS) (L : List Nat) (f : Nat → va_E) (ov : Nat → Int64) (H : Heap) (locs : List Loc) (ls : Array Slot), CS cs o u L f → va_P (dC, dI) classes (((q3, .inl (k3, 1, .inr (.inl ov))) :: va_pl L f) ++ mwS ad cA u) H → va_D (lw_A s) (((q3, .inl (k3, 1, .inr (.inl ov))) :: va_pl L f) ++ mwS ad cA u) → va_S (lw_A s) s.heap H locs → lv_has ls 7 [(0, .ref b), (1, .ref o), (2, .ref (ad 0)), (3, .ref q3), (4, .int (nI i))] → W p l e room_1 s m #[Value.ref b] below meth c H locs (cells + 2) (slots + 11) Q (F0 m 796 ls [])) : W p l e room_1 s m #[Value.ref b] below meth c H locs cells slots Q (F0 m 501 ls []) := by
  obtain ⟨hx, hb, hml, hown, hts, hX, hbl, hN0, hfl, hKm, hKc, hKo, hN, hXK⟩ := C0
  have hG := fun (w : Cond) (h : w ∈ wG) => hts w (List.mem_cons_of_mem _ h)
  have hA : ∀ q : Nat, s.heap.size ≤ q → lw_A s q := fun _ h => h
  have hbA : ¬ lw_A s b := Nat.not_le.mpr hbl
  obtain ⟨hmo, fs, heo⟩ := hCS.recv
  have hI : InvM nf no nt nb AI AN := hCS.inv
  refine lv_aload_n hx hb d_Law_law_501 rfl (lv_at hl 1 rfl) ?_
  refine lv_aload_n hx hb d_Law_law_502 rfl (lv_at hl 0 rfl) ?_
  refine lv_iload hx hb d_Law_law_503 (lv_at hl 4 rfl) ?_
  refine lv_iconst (v := 1) hx hb d_Law_law_505 (by decide) ?_
  refine lv_iadd hx hb d_Law_law_506 ?_
  refine lv_topI (y := nI (i + 1)) (nI_add i 1) ?_
  refine va_sld hx hb hX hbl hbA hS (vp_in_nI (by omega) (by omega)) d_Law_law_507 ?_
  rw [nI_clamp (by omega)]
  refine lv_aload_n hx hb d_Law_law_508 rfl (lv_at hl 0 rfl) ?_
  refine lv_iload hx hb d_Law_law_509 (lv_at hl 4 rfl) ?_
  refine lv_iconst (v := 2) hx hb d_Law_law_511 (by decide) ?_
  refine lv_iadd hx hb d_Law_law_512 ?_
  refine lv_topI (y := nI (i + 2)) (nI_add i 2) ?_
  refine va_sld hx hb hX hbl hbA hS (vp_in_nI (by omega) (by omega)) d_Law_law_513 ?_
  rw [nI_clamp (by omega)]
  refine lv_aload_n hx hb d_Law_law_514 rfl (lv_at hl 0 rfl) ?_
  refine lv_iload hx hb d_Law_law_515 (lv_at hl 4 rfl) ?_
  refine lv_iconst (v := 3) hx hb d_Law_law_517 (by decide) ?_
  refine lv_iadd hx hb d_Law_law_518 ?_
  refine lv_topI (y := nI (i + 3)) (nI_add i 3) ?_
  refine va_sld hx hb hX hbl hbA hS (vp_in_nI (by omega) (by omega)) d_Law_law_519 ?_
  rw [nI_clamp (by omega)]
  have hP : va_P (dC, dI) classes ([(q3, .inl (k3, 1, .inr (.inl ov)))] ++ (va_pl L f ++ (mw ad cA th yr nf no nt bd nb fl AI AN AB AL))) H := hP
  have hD : va_D (lw_A s) ([(q3, .inl (k3, 1, .inr (.inl ov)))] ++ (va_pl L f ++ (mw ad cA th yr nf no nt bd nb fl AI AN AB AL))) := hD
  refine pt_calli (wa := [(q3, .inl (k3, 1, .inr (.inl ov)))]) (wc := va_pl L f) (wb := (mw ad cA th yr nf no nt bd nb fl AI AN AB AL)) (va_runV (As := [.int (xs (i + 1)), .int (xs (i + 2)), .int (xs (i + 3))]) (rest := []) ⟨hx, hb, hml, hown, hts⟩ (c_FB_transfer l dC dI cs o th yr nf no nt bd nb fl AI AN AB AL L f _ (xs (i + 1)) (xs (i + 2)) (xs (i + 3)) hCS) (cwV 3 hts (gd_V k_332 k_333 k_334 k_14 k_335) rfl rfl rfl (by decide +kernel) ⟨Nat.le_of_ble_eq_true rfl, Nat.le_of_ble_eq_true rfl⟩) (fw_mreV hKc hN (pt_P (pt_P hP).2).1 (pt_D (pt_D hD).2.1).1 rfl hmo heo) rfl rfl hl.1 rfl (lv_room (Nat.le_of_ble_eq_true rfl)) d_Law_law_520 ⟨lw_fitC (cells := cells) (mc := 2) hc1 (by decide), lw_fitS (slots := slots) (ms := 8) hs1 (by decide)⟩) hP hD hS hA (fun r1 u1 H locs hw1 hP hD hS => ?_)
  refine lv_aload_n hx hb d_Law_law_523 rfl (lv_at hl 2 rfl) ?_
  refine lv_aload_n hx hb d_Law_law_524 rfl (lv_at hl 0 rfl) ?_
  refine lv_iload hx hb d_Law_law_525 (lv_at hl 4 rfl) ?_
  refine lv_iconst (v := 1) hx hb d_Law_law_527 (by decide) ?_
  refine lv_iadd hx hb d_Law_law_528 ?_
  refine lv_topI (y := nI (i + 1)) (nI_add i 1) ?_
  refine va_sld hx hb hX hbl hbA hS (vp_in_nI (by omega) (by omega)) d_Law_law_529 ?_
  rw [nI_clamp (by omega)]
  refine lv_aload_n hx hb d_Law_law_530 rfl (lv_at hl 0 rfl) ?_
  refine lv_iload hx hb d_Law_law_531 (lv_at hl 4 rfl) ?_
  refine lv_iconst (v := 2) hx hb d_Law_law_533 (by decide) ?_
  refine lv_iadd hx hb d_Law_law_534 ?_
  refine lv_topI (y := nI (i + 2)) (nI_add i 2) ?_
  refine va_sld hx hb hX hbl hbA hS (vp_in_nI (by omega) (by omega)) d_Law_law_535 ?_
  rw [nI_clamp (by omega)]
  refine lv_aload_n hx hb d_Law_law_536 rfl (lv_at hl 0 rfl) ?_
  refine lv_iload hx hb d_Law_law_537 (lv_at hl 4 rfl) ?_
  refine lv_iconst (v := 3) hx hb d_Law_law_539 (by decide) ?_
  refine lv_iadd hx hb d_Law_law_540 ?_
  refine lv_topI (y := nI (i + 3)) (nI_add i 3) ?_
  refine va_sld hx hb hX hbl hbA hS (vp_in_nI (by omega) (by omega)) d_Law_law_541 ?_
  rw [nI_clamp (by omega)]
  have hP : va_P (dC, dI) classes (((q3, .inl (k3, 1, .inr (.inl ov))) :: va_pl u1.1 u1.2) ++ (mw ad cA th yr nf no nt bd nb fl AI AN AB AL)) H := hP
  have hD : va_D (lw_A s) (((q3, .inl (k3, 1, .inr (.inl ov))) :: va_pl u1.1 u1.2) ++ (mw ad cA th yr nf no nt bd nb fl AI AN AB AL)) := hD
  refine pe_calli (wa := (q3, .inl (k3, 1, .inr (.inl ov))) :: va_pl u1.1 u1.2) (wc := (mw ad cA th yr nf no nt bd nb fl AI AN AB AL)) (va_runV (As := [.int (xs (i + 1)), .int (xs (i + 2)), .int (xs (i + 3))]) (rest := [.int r1]) ⟨hx, hb, hml, hown, hts⟩ (c_Mo_transfer l dC dI ad cA th yr nf no nt bd nb fl AI AN AB AL _ (xs (i + 1)) (xs (i + 2)) (xs (i + 3)) hI) (cwV 3 hts (gd_V k_698 k_699 k_700 k_17 k_701) rfl rfl rfl (by decide +kernel) ⟨Nat.le_of_ble_eq_true rfl, Nat.le_of_ble_eq_true rfl⟩) (mu_preV 0 hKm hN (pt_P hP).2 (pt_D hD).2.1 rfl rfl) rfl rfl hl.1 rfl (lv_room (Nat.le_of_ble_eq_true rfl)) d_Law_law_542 ⟨lw_fitC2 (cells := cells) (mc := 2) hc1 (by decide), lw_fitS2 (slots := slots) (ms := 8) hs1 (by decide)⟩) hP hD hS hA (fun r2 u2 H locs hw2 hP hD hS => ?_)
  have hw2 : (r2, u2) = m_transfer (th, yr, nf, no, nt, bd, nb, fl, AI, AN, AB, AL) (xs (i + 1)) (xs (i + 2)) (xs (i + 3)) := hw2
  have hw1 : r1 = (m_transfer (th, yr, nf, no, nt, bd, nb, fl, AI, AN, AB, AL) (xs (i + 1)) (xs (i + 2)) (xs (i + 3))).1 ∧ CS cs o (m_transfer (th, yr, nf, no, nt, bd, nb, fl, AI, AN, AB, AL) (xs (i + 1)) (xs (i + 2)) (xs (i + 3))).2 u1.1 u1.2 := hw1
  rw [← hw2] at hw1
  obtain ⟨rfl, hCS⟩ := hw1
  have hCS : CS cs o u2 u1.1 u1.2 := hCS
  refine lv_icmp_eq (tgt := 796) hx hb d_Law_law_545 (by decide) (fun c_1 => ?_) (fun c_1 => ?_)
  · refine W.widen (k := cells + 2) (n := slots + 11) (by omega) (by omega) ?_
    exact kk u2 u1.1 u1.2 ov H locs ls hCS hP hD hS (lv_sub hl [0, 1, 2, 3, 4] rfl)
  · exact absurd rfl c_1

set_option maxHeartbeats 4000000 in
set_option maxRecDepth 100000 in
theorem lw_agree {p : Program} {l : Launch} {e : Env} {s : State} {m : MethodId} {below : List Frame} {meth : Method} {c : Code} {Q : State → Prop} {b N0 : Nat} {xs : Nat → Int32} {dC : Nat → ClassId} {dI : Nat → Nat → Nat} {ad : Nat → Nat} {cA cs : Nat → ClassId} {o q3 : Nat} {k3 : ClassId} {th yr : Int32} {nf no nt : Nat} {bd : Int32} {nb : Nat} {fl : Int32} {AI : Nat → Nat → Int32} {AN : Nat → Nat → Nat} {AB : Nat → Nat → Bool} {AL : Nat → Nat → Int64} {L : List Nat} {f : Nat → va_E} {ov : Nat → Int64} {i cells slots : Nat} {H : Heap} {locs : List Loc} {ls : Array Slot} (C0 : lw_C p l s m c b N0 xs dC dI cA cs k3) (hi : i + 5 ≤ N0) (hc1 : cells + 2 ≤ 601024) (hs1 : slots + 11 ≤ 7293000) (hCS : CS cs o (th, yr, nf, no, nt, bd, nb, fl, AI, AN, AB, AL) L f) (hP : va_P (dC, dI) classes (((q3, .inl (k3, 1, .inr (.inl ov))) :: va_pl L f) ++ (mw ad cA th yr nf no nt bd nb fl AI AN AB AL)) H) (hD : va_D (lw_A s) (((q3, .inl (k3, 1, .inr (.inl ov))) :: va_pl L f) ++ (mw ad cA th yr nf no nt bd nb fl AI AN AB AL))) (hS : va_S (lw_A s) s.heap H locs) (hl : lv_has ls 7 [(0, .ref b), (1, .ref o), (2, .ref (ad 0)), (3, .ref q3), (4, .int (nI i))])
    (kk : ∀ (u : MS) (L : List Nat) (f : Nat → va_E) (ov : Nat → Int64) (H : Heap) (locs : List Loc) (ls : Array Slot), CS cs o u L f → va_P (dC, dI) classes (((q3, .inl (k3, 1, .inr (.inl ov))) :: va_pl L f) ++ mwS ad cA u) H → va_D (lw_A s) (((q3, .inl (k3, 1, .inr (.inl ov))) :: va_pl L f) ++ mwS ad cA u) → va_S (lw_A s) s.heap H locs → lv_has ls 7 [(0, .ref b), (1, .ref o), (2, .ref (ad 0)), (3, .ref q3), (4, .int (nI i))] → W p l e room_1 s m #[Value.ref b] below meth c H locs (cells + 2) (slots + 11) Q (F0 m 796 ls [])) : W p l e room_1 s m #[Value.ref b] below meth c H locs cells slots Q (F0 m 550 ls []) := by
  obtain ⟨hx, hb, hml, hown, hts, hX, hbl, hN0, hfl, hKm, hKc, hKo, hN, hXK⟩ := C0
  have hG := fun (w : Cond) (h : w ∈ wG) => hts w (List.mem_cons_of_mem _ h)
  have hA : ∀ q : Nat, s.heap.size ≤ q → lw_A s q := fun _ h => h
  have hbA : ¬ lw_A s b := Nat.not_le.mpr hbl
  obtain ⟨hmo, fs, heo⟩ := hCS.recv
  have hI : InvM nf no nt nb AI AN := hCS.inv
  refine lv_aload_n hx hb d_Law_law_550 rfl (lv_at hl 1 rfl) ?_
  refine lv_aload_n hx hb d_Law_law_551 rfl (lv_at hl 0 rfl) ?_
  refine lv_iload hx hb d_Law_law_552 (lv_at hl 4 rfl) ?_
  refine lv_iconst (v := 1) hx hb d_Law_law_554 (by decide) ?_
  refine lv_iadd hx hb d_Law_law_555 ?_
  refine lv_topI (y := nI (i + 1)) (nI_add i 1) ?_
  refine va_sld hx hb hX hbl hbA hS (vp_in_nI (by omega) (by omega)) d_Law_law_556 ?_
  rw [nI_clamp (by omega)]
  refine lv_aload_n hx hb d_Law_law_557 rfl (lv_at hl 0 rfl) ?_
  refine lv_iload hx hb d_Law_law_558 (lv_at hl 4 rfl) ?_
  refine lv_iconst (v := 2) hx hb d_Law_law_560 (by decide) ?_
  refine lv_iadd hx hb d_Law_law_561 ?_
  refine lv_topI (y := nI (i + 2)) (nI_add i 2) ?_
  refine va_sld hx hb hX hbl hbA hS (vp_in_nI (by omega) (by omega)) d_Law_law_562 ?_
  rw [nI_clamp (by omega)]
  have hP : va_P (dC, dI) classes ([(q3, .inl (k3, 1, .inr (.inl ov)))] ++ (va_pl L f ++ (mw ad cA th yr nf no nt bd nb fl AI AN AB AL))) H := hP
  have hD : va_D (lw_A s) ([(q3, .inl (k3, 1, .inr (.inl ov)))] ++ (va_pl L f ++ (mw ad cA th yr nf no nt bd nb fl AI AN AB AL))) := hD
  refine pt_calli (wa := [(q3, .inl (k3, 1, .inr (.inl ov)))]) (wc := va_pl L f) (wb := (mw ad cA th yr nf no nt bd nb fl AI AN AB AL)) (va_runV (As := [.int (xs (i + 1)), .int (xs (i + 2))]) (rest := []) ⟨hx, hb, hml, hown, hts⟩ (c_FB_agree l dC dI cs o th yr nf no nt bd nb fl AI AN AB AL L f _ (xs (i + 1)) (xs (i + 2)) hCS) (cwV 2 hts (gd_V k_361 k_362 k_363 k_14 k_364) rfl rfl rfl (by decide +kernel) ⟨Nat.le_of_ble_eq_true rfl, Nat.le_of_ble_eq_true rfl⟩) (fw_mreV hKc hN (pt_P (pt_P hP).2).1 (pt_D (pt_D hD).2.1).1 rfl hmo heo) rfl rfl hl.1 rfl (lv_room (Nat.le_of_ble_eq_true rfl)) d_Law_law_563 ⟨lw_fitC (cells := cells) (mc := 0) hc1 (by decide), lw_fitS (slots := slots) (ms := 0) hs1 (by decide)⟩) hP hD hS hA (fun r1 u1 H locs hw1 hP hD hS => ?_)
  refine lv_aload_n hx hb d_Law_law_566 rfl (lv_at hl 2 rfl) ?_
  refine lv_aload_n hx hb d_Law_law_567 rfl (lv_at hl 0 rfl) ?_
  refine lv_iload hx hb d_Law_law_568 (lv_at hl 4 rfl) ?_
  refine lv_iconst (v := 1) hx hb d_Law_law_570 (by decide) ?_
  refine lv_iadd hx hb d_Law_law_571 ?_
  refine lv_topI (y := nI (i + 1)) (nI_add i 1) ?_
  refine va_sld hx hb hX hbl hbA hS (vp_in_nI (by omega) (by omega)) d_Law_law_572 ?_
  rw [nI_clamp (by omega)]
  refine lv_aload_n hx hb d_Law_law_573 rfl (lv_at hl 0 rfl) ?_
  refine lv_iload hx hb d_Law_law_574 (lv_at hl 4 rfl) ?_
  refine lv_iconst (v := 2) hx hb d_Law_law_576 (by decide) ?_
  refine lv_iadd hx hb d_Law_law_577 ?_
  refine lv_topI (y := nI (i + 2)) (nI_add i 2) ?_
  refine va_sld hx hb hX hbl hbA hS (vp_in_nI (by omega) (by omega)) d_Law_law_578 ?_
  rw [nI_clamp (by omega)]
  have hP : va_P (dC, dI) classes (((q3, .inl (k3, 1, .inr (.inl ov))) :: va_pl u1.1 u1.2) ++ (mw ad cA th yr nf no nt bd nb fl AI AN AB AL)) H := hP
  have hD : va_D (lw_A s) (((q3, .inl (k3, 1, .inr (.inl ov))) :: va_pl u1.1 u1.2) ++ (mw ad cA th yr nf no nt bd nb fl AI AN AB AL)) := hD
  refine pe_calli (wa := (q3, .inl (k3, 1, .inr (.inl ov))) :: va_pl u1.1 u1.2) (wc := (mw ad cA th yr nf no nt bd nb fl AI AN AB AL)) (va_runV (As := [.int (xs (i + 1)), .int (xs (i + 2))]) (rest := [.int r1]) ⟨hx, hb, hml, hown, hts⟩ (c_Mo_agree l dC dI ad cA th yr nf no nt bd nb fl AI AN AB AL _ (xs (i + 1)) (xs (i + 2)) hI) (cwV 2 hts (gd_V k_702 k_703 k_704 k_17 k_705) rfl rfl rfl (by decide +kernel) ⟨Nat.le_of_ble_eq_true rfl, Nat.le_of_ble_eq_true rfl⟩) (mu_preV 0 hKm hN (pt_P hP).2 (pt_D hD).2.1 rfl rfl) rfl rfl hl.1 rfl (lv_room (Nat.le_of_ble_eq_true rfl)) d_Law_law_579 ⟨lw_fitC2 (cells := cells) (mc := 0) hc1 (by decide), lw_fitS2 (slots := slots) (ms := 0) hs1 (by decide)⟩) hP hD hS hA (fun r2 u2 H locs hw2 hP hD hS => ?_)
  have hw2 : (r2, u2) = m_agree (th, yr, nf, no, nt, bd, nb, fl, AI, AN, AB, AL) (xs (i + 1)) (xs (i + 2)) := hw2
  have hw1 : r1 = (m_agree (th, yr, nf, no, nt, bd, nb, fl, AI, AN, AB, AL) (xs (i + 1)) (xs (i + 2))).1 ∧ CS cs o (m_agree (th, yr, nf, no, nt, bd, nb, fl, AI, AN, AB, AL) (xs (i + 1)) (xs (i + 2))).2 u1.1 u1.2 := hw1
  rw [← hw2] at hw1
  obtain ⟨rfl, hCS⟩ := hw1
  have hCS : CS cs o u2 u1.1 u1.2 := hCS
  refine lv_icmp_eq (tgt := 796) hx hb d_Law_law_582 (by decide) (fun c_1 => ?_) (fun c_1 => ?_)
  · refine W.widen (k := cells + 2) (n := slots + 11) (by omega) (by omega) ?_
    exact kk u2 u1.1 u1.2 ov H locs ls hCS hP hD hS (lv_sub hl [0, 1, 2, 3, 4] rfl)
  · exact absurd rfl c_1

set_option maxHeartbeats 4000000 in
set_option maxRecDepth 100000 in
theorem lw_row {p : Program} {l : Launch} {e : Env} {s : State} {m : MethodId} {below : List Frame} {meth : Method} {c : Code} {Q : State → Prop} {b N0 : Nat} {xs : Nat → Int32} {dC : Nat → ClassId} {dI : Nat → Nat → Nat} {ad : Nat → Nat} {cA cs : Nat → ClassId} {o q3 : Nat} {k3 : ClassId} {th yr : Int32} {nf no nt : Nat} {bd : Int32} {nb : Nat} {fl : Int32} {AI : Nat → Nat → Int32} {AN : Nat → Nat → Nat} {AB : Nat → Nat → Bool} {AL : Nat → Nat → Int64} {L : List Nat} {f : Nat → va_E} {ov : Nat → Int64} {i cells slots : Nat} {H : Heap} {locs : List Loc} {ls : Array Slot} (C0 : lw_C p l s m c b N0 xs dC dI cA cs k3) (hi : i + 5 ≤ N0) (hc1 : cells + 2 ≤ 601024) (hs1 : slots + 11 ≤ 7293000) (hCS : CS cs o (th, yr, nf, no, nt, bd, nb, fl, AI, AN, AB, AL) L f) (hP : va_P (dC, dI) classes (((q3, .inl (k3, 1, .inr (.inl ov))) :: va_pl L f) ++ (mw ad cA th yr nf no nt bd nb fl AI AN AB AL)) H) (hD : va_D (lw_A s) (((q3, .inl (k3, 1, .inr (.inl ov))) :: va_pl L f) ++ (mw ad cA th yr nf no nt bd nb fl AI AN AB AL))) (hS : va_S (lw_A s) s.heap H locs) (hl : lv_has ls 7 [(0, .ref b), (1, .ref o), (2, .ref (ad 0)), (3, .ref q3), (4, .int (nI i))])
    (kk : ∀ (u : MS) (L : List Nat) (f : Nat → va_E) (ov : Nat → Int64) (H : Heap) (locs : List Loc) (ls : Array Slot), CS cs o u L f → va_P (dC, dI) classes (((q3, .inl (k3, 1, .inr (.inl ov))) :: va_pl L f) ++ mwS ad cA u) H → va_D (lw_A s) (((q3, .inl (k3, 1, .inr (.inl ov))) :: va_pl L f) ++ mwS ad cA u) → va_S (lw_A s) s.heap H locs → lv_has ls 7 [(0, .ref b), (1, .ref o), (2, .ref (ad 0)), (3, .ref q3), (4, .int (nI i))] → W p l e room_1 s m #[Value.ref b] below meth c H locs (cells + 2) (slots + 11) Q (F0 m 796 ls [])) : W p l e room_1 s m #[Value.ref b] below meth c H locs cells slots Q (F0 m 587 ls []) := by
  obtain ⟨hx, hb, hml, hown, hts, hX, hbl, hN0, hfl, hKm, hKc, hKo, hN, hXK⟩ := C0
  have hG := fun (w : Cond) (h : w ∈ wG) => hts w (List.mem_cons_of_mem _ h)
  have hA : ∀ q : Nat, s.heap.size ≤ q → lw_A s q := fun _ h => h
  have hbA : ¬ lw_A s b := Nat.not_le.mpr hbl
  obtain ⟨hmo, fs, heo⟩ := hCS.recv
  have hI : InvM nf no nt nb AI AN := hCS.inv
  refine lv_aload_n hx hb d_Law_law_587 rfl (lv_at hl 1 rfl) ?_
  refine lv_aload_n hx hb d_Law_law_588 rfl (lv_at hl 0 rfl) ?_
  refine lv_iload hx hb d_Law_law_589 (lv_at hl 4 rfl) ?_
  refine lv_iconst (v := 1) hx hb d_Law_law_591 (by decide) ?_
  refine lv_iadd hx hb d_Law_law_592 ?_
  refine lv_topI (y := nI (i + 1)) (nI_add i 1) ?_
  refine va_sld hx hb hX hbl hbA hS (vp_in_nI (by omega) (by omega)) d_Law_law_593 ?_
  rw [nI_clamp (by omega)]
  refine lv_aload_n hx hb d_Law_law_594 rfl (lv_at hl 0 rfl) ?_
  refine lv_iload hx hb d_Law_law_595 (lv_at hl 4 rfl) ?_
  refine lv_iconst (v := 2) hx hb d_Law_law_597 (by decide) ?_
  refine lv_iadd hx hb d_Law_law_598 ?_
  refine lv_topI (y := nI (i + 2)) (nI_add i 2) ?_
  refine va_sld hx hb hX hbl hbA hS (vp_in_nI (by omega) (by omega)) d_Law_law_599 ?_
  rw [nI_clamp (by omega)]
  have hP : va_P (dC, dI) classes ([(q3, .inl (k3, 1, .inr (.inl ov)))] ++ (va_pl L f ++ (mw ad cA th yr nf no nt bd nb fl AI AN AB AL))) H := hP
  have hD : va_D (lw_A s) ([(q3, .inl (k3, 1, .inr (.inl ov)))] ++ (va_pl L f ++ (mw ad cA th yr nf no nt bd nb fl AI AN AB AL))) := hD
  refine pt_calli (wa := [(q3, .inl (k3, 1, .inr (.inl ov)))]) (wc := va_pl L f) (wb := (mw ad cA th yr nf no nt bd nb fl AI AN AB AL)) (va_runV (As := [.int (xs (i + 1)), .int (xs (i + 2))]) (rest := []) ⟨hx, hb, hml, hown, hts⟩ (c_FB_row l dC dI cs o th yr nf no nt bd nb fl AI AN AB AL L f _ (xs (i + 1)) (xs (i + 2)) hCS) (cwV 2 hts (gd_V k_383 k_384 k_385 k_14 k_386) rfl rfl rfl (by decide +kernel) ⟨Nat.le_of_ble_eq_true rfl, Nat.le_of_ble_eq_true rfl⟩) (fw_mreV hKc hN (pt_P (pt_P hP).2).1 (pt_D (pt_D hD).2.1).1 rfl hmo heo) rfl rfl hl.1 rfl (lv_room (Nat.le_of_ble_eq_true rfl)) d_Law_law_600 ⟨lw_fitC (cells := cells) (mc := 0) hc1 (by decide), lw_fitS (slots := slots) (ms := 0) hs1 (by decide)⟩) hP hD hS hA (fun r1 u1 H locs hw1 hP hD hS => ?_)
  refine lv_aload_n hx hb d_Law_law_603 rfl (lv_at hl 2 rfl) ?_
  refine lv_aload_n hx hb d_Law_law_604 rfl (lv_at hl 0 rfl) ?_
  refine lv_iload hx hb d_Law_law_605 (lv_at hl 4 rfl) ?_
  refine lv_iconst (v := 1) hx hb d_Law_law_607 (by decide) ?_
  refine lv_iadd hx hb d_Law_law_608 ?_
  refine lv_topI (y := nI (i + 1)) (nI_add i 1) ?_
  refine va_sld hx hb hX hbl hbA hS (vp_in_nI (by omega) (by omega)) d_Law_law_609 ?_
  rw [nI_clamp (by omega)]
  refine lv_aload_n hx hb d_Law_law_610 rfl (lv_at hl 0 rfl) ?_
  refine lv_iload hx hb d_Law_law_611 (lv_at hl 4 rfl) ?_
  refine lv_iconst (v := 2) hx hb d_Law_law_613 (by decide) ?_
  refine lv_iadd hx hb d_Law_law_614 ?_
  refine lv_topI (y := nI (i + 2)) (nI_add i 2) ?_
  refine va_sld hx hb hX hbl hbA hS (vp_in_nI (by omega) (by omega)) d_Law_law_615 ?_
  rw [nI_clamp (by omega)]
  have hP : va_P (dC, dI) classes (((q3, .inl (k3, 1, .inr (.inl ov))) :: va_pl u1.1 u1.2) ++ (mw ad cA th yr nf no nt bd nb fl AI AN AB AL)) H := hP
  have hD : va_D (lw_A s) (((q3, .inl (k3, 1, .inr (.inl ov))) :: va_pl u1.1 u1.2) ++ (mw ad cA th yr nf no nt bd nb fl AI AN AB AL)) := hD
  refine pe_calli (wa := (q3, .inl (k3, 1, .inr (.inl ov))) :: va_pl u1.1 u1.2) (wc := (mw ad cA th yr nf no nt bd nb fl AI AN AB AL)) (va_runV (As := [.int (xs (i + 1)), .int (xs (i + 2))]) (rest := [.int r1]) ⟨hx, hb, hml, hown, hts⟩ (c_Mo_row l dC dI ad cA th yr nf no nt bd nb fl AI AN AB AL _ (xs (i + 1)) (xs (i + 2)) hI) (cwV 2 hts (gd_V k_706 k_707 k_708 k_17 k_709) rfl rfl rfl (by decide +kernel) ⟨Nat.le_of_ble_eq_true rfl, Nat.le_of_ble_eq_true rfl⟩) (mu_preV 0 hKm hN (pt_P hP).2 (pt_D hD).2.1 rfl rfl) rfl rfl hl.1 rfl (lv_room (Nat.le_of_ble_eq_true rfl)) d_Law_law_616 ⟨lw_fitC2 (cells := cells) (mc := 0) hc1 (by decide), lw_fitS2 (slots := slots) (ms := 0) hs1 (by decide)⟩) hP hD hS hA (fun r2 u2 H locs hw2 hP hD hS => ?_)
  have hw2 : (r2, u2) = m_row (th, yr, nf, no, nt, bd, nb, fl, AI, AN, AB, AL) (xs (i + 1)) (xs (i + 2)) := hw2
  have hw1 : r1 = (m_row (th, yr, nf, no, nt, bd, nb, fl, AI, AN, AB, AL) (xs (i + 1)) (xs (i + 2))).1 ∧ CS cs o (m_row (th, yr, nf, no, nt, bd, nb, fl, AI, AN, AB, AL) (xs (i + 1)) (xs (i + 2))).2 u1.1 u1.2 := hw1
  rw [← hw2] at hw1
  obtain ⟨rfl, hCS⟩ := hw1
  have hCS : CS cs o u2 u1.1 u1.2 := hCS
  refine lv_icmp_eq (tgt := 796) hx hb d_Law_law_619 (by decide) (fun c_1 => ?_) (fun c_1 => ?_)
  · refine W.widen (k := cells + 2) (n := slots + 11) (by omega) (by omega) ?_
    exact kk u2 u1.1 u1.2 ov H locs ls hCS hP hD hS (lv_sub hl [0, 1, 2, 3, 4] rfl)
  · exact absurd rfl c_1

set_option maxHeartbeats 4000000 in
set_option maxRecDepth 100000 in
theorem lw_post {p : Program} {l : Launch} {e : Env} {s : State} {m : MethodId} {below : List Frame} {meth : Method} {c : Code} {Q : State → Prop} {b N0 : Nat} {xs : Nat → Int32} {dC : Nat → ClassId} {dI : Nat → Nat → Nat} {ad : Nat → Nat} {cA cs : Nat → ClassId} {o q3 : Nat} {k3 : ClassId} {th yr : Int32} {nf no nt : Nat} {bd : Int32} {nb : Nat} {fl : Int32} {AI : Nat → Nat → Int32} {AN : Nat → Nat → Nat} {AB : Nat → Nat → Bool} {AL : Nat → Nat → Int64} {L : List Nat} {f : Nat → va_E} {ov : Nat → Int64} {i cells slots : Nat} {H : Heap} {locs : List Loc} {ls : Array Slot} (C0 : lw_C p l s m c b N0 xs dC dI cA cs k3) (hi : i + 5 ≤ N0) (hc1 : cells + 2 ≤ 601024) (hs1 : slots + 11 ≤ 7293000) (hCS : CS cs o (th, yr, nf, no, nt, bd, nb, fl, AI, AN, AB, AL) L f) (hP : va_P (dC, dI) classes (((q3, .inl (k3, 1, .inr (.inl ov))) :: va_pl L f) ++ (mw ad cA th yr nf no nt bd nb fl AI AN AB AL)) H) (hD : va_D (lw_A s) (((q3, .inl (k3, 1, .inr (.inl ov))) :: va_pl L f) ++ (mw ad cA th yr nf no nt bd nb fl AI AN AB AL))) (hS : va_S (lw_A s) s.heap H locs) (hl : lv_has ls 7 [(0, .ref b), (1, .ref o), (2, .ref (ad 0)), (3, .ref q3), (4, .int (nI i))])
    (kk : ∀ (u : MS) (L : List Nat) (f : Nat → va_E) (ov : Nat → Int64) (H : Heap) (locs : List Loc) (ls : Array Slot), CS cs o u L f → va_P (dC, dI) classes (((q3, .inl (k3, 1, .inr (.inl ov))) :: va_pl L f) ++ mwS ad cA u) H → va_D (lw_A s) (((q3, .inl (k3, 1, .inr (.inl ov))) :: va_pl L f) ++ mwS ad cA u) → va_S (lw_A s) s.heap H locs → lv_has ls 7 [(0, .ref b), (1, .ref o), (2, .ref (ad 0)), (3, .ref q3), (4, .int (nI i))] → W p l e room_1 s m #[Value.ref b] below meth c H locs (cells + 2) (slots + 11) Q (F0 m 796 ls [])) : W p l e room_1 s m #[Value.ref b] below meth c H locs cells slots Q (F0 m 624 ls []) := by
  obtain ⟨hx, hb, hml, hown, hts, hX, hbl, hN0, hfl, hKm, hKc, hKo, hN, hXK⟩ := C0
  have hG := fun (w : Cond) (h : w ∈ wG) => hts w (List.mem_cons_of_mem _ h)
  have hA : ∀ q : Nat, s.heap.size ≤ q → lw_A s q := fun _ h => h
  have hbA : ¬ lw_A s b := Nat.not_le.mpr hbl
  obtain ⟨hmo, fs, heo⟩ := hCS.recv
  have hI : InvM nf no nt nb AI AN := hCS.inv
  refine lv_aload_n hx hb d_Law_law_624 rfl (lv_at hl 1 rfl) ?_
  refine lv_aload_n hx hb d_Law_law_625 rfl (lv_at hl 3 rfl) ?_
  have hr0 := th_runSW (H := H) (locs := locs) (cells := cells) (slots := slots) (below := below) (meth := meth) (R := room_1) (e := e) (g := F0 m 626 ls [.ref q3, .ref o]) (cc := b_Law_law) (nL := 7) (Ts := Cond.initialized R_Law :: wG) (own := R_Law) (maxL := 3) (index := 80) (As := [.ref o, .ref q3]) (rest := []) ⟨hx, hb, hml, hown, hts⟩ (c_Law_post l dC dI cs o th yr nf no nt bd nb fl AI AN AB AL L f H.size q3 k3 ov hfl hCS) rfl rfl (Nat.le_of_ble_eq_true rfl) (Nat.le_of_ble_eq_true rfl) (fun w hw a1 U hW => word_at hW (good_of_word (wG_good (lp_ws w hw)).2) (hG w (lp_ws w hw))) (hG _ k_436) (hG _ k_13) ⟨by decide +kernel, by decide +kernel⟩ lp_len (hG _ k_434) (hG _ k_435) ⟨lp_blind, fun U hU hW => ⟨rfl, by rw [hU], by rw [hU]; exact (pt_P hP).1, va_K.moved hW.alike hKc, va_K.moved hW.alike hKo, (pt_D hD).1.weaken (fun _ _ _ _ => trivial), hN.warm hW, hXK.moved hW (fun q x _ hq => lw_old hS hU hq)⟩⟩ rfl rfl hl.1 rfl (lv_room (Nat.le_of_ble_eq_true rfl)) d_Law_law_626 ⟨lw_fitC (cells := cells) (mc := 1) hc1 (by decide), lw_fitS (slots := slots) (ms := 6) hs1 (by decide)⟩
  refine tl_call (wc := (q3, .inl (k3, 1, .inr (.inl ov))) :: va_pl L f) (wb := (mw ad cA th yr nf no nt bd nb fl AI AN AB AL)) hr0 hP hD hS hA (fun u1 ov1 H locs k1 k2 hcs hP hD hS => ?_)
  clear hr0
  obtain ⟨v, hv⟩ : ∃ v, m_post (th, yr, nf, no, nt, bd, nb, fl, AI, AN, AB, AL) = v := ⟨_, rfl⟩
  rw [hv] at k1 k2 hcs ⊢
  refine lv_istore (lv' := [(5, .int v.2.1), (0, .ref b), (1, .ref o), (2, .ref (ad 0)), (3, .ref q3), (4, .int (nI i))]) hx hb d_Law_law_629 hl (by decide) rfl (fun ls hl => ?_)
  refine lv_aload_n hx hb d_Law_law_631 rfl (lv_at hl 3 rfl) ?_
  have hP : va_P (dC, dI) classes (((q3, .inl (k3, 1, .inr (.inl ov1))) :: va_pl u1.1 u1.2) ++ (mw ad cA th yr nf no nt bd nb fl AI AN AB AL)) H := hP
  have hD : va_D (lw_A s) (((q3, .inl (k3, 1, .inr (.inl ov1))) :: va_pl u1.1 u1.2) ++ (mw ad cA th yr nf no nt bd nb fl AI AN AB AL)) := hD
  refine pe_calli (wa := (q3, .inl (k3, 1, .inr (.inl ov1))) :: va_pl u1.1 u1.2) (wc := (mw ad cA th yr nf no nt bd nb fl AI AN AB AL)) (va_runV (As := []) (rest := []) ⟨hx, hb, hml, hown, hts⟩ (c_Mo_post l dC dI ad cA th yr nf no nt bd nb fl AI AN AB AL _ hI) (cwV 0 hts (gd_V k_711 k_712 k_713 k_17 k_714) rfl rfl rfl (by decide +kernel) ⟨Nat.le_of_ble_eq_true rfl, Nat.le_of_ble_eq_true rfl⟩) (mu_preV 0 hKm hN (pt_P hP).2 (pt_D hD).2.1 rfl rfl) rfl rfl hl.1 rfl (lv_room (Nat.le_of_ble_eq_true rfl)) d_Law_law_632 ⟨lw_fitC2 (cells := cells) (mc := 1) hc1 (by decide), lw_fitS2 (slots := slots) (ms := 6) hs1 (by decide)⟩) hP hD hS hA (fun r2 u2 H locs hw2 hP hD hS => ?_)
  have hw2 : (r2, u2) = m_post (th, yr, nf, no, nt, bd, nb, fl, AI, AN, AB, AL) := hw2
  rw [hv] at hw2
  subst hw2
  obtain ⟨th2, yr2, nf2, no2, nt2, bd2, nb2, fl2, AI2, AN2, AB2, AL2⟩ := u2
  have hl : lv_has ls 7 [(5, .int th2), (0, .ref b), (1, .ref o), (2, .ref (ad 0)), (3, .ref q3), (4, .int (nI i))] := hl
  have k1 : th2 = 0 → ov1 0 = r2.toInt64 := k1
  have hCS : CS cs o (th2, yr2, nf2, no2, nt2, bd2, nb2, fl2, AI2, AN2, AB2, AL2) u1.1 u1.2 := hcs
  refine lv_istore (lv' := [(6, .int r2), (5, .int th2), (0, .ref b), (1, .ref o), (2, .ref (ad 0)), (3, .ref q3), (4, .int (nI i))]) hx hb d_Law_law_635 hl (by decide) rfl (fun ls hl => ?_)
  refine lv_aload_n hx hb d_Law_law_637 rfl (lv_at hl 4 rfl) ?_
  have hP : va_P (dC, dI) classes (((q3, .inl (k3, 1, .inr (.inl ov1))) :: va_pl u1.1 u1.2) ++ mw ad cA th2 yr2 nf2 no2 nt2 bd2 nb2 fl2 AI2 AN2 AB2 AL2) H := hP
  have hD : va_D (lw_A s) (((q3, .inl (k3, 1, .inr (.inl ov1))) :: va_pl u1.1 u1.2) ++ mw ad cA th2 yr2 nf2 no2 nt2 bd2 nb2 fl2 AI2 AN2 AB2 AL2) := hD
  refine rd_calli (va_runV (As := []) (rest := []) ⟨hx, hb, hml, hown, hts⟩ (c_Mo_thrown l dC dI ad cA th2 yr2 nf2 no2 nt2 bd2 nb2 fl2 AI2 AN2 AB2 AL2) (cwV 0 hts (gd_V k_620 k_621 k_622 k_17 k_623) rfl rfl rfl (by decide +kernel) ⟨Nat.le_of_ble_eq_true rfl, Nat.le_of_ble_eq_true rfl⟩) (rd_preV 0 hKm hN (pt_P hP).2 rfl rfl) rfl rfl hl.1 rfl (lv_room (Nat.le_of_ble_eq_true rfl)) d_Law_law_638 ⟨lw_fitC2 (cells := cells) (mc := 1) hc1 (by decide), lw_fitS2 (slots := slots) (ms := 6) hs1 (by decide)⟩) (fun r3 hw3 => ?_)
  rw [show r3 = th2 from hw3]
  refine lv_iload hx hb d_Law_law_641 (lv_at hl 1 rfl) ?_
  refine lv_icmp_eq (tgt := 648) hx hb d_Law_law_643 (by decide) (fun c_1 => ?_) (fun c_1 => ?_)
  · refine lv_iload hx hb d_Law_law_648 (lv_at hl 1 rfl) ?_
    refine lv_if_ne (tgt := 665) hx hb d_Law_law_650 (by decide) (fun c_2 => ?_) (fun c_2 => ?_)
    · refine lv_goto (tgt := 796) hx hb d_Law_law_665 (by decide) ?_
      refine W.widen (k := cells + 2) (n := slots + 11) (by omega) (by omega) ?_
      exact kk (th2, yr2, nf2, no2, nt2, bd2, nb2, fl2, AI2, AN2, AB2, AL2) u1.1 u1.2 ov1 H locs ls hCS hP hD hS (lv_sub hl [2, 3, 4, 5, 6] rfl)
    · refine lv_aload_n hx hb d_Law_law_653 rfl (lv_at hl 5 rfl) ?_
      refine lv_iconst (v := 0) hx hb d_Law_law_654 (by decide) ?_
      refine lv_topI (y := nI 0) rfl ?_
      refine ra_lald (n := 1) (j := 0) (f := ov1) hx hb hKo hP 0 0 rfl rfl (by decide) (by decide) d_Law_law_655 ?_
      refine lv_iload hx hb d_Law_law_656 (lv_at hl 0 rfl) ?_
      refine lv_i2l hx hb d_Law_law_658 rfl ?_
      refine lc_eq (tgt := 665) hx hb d_Law_law_659 d_Law_law_660 (by decide) (fun c_3 => ?_) (fun c_3 => ?_)
      · refine lv_goto (tgt := 796) hx hb d_Law_law_665 (by decide) ?_
        refine W.widen (k := cells + 2) (n := slots + 11) (by omega) (by omega) ?_
        exact kk (th2, yr2, nf2, no2, nt2, bd2, nb2, fl2, AI2, AN2, AB2, AL2) u1.1 u1.2 ov1 H locs ls hCS hP hD hS (lv_sub hl [2, 3, 4, 5, 6] rfl)
      · exact absurd (k1 c_2) c_3
  · exact absurd rfl c_1
