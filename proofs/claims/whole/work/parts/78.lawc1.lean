set_option maxHeartbeats 4000000 in
set_option maxRecDepth 100000 in
theorem lw_invoice {p : Program} {l : Launch} {e : Env} {s : State} {m : MethodId} {below : List Frame} {meth : Method} {c : Code} {Q : State → Prop} {b N0 : Nat} {xs : Nat → Int32} {dC : Nat → ClassId} {dI : Nat → Nat → Nat} {ad : Nat → Nat} {cA cs : Nat → ClassId} {o q3 : Nat} {k3 : ClassId} {th yr : Int32} {nf no nt : Nat} {bd : Int32} {nb : Nat} {fl : Int32} {AI : Nat → Nat → Int32} {AN : Nat → Nat → Nat} {AB : Nat → Nat → Bool} {AL : Nat → Nat → Int64} {L : List Nat} {f : Nat → va_E} {ov : Nat → Int64} {i cells slots : Nat} {H : Heap} {locs : List Loc} {ls : Array Slot} (C0 : lw_C p l s m c b N0 xs dC dI cA cs k3) (hi : i + 5 ≤ N0) (hc1 : cells + 2 ≤ 601024) (hs1 : slots + 11 ≤ 7293000) (hCS : CS cs o (th, yr, nf, no, nt, bd, nb, fl, AI, AN, AB, AL) L f) (hP : va_P (dC, dI) classes (((q3, .inl (k3, 1, .inr (.inl ov))) :: va_pl L f) ++ (mw ad cA th yr nf no nt bd nb fl AI AN AB AL)) H) (hD : va_D (lw_A s) (((q3, .inl (k3, 1, .inr (.inl ov))) :: va_pl L f) ++ (mw ad cA th yr nf no nt bd nb fl AI AN AB AL))) (hS : va_S (lw_A s) s.heap H locs) (hl : lv_has ls 7 [(0, .ref b), (1, .ref o), (2, .ref (ad 0)), (3, .ref q3), (4, .int (nI i))])
    (kk : ∀ (u : MS) (L : List Nat) (f : Nat → va_E) (ov : Nat → Int64) (H : Heap) (locs : List Loc) (ls : Array Slot), CS cs o u L f → va_P (dC, dI) classes (((q3, .inl (k3, 1, .inr (.inl ov))) :: va_pl L f) ++ mwS ad cA u) H → va_D (lw_A s) (((q3, .inl (k3, 1, .inr (.inl ov))) :: va_pl L f) ++ mwS ad cA u) → va_S (lw_A s) s.heap H locs → lv_has ls 7 [(0, .ref b), (1, .ref o), (2, .ref (ad 0)), (3, .ref q3), (4, .int (nI i))] → W p l e room_1 s m #[Value.ref b] below meth c H locs (cells + 2) (slots + 11) Q (F0 m 796 ls [])) : W p l e room_1 s m #[Value.ref b] below meth c H locs cells slots Q (F0 m 328 ls []) := by
  obtain ⟨hx, hb, hml, hown, hts, hX, hbl, hN0, hfl, hKm, hKc, hKo, hN, hXK⟩ := C0
  have hG := fun (w : Cond) (h : w ∈ wG) => hts w (List.mem_cons_of_mem _ h)
  have hA : ∀ q : Nat, s.heap.size ≤ q → lw_A s q := fun _ h => h
  have hbA : ¬ lw_A s b := Nat.not_le.mpr hbl
  obtain ⟨hmo, fs, heo⟩ := hCS.recv
  have hI : InvM nf no nt nb AI AN := hCS.inv
  refine lv_aload_n hx hb d_Law_law_328 rfl (lv_at hl 1 rfl) ?_
  refine lv_aload_n hx hb d_Law_law_329 rfl (lv_at hl 0 rfl) ?_
  refine lv_iload hx hb d_Law_law_330 (lv_at hl 4 rfl) ?_
  refine lv_iconst (v := 1) hx hb d_Law_law_332 (by decide) ?_
  refine lv_iadd hx hb d_Law_law_333 ?_
  refine lv_topI (y := nI (i + 1)) (nI_add i 1) ?_
  refine va_sld hx hb hX hbl hbA hS (vp_in_nI (by omega) (by omega)) d_Law_law_334 ?_
  rw [nI_clamp (by omega)]
  refine lv_aload_n hx hb d_Law_law_335 rfl (lv_at hl 0 rfl) ?_
  refine lv_iload hx hb d_Law_law_336 (lv_at hl 4 rfl) ?_
  refine lv_iconst (v := 2) hx hb d_Law_law_338 (by decide) ?_
  refine lv_iadd hx hb d_Law_law_339 ?_
  refine lv_topI (y := nI (i + 2)) (nI_add i 2) ?_
  refine va_sld hx hb hX hbl hbA hS (vp_in_nI (by omega) (by omega)) d_Law_law_340 ?_
  rw [nI_clamp (by omega)]
  refine lv_aload_n hx hb d_Law_law_341 rfl (lv_at hl 0 rfl) ?_
  refine lv_iload hx hb d_Law_law_342 (lv_at hl 4 rfl) ?_
  refine lv_iconst (v := 3) hx hb d_Law_law_344 (by decide) ?_
  refine lv_iadd hx hb d_Law_law_345 ?_
  refine lv_topI (y := nI (i + 3)) (nI_add i 3) ?_
  refine va_sld hx hb hX hbl hbA hS (vp_in_nI (by omega) (by omega)) d_Law_law_346 ?_
  rw [nI_clamp (by omega)]
  refine lv_aload_n hx hb d_Law_law_347 rfl (lv_at hl 0 rfl) ?_
  refine lv_iload hx hb d_Law_law_348 (lv_at hl 4 rfl) ?_
  refine lv_iconst (v := 4) hx hb d_Law_law_350 (by decide) ?_
  refine lv_iadd hx hb d_Law_law_351 ?_
  refine lv_topI (y := nI (i + 4)) (nI_add i 4) ?_
  refine va_sld hx hb hX hbl hbA hS (vp_in_nI (by omega) (by omega)) d_Law_law_352 ?_
  rw [nI_clamp (by omega)]
  have hP : va_P (dC, dI) classes ([(q3, .inl (k3, 1, .inr (.inl ov)))] ++ (va_pl L f ++ (mw ad cA th yr nf no nt bd nb fl AI AN AB AL))) H := hP
  have hD : va_D (lw_A s) ([(q3, .inl (k3, 1, .inr (.inl ov)))] ++ (va_pl L f ++ (mw ad cA th yr nf no nt bd nb fl AI AN AB AL))) := hD
  refine pt_calll (wa := [(q3, .inl (k3, 1, .inr (.inl ov)))]) (wc := va_pl L f) (wb := (mw ad cA th yr nf no nt bd nb fl AI AN AB AL)) (va_runV (As := [.int (xs (i + 1)), .int (xs (i + 2)), .int (xs (i + 3)), .int (xs (i + 4))]) (rest := []) ⟨hx, hb, hml, hown, hts⟩ (c_FB_invoice l dC dI cs o th yr nf no nt bd nb fl AI AN AB AL L f _ (xs (i + 1)) (xs (i + 2)) (xs (i + 3)) (xs (i + 4)) hCS) (cwV 4 hts (gd_V k_247 k_248 k_249 k_14 k_250) rfl rfl rfl (by decide +kernel) ⟨Nat.le_of_ble_eq_true rfl, Nat.le_of_ble_eq_true rfl⟩) (fw_mreV hKc hN (pt_P (pt_P hP).2).1 (pt_D (pt_D hD).2.1).1 rfl hmo heo) rfl rfl hl.1 rfl (lv_room (Nat.le_of_ble_eq_true rfl)) d_Law_law_353 ⟨lw_fitC (cells := cells) (mc := 0) hc1 (by decide), lw_fitS (slots := slots) (ms := 0) hs1 (by decide)⟩) hP hD hS hA (fun r1 u1 H locs hw1 hP hD hS => ?_)
  refine lv_aload_n hx hb d_Law_law_356 rfl (lv_at hl 2 rfl) ?_
  refine lv_aload_n hx hb d_Law_law_357 rfl (lv_at hl 0 rfl) ?_
  refine lv_iload hx hb d_Law_law_358 (lv_at hl 4 rfl) ?_
  refine lv_iconst (v := 1) hx hb d_Law_law_360 (by decide) ?_
  refine lv_iadd hx hb d_Law_law_361 ?_
  refine lv_topI (y := nI (i + 1)) (nI_add i 1) ?_
  refine va_sld hx hb hX hbl hbA hS (vp_in_nI (by omega) (by omega)) d_Law_law_362 ?_
  rw [nI_clamp (by omega)]
  refine lv_aload_n hx hb d_Law_law_363 rfl (lv_at hl 0 rfl) ?_
  refine lv_iload hx hb d_Law_law_364 (lv_at hl 4 rfl) ?_
  refine lv_iconst (v := 2) hx hb d_Law_law_366 (by decide) ?_
  refine lv_iadd hx hb d_Law_law_367 ?_
  refine lv_topI (y := nI (i + 2)) (nI_add i 2) ?_
  refine va_sld hx hb hX hbl hbA hS (vp_in_nI (by omega) (by omega)) d_Law_law_368 ?_
  rw [nI_clamp (by omega)]
  refine lv_aload_n hx hb d_Law_law_369 rfl (lv_at hl 0 rfl) ?_
  refine lv_iload hx hb d_Law_law_370 (lv_at hl 4 rfl) ?_
  refine lv_iconst (v := 3) hx hb d_Law_law_372 (by decide) ?_
  refine lv_iadd hx hb d_Law_law_373 ?_
  refine lv_topI (y := nI (i + 3)) (nI_add i 3) ?_
  refine va_sld hx hb hX hbl hbA hS (vp_in_nI (by omega) (by omega)) d_Law_law_374 ?_
  rw [nI_clamp (by omega)]
  refine lv_aload_n hx hb d_Law_law_375 rfl (lv_at hl 0 rfl) ?_
  refine lv_iload hx hb d_Law_law_376 (lv_at hl 4 rfl) ?_
  refine lv_iconst (v := 4) hx hb d_Law_law_378 (by decide) ?_
  refine lv_iadd hx hb d_Law_law_379 ?_
  refine lv_topI (y := nI (i + 4)) (nI_add i 4) ?_
  refine va_sld hx hb hX hbl hbA hS (vp_in_nI (by omega) (by omega)) d_Law_law_380 ?_
  rw [nI_clamp (by omega)]
  have hP : va_P (dC, dI) classes (((q3, .inl (k3, 1, .inr (.inl ov))) :: va_pl u1.1 u1.2) ++ (mw ad cA th yr nf no nt bd nb fl AI AN AB AL)) H := hP
  have hD : va_D (lw_A s) (((q3, .inl (k3, 1, .inr (.inl ov))) :: va_pl u1.1 u1.2) ++ (mw ad cA th yr nf no nt bd nb fl AI AN AB AL)) := hD
  refine pe_calll (wa := (q3, .inl (k3, 1, .inr (.inl ov))) :: va_pl u1.1 u1.2) (wc := (mw ad cA th yr nf no nt bd nb fl AI AN AB AL)) (va_runV (As := [.int (xs (i + 1)), .int (xs (i + 2)), .int (xs (i + 3)), .int (xs (i + 4))]) (rest := [.long r1]) ⟨hx, hb, hml, hown, hts⟩ (c_Mo_invoice l dC dI ad cA th yr nf no nt bd nb fl AI AN AB AL _ (xs (i + 1)) (xs (i + 2)) (xs (i + 3)) (xs (i + 4)) hI) (cwV 4 hts (gd_V k_668 k_669 k_670 k_17 k_671) rfl rfl rfl (by decide +kernel) ⟨Nat.le_of_ble_eq_true rfl, Nat.le_of_ble_eq_true rfl⟩) (mu_preV 0 hKm hN (pt_P hP).2 (pt_D hD).2.1 rfl rfl) rfl rfl hl.1 rfl (lv_room (Nat.le_of_ble_eq_true rfl)) d_Law_law_381 ⟨lw_fitC2 (cells := cells) (mc := 0) hc1 (by decide), lw_fitS2 (slots := slots) (ms := 0) hs1 (by decide)⟩) hP hD hS hA (fun r2 u2 H locs hw2 hP hD hS => ?_)
  have hw2 : (r2, u2) = m_invoice (th, yr, nf, no, nt, bd, nb, fl, AI, AN, AB, AL) (xs (i + 1)) (xs (i + 2)) (xs (i + 3)) (xs (i + 4)) := hw2
  have hw1 : r1 = (m_invoice (th, yr, nf, no, nt, bd, nb, fl, AI, AN, AB, AL) (xs (i + 1)) (xs (i + 2)) (xs (i + 3)) (xs (i + 4))).1 ∧ CS cs o (m_invoice (th, yr, nf, no, nt, bd, nb, fl, AI, AN, AB, AL) (xs (i + 1)) (xs (i + 2)) (xs (i + 3)) (xs (i + 4))).2 u1.1 u1.2 := hw1
  rw [← hw2] at hw1
  obtain ⟨rfl, hCS⟩ := hw1
  have hCS : CS cs o u2 u1.1 u1.2 := hCS
  refine lc_eq (tgt := 796) hx hb d_Law_law_384 d_Law_law_385 (by decide) (fun c_1 => ?_) (fun c_1 => ?_)
  · refine W.widen (k := cells + 2) (n := slots + 11) (by omega) (by omega) ?_
    exact kk u2 u1.1 u1.2 ov H locs ls hCS hP hD hS (lv_sub hl [0, 1, 2, 3, 4] rfl)
  · exact absurd rfl c_1

set_option maxHeartbeats 4000000 in
set_option maxRecDepth 100000 in
theorem lw_cancel {p : Program} {l : Launch} {e : Env} {s : State} {m : MethodId} {below : List Frame} {meth : Method} {c : Code} {Q : State → Prop} {b N0 : Nat} {xs : Nat → Int32} {dC : Nat → ClassId} {dI : Nat → Nat → Nat} {ad : Nat → Nat} {cA cs : Nat → ClassId} {o q3 : Nat} {k3 : ClassId} {th yr : Int32} {nf no nt : Nat} {bd : Int32} {nb : Nat} {fl : Int32} {AI : Nat → Nat → Int32} {AN : Nat → Nat → Nat} {AB : Nat → Nat → Bool} {AL : Nat → Nat → Int64} {L : List Nat} {f : Nat → va_E} {ov : Nat → Int64} {i cells slots : Nat} {H : Heap} {locs : List Loc} {ls : Array Slot} (C0 : lw_C p l s m c b N0 xs dC dI cA cs k3) (hi : i + 5 ≤ N0) (hc1 : cells + 2 ≤ 601024) (hs1 : slots + 11 ≤ 7293000) (hCS : CS cs o (th, yr, nf, no, nt, bd, nb, fl, AI, AN, AB, AL) L f) (hP : va_P (dC, dI) classes (((q3, .inl (k3, 1, .inr (.inl ov))) :: va_pl L f) ++ (mw ad cA th yr nf no nt bd nb fl AI AN AB AL)) H) (hD : va_D (lw_A s) (((q3, .inl (k3, 1, .inr (.inl ov))) :: va_pl L f) ++ (mw ad cA th yr nf no nt bd nb fl AI AN AB AL))) (hS : va_S (lw_A s) s.heap H locs) (hl : lv_has ls 7 [(0, .ref b), (1, .ref o), (2, .ref (ad 0)), (3, .ref q3), (4, .int (nI i))])
    (kk : ∀ (u : MS) (L : List Nat) (f : Nat → va_E) (ov : Nat → Int64) (H : Heap) (locs : List Loc) (ls : Array Slot), CS cs o u L f → va_P (dC, dI) classes (((q3, .inl (k3, 1, .inr (.inl ov))) :: va_pl L f) ++ mwS ad cA u) H → va_D (lw_A s) (((q3, .inl (k3, 1, .inr (.inl ov))) :: va_pl L f) ++ mwS ad cA u) → va_S (lw_A s) s.heap H locs → lv_has ls 7 [(0, .ref b), (1, .ref o), (2, .ref (ad 0)), (3, .ref q3), (4, .int (nI i))] → W p l e room_1 s m #[Value.ref b] below meth c H locs (cells + 2) (slots + 11) Q (F0 m 796 ls [])) : W p l e room_1 s m #[Value.ref b] below meth c H locs cells slots Q (F0 m 390 ls []) := by
  obtain ⟨hx, hb, hml, hown, hts, hX, hbl, hN0, hfl, hKm, hKc, hKo, hN, hXK⟩ := C0
  have hG := fun (w : Cond) (h : w ∈ wG) => hts w (List.mem_cons_of_mem _ h)
  have hA : ∀ q : Nat, s.heap.size ≤ q → lw_A s q := fun _ h => h
  have hbA : ¬ lw_A s b := Nat.not_le.mpr hbl
  obtain ⟨hmo, fs, heo⟩ := hCS.recv
  have hI : InvM nf no nt nb AI AN := hCS.inv
  refine lv_aload_n hx hb d_Law_law_390 rfl (lv_at hl 1 rfl) ?_
  refine lv_aload_n hx hb d_Law_law_391 rfl (lv_at hl 0 rfl) ?_
  refine lv_iload hx hb d_Law_law_392 (lv_at hl 4 rfl) ?_
  refine lv_iconst (v := 1) hx hb d_Law_law_394 (by decide) ?_
  refine lv_iadd hx hb d_Law_law_395 ?_
  refine lv_topI (y := nI (i + 1)) (nI_add i 1) ?_
  refine va_sld hx hb hX hbl hbA hS (vp_in_nI (by omega) (by omega)) d_Law_law_396 ?_
  rw [nI_clamp (by omega)]
  have hP : va_P (dC, dI) classes ([(q3, .inl (k3, 1, .inr (.inl ov)))] ++ (va_pl L f ++ (mw ad cA th yr nf no nt bd nb fl AI AN AB AL))) H := hP
  have hD : va_D (lw_A s) ([(q3, .inl (k3, 1, .inr (.inl ov)))] ++ (va_pl L f ++ (mw ad cA th yr nf no nt bd nb fl AI AN AB AL))) := hD
  refine pt_calli (wa := [(q3, .inl (k3, 1, .inr (.inl ov)))]) (wc := va_pl L f) (wb := (mw ad cA th yr nf no nt bd nb fl AI AN AB AL)) (va_runV (As := [.int (xs (i + 1))]) (rest := []) ⟨hx, hb, hml, hown, hts⟩ (c_FB_cancel l dC dI cs o th yr nf no nt bd nb fl AI AN AB AL L f _ (xs (i + 1)) hCS) (cwV 1 hts (gd_V k_293 k_294 k_295 k_14 k_296) rfl rfl rfl (by decide +kernel) ⟨Nat.le_of_ble_eq_true rfl, Nat.le_of_ble_eq_true rfl⟩) (fw_mreV hKc hN (pt_P (pt_P hP).2).1 (pt_D (pt_D hD).2.1).1 rfl hmo heo) rfl rfl hl.1 rfl (lv_room (Nat.le_of_ble_eq_true rfl)) d_Law_law_397 ⟨lw_fitC (cells := cells) (mc := 0) hc1 (by decide), lw_fitS (slots := slots) (ms := 0) hs1 (by decide)⟩) hP hD hS hA (fun r1 u1 H locs hw1 hP hD hS => ?_)
  refine lv_aload_n hx hb d_Law_law_400 rfl (lv_at hl 2 rfl) ?_
  refine lv_aload_n hx hb d_Law_law_401 rfl (lv_at hl 0 rfl) ?_
  refine lv_iload hx hb d_Law_law_402 (lv_at hl 4 rfl) ?_
  refine lv_iconst (v := 1) hx hb d_Law_law_404 (by decide) ?_
  refine lv_iadd hx hb d_Law_law_405 ?_
  refine lv_topI (y := nI (i + 1)) (nI_add i 1) ?_
  refine va_sld hx hb hX hbl hbA hS (vp_in_nI (by omega) (by omega)) d_Law_law_406 ?_
  rw [nI_clamp (by omega)]
  have hP : va_P (dC, dI) classes (((q3, .inl (k3, 1, .inr (.inl ov))) :: va_pl u1.1 u1.2) ++ (mw ad cA th yr nf no nt bd nb fl AI AN AB AL)) H := hP
  have hD : va_D (lw_A s) (((q3, .inl (k3, 1, .inr (.inl ov))) :: va_pl u1.1 u1.2) ++ (mw ad cA th yr nf no nt bd nb fl AI AN AB AL)) := hD
  refine pe_calli (wa := (q3, .inl (k3, 1, .inr (.inl ov))) :: va_pl u1.1 u1.2) (wc := (mw ad cA th yr nf no nt bd nb fl AI AN AB AL)) (va_runV (As := [.int (xs (i + 1))]) (rest := [.int r1]) ⟨hx, hb, hml, hown, hts⟩ (c_Mo_cancel l dC dI ad cA th yr nf no nt bd nb fl AI AN AB AL _ (xs (i + 1)) hI) (cwV 1 hts (gd_V k_685 k_686 k_687 k_17 k_688) rfl rfl rfl (by decide +kernel) ⟨Nat.le_of_ble_eq_true rfl, Nat.le_of_ble_eq_true rfl⟩) (mu_preV 0 hKm hN (pt_P hP).2 (pt_D hD).2.1 rfl rfl) rfl rfl hl.1 rfl (lv_room (Nat.le_of_ble_eq_true rfl)) d_Law_law_407 ⟨lw_fitC2 (cells := cells) (mc := 0) hc1 (by decide), lw_fitS2 (slots := slots) (ms := 0) hs1 (by decide)⟩) hP hD hS hA (fun r2 u2 H locs hw2 hP hD hS => ?_)
  have hw2 : (r2, u2) = m_cancel (th, yr, nf, no, nt, bd, nb, fl, AI, AN, AB, AL) (xs (i + 1)) := hw2
  have hw1 : r1 = (m_cancel (th, yr, nf, no, nt, bd, nb, fl, AI, AN, AB, AL) (xs (i + 1))).1 ∧ CS cs o (m_cancel (th, yr, nf, no, nt, bd, nb, fl, AI, AN, AB, AL) (xs (i + 1))).2 u1.1 u1.2 := hw1
  rw [← hw2] at hw1
  obtain ⟨rfl, hCS⟩ := hw1
  have hCS : CS cs o u2 u1.1 u1.2 := hCS
  refine lv_icmp_eq (tgt := 796) hx hb d_Law_law_410 (by decide) (fun c_1 => ?_) (fun c_1 => ?_)
  · refine W.widen (k := cells + 2) (n := slots + 11) (by omega) (by omega) ?_
    exact kk u2 u1.1 u1.2 ov H locs ls hCS hP hD hS (lv_sub hl [0, 1, 2, 3, 4] rfl)
  · exact absurd rfl c_1

set_option maxHeartbeats 4000000 in
set_option maxRecDepth 100000 in
theorem lw_band {p : Program} {l : Launch} {e : Env} {s : State} {m : MethodId} {below : List Frame} {meth : Method} {c : Code} {Q : State → Prop} {b N0 : Nat} {xs : Nat → Int32} {dC : Nat → ClassId} {dI : Nat → Nat → Nat} {ad : Nat → Nat} {cA cs : Nat → ClassId} {o q3 : Nat} {k3 : ClassId} {th yr : Int32} {nf no nt : Nat} {bd : Int32} {nb : Nat} {fl : Int32} {AI : Nat → Nat → Int32} {AN : Nat → Nat → Nat} {AB : Nat → Nat → Bool} {AL : Nat → Nat → Int64} {L : List Nat} {f : Nat → va_E} {ov : Nat → Int64} {i cells slots : Nat} {H : Heap} {locs : List Loc} {ls : Array Slot} (C0 : lw_C p l s m c b N0 xs dC dI cA cs k3) (hi : i + 5 ≤ N0) (hc1 : cells + 2 ≤ 601024) (hs1 : slots + 11 ≤ 7293000) (hCS : CS cs o (th, yr, nf, no, nt, bd, nb, fl, AI, AN, AB, AL) L f) (hP : va_P (dC, dI) classes (((q3, .inl (k3, 1, .inr (.inl ov))) :: va_pl L f) ++ (mw ad cA th yr nf no nt bd nb fl AI AN AB AL)) H) (hD : va_D (lw_A s) (((q3, .inl (k3, 1, .inr (.inl ov))) :: va_pl L f) ++ (mw ad cA th yr nf no nt bd nb fl AI AN AB AL))) (hS : va_S (lw_A s) s.heap H locs) (hl : lv_has ls 7 [(0, .ref b), (1, .ref o), (2, .ref (ad 0)), (3, .ref q3), (4, .int (nI i))])
    (kk : ∀ (u : MS) (L : List Nat) (f : Nat → va_E) (ov : Nat → Int64) (H : Heap) (locs : List Loc) (ls : Array Slot), CS cs o u L f → va_P (dC, dI) classes (((q3, .inl (k3, 1, .inr (.inl ov))) :: va_pl L f) ++ mwS ad cA u) H → va_D (lw_A s) (((q3, .inl (k3, 1, .inr (.inl ov))) :: va_pl L f) ++ mwS ad cA u) → va_S (lw_A s) s.heap H locs → lv_has ls 7 [(0, .ref b), (1, .ref o), (2, .ref (ad 0)), (3, .ref q3), (4, .int (nI i))] → W p l e room_1 s m #[Value.ref b] below meth c H locs (cells + 2) (slots + 11) Q (F0 m 796 ls [])) : W p l e room_1 s m #[Value.ref b] below meth c H locs cells slots Q (F0 m 415 ls []) := by
  obtain ⟨hx, hb, hml, hown, hts, hX, hbl, hN0, hfl, hKm, hKc, hKo, hN, hXK⟩ := C0
  have hG := fun (w : Cond) (h : w ∈ wG) => hts w (List.mem_cons_of_mem _ h)
  have hA : ∀ q : Nat, s.heap.size ≤ q → lw_A s q := fun _ h => h
  have hbA : ¬ lw_A s b := Nat.not_le.mpr hbl
  obtain ⟨hmo, fs, heo⟩ := hCS.recv
  have hI : InvM nf no nt nb AI AN := hCS.inv
  refine lv_aload_n hx hb d_Law_law_415 rfl (lv_at hl 1 rfl) ?_
  refine lv_aload_n hx hb d_Law_law_416 rfl (lv_at hl 0 rfl) ?_
  refine lv_iload hx hb d_Law_law_417 (lv_at hl 4 rfl) ?_
  refine lv_iconst (v := 1) hx hb d_Law_law_419 (by decide) ?_
  refine lv_iadd hx hb d_Law_law_420 ?_
  refine lv_topI (y := nI (i + 1)) (nI_add i 1) ?_
  refine va_sld hx hb hX hbl hbA hS (vp_in_nI (by omega) (by omega)) d_Law_law_421 ?_
  rw [nI_clamp (by omega)]
  have hP : va_P (dC, dI) classes ([(q3, .inl (k3, 1, .inr (.inl ov)))] ++ (va_pl L f ++ (mw ad cA th yr nf no nt bd nb fl AI AN AB AL))) H := hP
  have hD : va_D (lw_A s) ([(q3, .inl (k3, 1, .inr (.inl ov)))] ++ (va_pl L f ++ (mw ad cA th yr nf no nt bd nb fl AI AN AB AL))) := hD
  refine pt_calli (wa := [(q3, .inl (k3, 1, .inr (.inl ov)))]) (wc := va_pl L f) (wb := (mw ad cA th yr nf no nt bd nb fl AI AN AB AL)) (va_runV (As := [.int (xs (i + 1))]) (rest := []) ⟨hx, hb, hml, hown, hts⟩ (c_FB_band l dC dI cs o th yr nf no nt bd nb fl AI AN AB AL L f _ (xs (i + 1)) hCS) (cwV 1 hts (gd_V k_297 k_298 k_299 k_14 k_300) rfl rfl rfl (by decide +kernel) ⟨Nat.le_of_ble_eq_true rfl, Nat.le_of_ble_eq_true rfl⟩) (fw_mreV hKc hN (pt_P (pt_P hP).2).1 (pt_D (pt_D hD).2.1).1 rfl hmo heo) rfl rfl hl.1 rfl (lv_room (Nat.le_of_ble_eq_true rfl)) d_Law_law_422 ⟨lw_fitC (cells := cells) (mc := 0) hc1 (by decide), lw_fitS (slots := slots) (ms := 0) hs1 (by decide)⟩) hP hD hS hA (fun r1 u1 H locs hw1 hP hD hS => ?_)
  refine lv_aload_n hx hb d_Law_law_425 rfl (lv_at hl 2 rfl) ?_
  refine lv_aload_n hx hb d_Law_law_426 rfl (lv_at hl 0 rfl) ?_
  refine lv_iload hx hb d_Law_law_427 (lv_at hl 4 rfl) ?_
  refine lv_iconst (v := 1) hx hb d_Law_law_429 (by decide) ?_
  refine lv_iadd hx hb d_Law_law_430 ?_
  refine lv_topI (y := nI (i + 1)) (nI_add i 1) ?_
  refine va_sld hx hb hX hbl hbA hS (vp_in_nI (by omega) (by omega)) d_Law_law_431 ?_
  rw [nI_clamp (by omega)]
  have hP : va_P (dC, dI) classes (((q3, .inl (k3, 1, .inr (.inl ov))) :: va_pl u1.1 u1.2) ++ (mw ad cA th yr nf no nt bd nb fl AI AN AB AL)) H := hP
  have hD : va_D (lw_A s) (((q3, .inl (k3, 1, .inr (.inl ov))) :: va_pl u1.1 u1.2) ++ (mw ad cA th yr nf no nt bd nb fl AI AN AB AL)) := hD
  refine pe_calli (wa := (q3, .inl (k3, 1, .inr (.inl ov))) :: va_pl u1.1 u1.2) (wc := (mw ad cA th yr nf no nt bd nb fl AI AN AB AL)) (va_runV (As := [.int (xs (i + 1))]) (rest := [.int r1]) ⟨hx, hb, hml, hown, hts⟩ (c_Mo_band l dC dI ad cA th yr nf no nt bd nb fl AI AN AB AL _ (xs (i + 1)) hI) (cwV 1 hts (gd_V k_689 k_690 k_691 k_17 k_692) rfl rfl rfl (by decide +kernel) ⟨Nat.le_of_ble_eq_true rfl, Nat.le_of_ble_eq_true rfl⟩) (mu_preV 0 hKm hN (pt_P hP).2 (pt_D hD).2.1 rfl rfl) rfl rfl hl.1 rfl (lv_room (Nat.le_of_ble_eq_true rfl)) d_Law_law_432 ⟨lw_fitC2 (cells := cells) (mc := 0) hc1 (by decide), lw_fitS2 (slots := slots) (ms := 0) hs1 (by decide)⟩) hP hD hS hA (fun r2 u2 H locs hw2 hP hD hS => ?_)
  have hw2 : (r2, u2) = m_band (th, yr, nf, no, nt, bd, nb, fl, AI, AN, AB, AL) (xs (i + 1)) := hw2
  have hw1 : r1 = (m_band (th, yr, nf, no, nt, bd, nb, fl, AI, AN, AB, AL) (xs (i + 1))).1 ∧ CS cs o (m_band (th, yr, nf, no, nt, bd, nb, fl, AI, AN, AB, AL) (xs (i + 1))).2 u1.1 u1.2 := hw1
  rw [← hw2] at hw1
  obtain ⟨rfl, hCS⟩ := hw1
  have hCS : CS cs o u2 u1.1 u1.2 := hCS
  refine lv_icmp_eq (tgt := 796) hx hb d_Law_law_435 (by decide) (fun c_1 => ?_) (fun c_1 => ?_)
  · refine W.widen (k := cells + 2) (n := slots + 11) (by omega) (by omega) ?_
    exact kk u2 u1.1 u1.2 ov H locs ls hCS hP hD hS (lv_sub hl [0, 1, 2, 3, 4] rfl)
  · exact absurd rfl c_1

set_option maxHeartbeats 4000000 in
set_option maxRecDepth 100000 in
theorem lw_currency {p : Program} {l : Launch} {e : Env} {s : State} {m : MethodId} {below : List Frame} {meth : Method} {c : Code} {Q : State → Prop} {b N0 : Nat} {xs : Nat → Int32} {dC : Nat → ClassId} {dI : Nat → Nat → Nat} {ad : Nat → Nat} {cA cs : Nat → ClassId} {o q3 : Nat} {k3 : ClassId} {th yr : Int32} {nf no nt : Nat} {bd : Int32} {nb : Nat} {fl : Int32} {AI : Nat → Nat → Int32} {AN : Nat → Nat → Nat} {AB : Nat → Nat → Bool} {AL : Nat → Nat → Int64} {L : List Nat} {f : Nat → va_E} {ov : Nat → Int64} {i cells slots : Nat} {H : Heap} {locs : List Loc} {ls : Array Slot} (C0 : lw_C p l s m c b N0 xs dC dI cA cs k3) (hi : i + 5 ≤ N0) (hc1 : cells + 2 ≤ 601024) (hs1 : slots + 11 ≤ 7293000) (hCS : CS cs o (th, yr, nf, no, nt, bd, nb, fl, AI, AN, AB, AL) L f) (hP : va_P (dC, dI) classes (((q3, .inl (k3, 1, .inr (.inl ov))) :: va_pl L f) ++ (mw ad cA th yr nf no nt bd nb fl AI AN AB AL)) H) (hD : va_D (lw_A s) (((q3, .inl (k3, 1, .inr (.inl ov))) :: va_pl L f) ++ (mw ad cA th yr nf no nt bd nb fl AI AN AB AL))) (hS : va_S (lw_A s) s.heap H locs) (hl : lv_has ls 7 [(0, .ref b), (1, .ref o), (2, .ref (ad 0)), (3, .ref q3), (4, .int (nI i))])
    (kk : ∀ (u : MS) (L : List Nat) (f : Nat → va_E) (ov : Nat → Int64) (H : Heap) (locs : List Loc) (ls : Array Slot), CS cs o u L f → va_P (dC, dI) classes (((q3, .inl (k3, 1, .inr (.inl ov))) :: va_pl L f) ++ mwS ad cA u) H → va_D (lw_A s) (((q3, .inl (k3, 1, .inr (.inl ov))) :: va_pl L f) ++ mwS ad cA u) → va_S (lw_A s) s.heap H locs → lv_has ls 7 [(0, .ref b), (1, .ref o), (2, .ref (ad 0)), (3, .ref q3), (4, .int (nI i))] → W p l e room_1 s m #[Value.ref b] below meth c H locs (cells + 2) (slots + 11) Q (F0 m 796 ls [])) : W p l e room_1 s m #[Value.ref b] below meth c H locs cells slots Q (F0 m 440 ls []) := by
  obtain ⟨hx, hb, hml, hown, hts, hX, hbl, hN0, hfl, hKm, hKc, hKo, hN, hXK⟩ := C0
  have hG := fun (w : Cond) (h : w ∈ wG) => hts w (List.mem_cons_of_mem _ h)
  have hA : ∀ q : Nat, s.heap.size ≤ q → lw_A s q := fun _ h => h
  have hbA : ¬ lw_A s b := Nat.not_le.mpr hbl
  obtain ⟨hmo, fs, heo⟩ := hCS.recv
  have hI : InvM nf no nt nb AI AN := hCS.inv
  refine lv_aload_n hx hb d_Law_law_440 rfl (lv_at hl 1 rfl) ?_
  refine lv_aload_n hx hb d_Law_law_441 rfl (lv_at hl 0 rfl) ?_
  refine lv_iload hx hb d_Law_law_442 (lv_at hl 4 rfl) ?_
  refine lv_iconst (v := 1) hx hb d_Law_law_444 (by decide) ?_
  refine lv_iadd hx hb d_Law_law_445 ?_
  refine lv_topI (y := nI (i + 1)) (nI_add i 1) ?_
  refine va_sld hx hb hX hbl hbA hS (vp_in_nI (by omega) (by omega)) d_Law_law_446 ?_
  rw [nI_clamp (by omega)]
  refine lv_aload_n hx hb d_Law_law_447 rfl (lv_at hl 0 rfl) ?_
  refine lv_iload hx hb d_Law_law_448 (lv_at hl 4 rfl) ?_
  refine lv_iconst (v := 2) hx hb d_Law_law_450 (by decide) ?_
  refine lv_iadd hx hb d_Law_law_451 ?_
  refine lv_topI (y := nI (i + 2)) (nI_add i 2) ?_
  refine va_sld hx hb hX hbl hbA hS (vp_in_nI (by omega) (by omega)) d_Law_law_452 ?_
  rw [nI_clamp (by omega)]
  refine lv_aload_n hx hb d_Law_law_453 rfl (lv_at hl 0 rfl) ?_
  refine lv_iload hx hb d_Law_law_454 (lv_at hl 4 rfl) ?_
  refine lv_iconst (v := 3) hx hb d_Law_law_456 (by decide) ?_
  refine lv_iadd hx hb d_Law_law_457 ?_
  refine lv_topI (y := nI (i + 3)) (nI_add i 3) ?_
  refine va_sld hx hb hX hbl hbA hS (vp_in_nI (by omega) (by omega)) d_Law_law_458 ?_
  rw [nI_clamp (by omega)]
  refine lv_aload_n hx hb d_Law_law_459 rfl (lv_at hl 0 rfl) ?_
  refine lv_iload hx hb d_Law_law_460 (lv_at hl 4 rfl) ?_
  refine lv_iconst (v := 4) hx hb d_Law_law_462 (by decide) ?_
  refine lv_iadd hx hb d_Law_law_463 ?_
  refine lv_topI (y := nI (i + 4)) (nI_add i 4) ?_
  refine va_sld hx hb hX hbl hbA hS (vp_in_nI (by omega) (by omega)) d_Law_law_464 ?_
  rw [nI_clamp (by omega)]
  have hP : va_P (dC, dI) classes ([(q3, .inl (k3, 1, .inr (.inl ov)))] ++ (va_pl L f ++ (mw ad cA th yr nf no nt bd nb fl AI AN AB AL))) H := hP
  have hD : va_D (lw_A s) ([(q3, .inl (k3, 1, .inr (.inl ov)))] ++ (va_pl L f ++ (mw ad cA th yr nf no nt bd nb fl AI AN AB AL))) := hD
  refine pt_calli (wa := [(q3, .inl (k3, 1, .inr (.inl ov)))]) (wc := va_pl L f) (wb := (mw ad cA th yr nf no nt bd nb fl AI AN AB AL)) (va_runV (As := [.int (xs (i + 1)), .int (xs (i + 2)), .int (xs (i + 3)), .int (xs (i + 4))]) (rest := []) ⟨hx, hb, hml, hown, hts⟩ (c_FB_currency l dC dI cs o th yr nf no nt bd nb fl AI AN AB AL L f _ (xs (i + 1)) (xs (i + 2)) (xs (i + 3)) (xs (i + 4)) hCS) (cwV 4 hts (gd_V k_302 k_303 k_304 k_14 k_305) rfl rfl rfl (by decide +kernel) ⟨Nat.le_of_ble_eq_true rfl, Nat.le_of_ble_eq_true rfl⟩) (fw_mreV hKc hN (pt_P (pt_P hP).2).1 (pt_D (pt_D hD).2.1).1 rfl hmo heo) rfl rfl hl.1 rfl (lv_room (Nat.le_of_ble_eq_true rfl)) d_Law_law_465 ⟨lw_fitC (cells := cells) (mc := 1) hc1 (by decide), lw_fitS (slots := slots) (ms := 5) hs1 (by decide)⟩) hP hD hS hA (fun r1 u1 H locs hw1 hP hD hS => ?_)
  refine lv_aload_n hx hb d_Law_law_468 rfl (lv_at hl 2 rfl) ?_
  refine lv_aload_n hx hb d_Law_law_469 rfl (lv_at hl 0 rfl) ?_
  refine lv_iload hx hb d_Law_law_470 (lv_at hl 4 rfl) ?_
  refine lv_iconst (v := 1) hx hb d_Law_law_472 (by decide) ?_
  refine lv_iadd hx hb d_Law_law_473 ?_
  refine lv_topI (y := nI (i + 1)) (nI_add i 1) ?_
  refine va_sld hx hb hX hbl hbA hS (vp_in_nI (by omega) (by omega)) d_Law_law_474 ?_
  rw [nI_clamp (by omega)]
  refine lv_aload_n hx hb d_Law_law_475 rfl (lv_at hl 0 rfl) ?_
  refine lv_iload hx hb d_Law_law_476 (lv_at hl 4 rfl) ?_
  refine lv_iconst (v := 2) hx hb d_Law_law_478 (by decide) ?_
  refine lv_iadd hx hb d_Law_law_479 ?_
  refine lv_topI (y := nI (i + 2)) (nI_add i 2) ?_
  refine va_sld hx hb hX hbl hbA hS (vp_in_nI (by omega) (by omega)) d_Law_law_480 ?_
  rw [nI_clamp (by omega)]
  refine lv_aload_n hx hb d_Law_law_481 rfl (lv_at hl 0 rfl) ?_
  refine lv_iload hx hb d_Law_law_482 (lv_at hl 4 rfl) ?_
  refine lv_iconst (v := 3) hx hb d_Law_law_484 (by decide) ?_
  refine lv_iadd hx hb d_Law_law_485 ?_
  refine lv_topI (y := nI (i + 3)) (nI_add i 3) ?_
  refine va_sld hx hb hX hbl hbA hS (vp_in_nI (by omega) (by omega)) d_Law_law_486 ?_
  rw [nI_clamp (by omega)]
  refine lv_aload_n hx hb d_Law_law_487 rfl (lv_at hl 0 rfl) ?_
  refine lv_iload hx hb d_Law_law_488 (lv_at hl 4 rfl) ?_
  refine lv_iconst (v := 4) hx hb d_Law_law_490 (by decide) ?_
  refine lv_iadd hx hb d_Law_law_491 ?_
  refine lv_topI (y := nI (i + 4)) (nI_add i 4) ?_
  refine va_sld hx hb hX hbl hbA hS (vp_in_nI (by omega) (by omega)) d_Law_law_492 ?_
  rw [nI_clamp (by omega)]
  have hP : va_P (dC, dI) classes (((q3, .inl (k3, 1, .inr (.inl ov))) :: va_pl u1.1 u1.2) ++ (mw ad cA th yr nf no nt bd nb fl AI AN AB AL)) H := hP
  have hD : va_D (lw_A s) (((q3, .inl (k3, 1, .inr (.inl ov))) :: va_pl u1.1 u1.2) ++ (mw ad cA th yr nf no nt bd nb fl AI AN AB AL)) := hD
  refine pe_calli (wa := (q3, .inl (k3, 1, .inr (.inl ov))) :: va_pl u1.1 u1.2) (wc := (mw ad cA th yr nf no nt bd nb fl AI AN AB AL)) (va_runV (As := [.int (xs (i + 1)), .int (xs (i + 2)), .int (xs (i + 3)), .int (xs (i + 4))]) (rest := [.int r1]) ⟨hx, hb, hml, hown, hts⟩ (c_Mo_currency l dC dI ad cA th yr nf no nt bd nb fl AI AN AB AL _ (xs (i + 1)) (xs (i + 2)) (xs (i + 3)) (xs (i + 4)) hI) (cwV 4 hts (gd_V k_693 k_694 k_695 k_17 k_696) rfl rfl rfl (by decide +kernel) ⟨Nat.le_of_ble_eq_true rfl, Nat.le_of_ble_eq_true rfl⟩) (mu_preV 0 hKm hN (pt_P hP).2 (pt_D hD).2.1 rfl rfl) rfl rfl hl.1 rfl (lv_room (Nat.le_of_ble_eq_true rfl)) d_Law_law_493 ⟨lw_fitC2 (cells := cells) (mc := 1) hc1 (by decide), lw_fitS2 (slots := slots) (ms := 5) hs1 (by decide)⟩) hP hD hS hA (fun r2 u2 H locs hw2 hP hD hS => ?_)
  have hw2 : (r2, u2) = m_currency (th, yr, nf, no, nt, bd, nb, fl, AI, AN, AB, AL) (xs (i + 1)) (xs (i + 2)) (xs (i + 3)) (xs (i + 4)) := hw2
  have hw1 : r1 = (m_currency (th, yr, nf, no, nt, bd, nb, fl, AI, AN, AB, AL) (xs (i + 1)) (xs (i + 2)) (xs (i + 3)) (xs (i + 4))).1 ∧ CS cs o (m_currency (th, yr, nf, no, nt, bd, nb, fl, AI, AN, AB, AL) (xs (i + 1)) (xs (i + 2)) (xs (i + 3)) (xs (i + 4))).2 u1.1 u1.2 := hw1
  rw [← hw2] at hw1
  obtain ⟨rfl, hCS⟩ := hw1
  have hCS : CS cs o u2 u1.1 u1.2 := hCS
  refine lv_icmp_eq (tgt := 796) hx hb d_Law_law_496 (by decide) (fun c_1 => ?_) (fun c_1 => ?_)
  · refine W.widen (k := cells + 2) (n := slots + 11) (by omega) (by omega) ?_
    exact kk u2 u1.1 u1.2 ov H locs ls hCS hP hD hS (lv_sub hl [0, 1, 2, 3, 4] rfl)
  · exact absurd rfl c_1
