set_option maxHeartbeats 4000000 in
set_option maxRecDepth 100000 in
theorem lw_failing {p : Program} {l : Launch} {e : Env} {s : State} {m : MethodId} {below : List Frame} {meth : Method} {c : Code} {Q : State → Prop} {b N0 : Nat} {xs : Nat → Int32} {dC : Nat → ClassId} {dI : Nat → Nat → Nat} {ad : Nat → Nat} {cA cs : Nat → ClassId} {o q3 : Nat} {k3 : ClassId} {th yr : Int32} {nf no nt : Nat} {bd : Int32} {nb : Nat} {fl : Int32} {AI : Nat → Nat → Int32} {AN : Nat → Nat → Nat} {AB : Nat → Nat → Bool} {AL : Nat → Nat → Int64} {L : List Nat} {f : Nat → va_E} {ov : Nat → Int64} {i cells slots : Nat} {H : Heap} {locs : List Loc} {ls : Array Slot} (C0 : lw_C p l s m c b N0 xs dC dI cA cs k3) (hi : i + 5 ≤ N0) (hc1 : cells + 2 ≤ 601024) (hs1 : slots + 11 ≤ 7293000) (hCS : CS cs o (th, yr, nf, no, nt, bd, nb, fl, AI, AN, AB, AL) L f) (hP : va_P (dC, dI) classes (((q3, .inl (k3, 1, .inr (.inl ov))) :: va_pl L f) ++ (mw ad cA th yr nf no nt bd nb fl AI AN AB AL)) H) (hD : va_D (lw_A s) (((q3, .inl (k3, 1, .inr (.inl ov))) :: va_pl L f) ++ (mw ad cA th yr nf no nt bd nb fl AI AN AB AL))) (hS : va_S (lw_A s) s.heap H locs) (hl : lv_has ls 7 [(0, .ref b), (1, .ref o), (2, .ref (ad 0)), (3, .ref q3), (4, .int (nI i))])
    (kk : ∀ (u : MS) (L : List Nat) (f : Nat → va_E) (ov : Nat → Int64) (H : Heap) (locs : List Loc) (ls : Array Slot), CS cs o u L f → va_P (dC, dI) classes (((q3, .inl (k3, 1, .inr (.inl ov))) :: va_pl L f) ++ mwS ad cA u) H → va_D (lw_A s) (((q3, .inl (k3, 1, .inr (.inl ov))) :: va_pl L f) ++ mwS ad cA u) → va_S (lw_A s) s.heap H locs → lv_has ls 7 [(0, .ref b), (1, .ref o), (2, .ref (ad 0)), (3, .ref q3), (4, .int (nI i))] → W p l e room_1 s m #[Value.ref b] below meth c H locs (cells + 2) (slots + 11) Q (F0 m 796 ls [])) : W p l e room_1 s m #[Value.ref b] below meth c H locs cells slots Q (F0 m 668 ls []) := by
  obtain ⟨hx, hb, hml, hown, hts, hX, hbl, hN0, hfl, hKm, hKc, hKo, hN, hXK⟩ := C0
  have hG := fun (w : Cond) (h : w ∈ wG) => hts w (List.mem_cons_of_mem _ h)
  have hA : ∀ q : Nat, s.heap.size ≤ q → lw_A s q := fun _ h => h
  have hbA : ¬ lw_A s b := Nat.not_le.mpr hbl
  obtain ⟨hmo, fs, heo⟩ := hCS.recv
  have hI : InvM nf no nt nb AI AN := hCS.inv
  refine lv_aload_n hx hb d_Law_law_668 rfl (lv_at hl 1 rfl) ?_
  have hP : va_P (dC, dI) classes ([(q3, .inl (k3, 1, .inr (.inl ov)))] ++ (va_pl L f ++ (mw ad cA th yr nf no nt bd nb fl AI AN AB AL))) H := hP
  have hD : va_D (lw_A s) ([(q3, .inl (k3, 1, .inr (.inl ov)))] ++ (va_pl L f ++ (mw ad cA th yr nf no nt bd nb fl AI AN AB AL))) := hD
  refine rd_calli (va_runV (As := []) (rest := []) ⟨hx, hb, hml, hown, hts⟩ (c_FB_failC l dC dI cs o th yr nf no nt bd nb fl AI AN AB AL L f hCS) (cwV 0 hts (gd_V k_397 k_398 k_399 k_14 k_400) rfl rfl rfl (by decide +kernel) ⟨Nat.le_of_ble_eq_true rfl, Nat.le_of_ble_eq_true rfl⟩) (fw_preV hKc hN (pt_P (pt_P hP).2).1 rfl hmo heo) rfl rfl hl.1 rfl (lv_room (Nat.le_of_ble_eq_true rfl)) d_Law_law_669 ⟨lw_fitC (cells := cells) (mc := 0) hc1 (by decide), lw_fitS (slots := slots) (ms := 0) hs1 (by decide)⟩) (fun r1 hw1 => ?_)
  have hCS2 : CS cs o (m_failing (th, yr, nf, no, nt, bd, nb, fl, AI, AN, AB, AL)).2 L f := hCS
  refine lv_aload_n hx hb d_Law_law_672 rfl (lv_at hl 2 rfl) ?_
  have hP : va_P (dC, dI) classes (((q3, .inl (k3, 1, .inr (.inl ov))) :: va_pl L f) ++ (mw ad cA th yr nf no nt bd nb fl AI AN AB AL)) H := hP
  have hD : va_D (lw_A s) (((q3, .inl (k3, 1, .inr (.inl ov))) :: va_pl L f) ++ (mw ad cA th yr nf no nt bd nb fl AI AN AB AL)) := hD
  refine pe_calli (wa := (q3, .inl (k3, 1, .inr (.inl ov))) :: va_pl L f) (wc := (mw ad cA th yr nf no nt bd nb fl AI AN AB AL)) (va_runV (As := []) (rest := [.int r1]) ⟨hx, hb, hml, hown, hts⟩ (c_Mo_failing l dC dI ad cA th yr nf no nt bd nb fl AI AN AB AL _ hI) (cwV 0 hts (gd_V k_719 k_720 k_721 k_17 k_722) rfl rfl rfl (by decide +kernel) ⟨Nat.le_of_ble_eq_true rfl, Nat.le_of_ble_eq_true rfl⟩) (mu_preV 0 hKm hN (pt_P hP).2 (pt_D hD).2.1 rfl rfl) rfl rfl hl.1 rfl (lv_room (Nat.le_of_ble_eq_true rfl)) d_Law_law_673 ⟨lw_fitC (cells := cells) (mc := 0) hc1 (by decide), lw_fitS (slots := slots) (ms := 0) hs1 (by decide)⟩) hP hD hS hA (fun r2 u2 H locs hw2 hP hD hS => ?_)
  have hw2 : (r2, u2) = m_failing (th, yr, nf, no, nt, bd, nb, fl, AI, AN, AB, AL) := hw2
  have hw1 : r1 = (m_failing (th, yr, nf, no, nt, bd, nb, fl, AI, AN, AB, AL)).1 := hw1
  rw [← hw2] at hw1 hCS2
  subst hw1
  have hCS : CS cs o u2 L f := hCS2
  refine lv_icmp_eq (tgt := 796) hx hb d_Law_law_676 (by decide) (fun c_1 => ?_) (fun c_1 => ?_)
  · refine W.widen (k := cells + 2) (n := slots + 11) (by omega) (by omega) ?_
    exact kk u2 L f ov H locs ls hCS hP hD hS (lv_sub hl [0, 1, 2, 3, 4] rfl)
  · exact absurd rfl c_1

set_option maxHeartbeats 4000000 in
set_option maxRecDepth 100000 in
theorem lw_close {p : Program} {l : Launch} {e : Env} {s : State} {m : MethodId} {below : List Frame} {meth : Method} {c : Code} {Q : State → Prop} {b N0 : Nat} {xs : Nat → Int32} {dC : Nat → ClassId} {dI : Nat → Nat → Nat} {ad : Nat → Nat} {cA cs : Nat → ClassId} {o q3 : Nat} {k3 : ClassId} {th yr : Int32} {nf no nt : Nat} {bd : Int32} {nb : Nat} {fl : Int32} {AI : Nat → Nat → Int32} {AN : Nat → Nat → Nat} {AB : Nat → Nat → Bool} {AL : Nat → Nat → Int64} {L : List Nat} {f : Nat → va_E} {ov : Nat → Int64} {i cells slots : Nat} {H : Heap} {locs : List Loc} {ls : Array Slot} (C0 : lw_C p l s m c b N0 xs dC dI cA cs k3) (hi : i + 5 ≤ N0) (hc1 : cells + 2 ≤ 601024) (hs1 : slots + 11 ≤ 7293000) (hCS : CS cs o (th, yr, nf, no, nt, bd, nb, fl, AI, AN, AB, AL) L f) (hP : va_P (dC, dI) classes (((q3, .inl (k3, 1, .inr (.inl ov))) :: va_pl L f) ++ (mw ad cA th yr nf no nt bd nb fl AI AN AB AL)) H) (hD : va_D (lw_A s) (((q3, .inl (k3, 1, .inr (.inl ov))) :: va_pl L f) ++ (mw ad cA th yr nf no nt bd nb fl AI AN AB AL))) (hS : va_S (lw_A s) s.heap H locs) (hl : lv_has ls 7 [(0, .ref b), (1, .ref o), (2, .ref (ad 0)), (3, .ref q3), (4, .int (nI i))])
    (kk : ∀ (u : MS) (L : List Nat) (f : Nat → va_E) (ov : Nat → Int64) (H : Heap) (locs : List Loc) (ls : Array Slot), CS cs o u L f → va_P (dC, dI) classes (((q3, .inl (k3, 1, .inr (.inl ov))) :: va_pl L f) ++ mwS ad cA u) H → va_D (lw_A s) (((q3, .inl (k3, 1, .inr (.inl ov))) :: va_pl L f) ++ mwS ad cA u) → va_S (lw_A s) s.heap H locs → lv_has ls 7 [(0, .ref b), (1, .ref o), (2, .ref (ad 0)), (3, .ref q3), (4, .int (nI i))] → W p l e room_1 s m #[Value.ref b] below meth c H locs (cells + 2) (slots + 11) Q (F0 m 796 ls [])) : W p l e room_1 s m #[Value.ref b] below meth c H locs cells slots Q (F0 m 681 ls []) := by
  obtain ⟨hx, hb, hml, hown, hts, hX, hbl, hN0, hfl, hKm, hKc, hKo, hN, hXK⟩ := C0
  have hG := fun (w : Cond) (h : w ∈ wG) => hts w (List.mem_cons_of_mem _ h)
  have hA : ∀ q : Nat, s.heap.size ≤ q → lw_A s q := fun _ h => h
  have hbA : ¬ lw_A s b := Nat.not_le.mpr hbl
  obtain ⟨hmo, fs, heo⟩ := hCS.recv
  have hI : InvM nf no nt nb AI AN := hCS.inv
  refine lv_aload_n hx hb d_Law_law_681 rfl (lv_at hl 1 rfl) ?_
  have hP : va_P (dC, dI) classes ([(q3, .inl (k3, 1, .inr (.inl ov)))] ++ (va_pl L f ++ (mw ad cA th yr nf no nt bd nb fl AI AN AB AL))) H := hP
  have hD : va_D (lw_A s) ([(q3, .inl (k3, 1, .inr (.inl ov)))] ++ (va_pl L f ++ (mw ad cA th yr nf no nt bd nb fl AI AN AB AL))) := hD
  refine pt_calli (wa := [(q3, .inl (k3, 1, .inr (.inl ov)))]) (wc := va_pl L f) (wb := (mw ad cA th yr nf no nt bd nb fl AI AN AB AL)) (va_runV (As := []) (rest := []) ⟨hx, hb, hml, hown, hts⟩ (c_FB_close l dC dI cs o th yr nf no nt bd nb fl AI AN AB AL L f _  hCS) (cwV 0 hts (gd_V k_401 k_402 k_403 k_14 k_404) rfl rfl rfl (by decide +kernel) ⟨Nat.le_of_ble_eq_true rfl, Nat.le_of_ble_eq_true rfl⟩) (fw_mreV hKc hN (pt_P (pt_P hP).2).1 (pt_D (pt_D hD).2.1).1 rfl hmo heo) rfl rfl hl.1 rfl (lv_room (Nat.le_of_ble_eq_true rfl)) d_Law_law_682 ⟨lw_fitC (cells := cells) (mc := 0) hc1 (by decide), lw_fitS (slots := slots) (ms := 0) hs1 (by decide)⟩) hP hD hS hA (fun r1 u1 H locs hw1 hP hD hS => ?_)
  refine lv_aload_n hx hb d_Law_law_685 rfl (lv_at hl 2 rfl) ?_
  have hP : va_P (dC, dI) classes (((q3, .inl (k3, 1, .inr (.inl ov))) :: va_pl u1.1 u1.2) ++ (mw ad cA th yr nf no nt bd nb fl AI AN AB AL)) H := hP
  have hD : va_D (lw_A s) (((q3, .inl (k3, 1, .inr (.inl ov))) :: va_pl u1.1 u1.2) ++ (mw ad cA th yr nf no nt bd nb fl AI AN AB AL)) := hD
  refine pe_calli (wa := (q3, .inl (k3, 1, .inr (.inl ov))) :: va_pl u1.1 u1.2) (wc := (mw ad cA th yr nf no nt bd nb fl AI AN AB AL)) (va_runV (As := []) (rest := [.int r1]) ⟨hx, hb, hml, hown, hts⟩ (c_Mo_close l dC dI ad cA th yr nf no nt bd nb fl AI AN AB AL _ hI) (cwV 0 hts (gd_V k_723 k_724 k_725 k_17 k_726) rfl rfl rfl (by decide +kernel) ⟨Nat.le_of_ble_eq_true rfl, Nat.le_of_ble_eq_true rfl⟩) (mu_preV 0 hKm hN (pt_P hP).2 (pt_D hD).2.1 rfl rfl) rfl rfl hl.1 rfl (lv_room (Nat.le_of_ble_eq_true rfl)) d_Law_law_686 ⟨lw_fitC2 (cells := cells) (mc := 0) hc1 (by decide), lw_fitS2 (slots := slots) (ms := 0) hs1 (by decide)⟩) hP hD hS hA (fun r2 u2 H locs hw2 hP hD hS => ?_)
  have hw2 : (r2, u2) = m_close (th, yr, nf, no, nt, bd, nb, fl, AI, AN, AB, AL) := hw2
  have hw1 : r1 = (m_close (th, yr, nf, no, nt, bd, nb, fl, AI, AN, AB, AL)).1 ∧ CS cs o (m_close (th, yr, nf, no, nt, bd, nb, fl, AI, AN, AB, AL)).2 u1.1 u1.2 := hw1
  rw [← hw2] at hw1
  obtain ⟨rfl, hCS⟩ := hw1
  have hCS : CS cs o u2 u1.1 u1.2 := hCS
  refine lv_icmp_eq (tgt := 796) hx hb d_Law_law_689 (by decide) (fun c_1 => ?_) (fun c_1 => ?_)
  · refine W.widen (k := cells + 2) (n := slots + 11) (by omega) (by omega) ?_
    exact kk u2 u1.1 u1.2 ov H locs ls hCS hP hD hS (lv_sub hl [0, 1, 2, 3, 4] rfl)
  · exact absurd rfl c_1

set_option maxHeartbeats 4000000 in
set_option maxRecDepth 100000 in
theorem lw_about {p : Program} {l : Launch} {e : Env} {s : State} {m : MethodId} {below : List Frame} {meth : Method} {c : Code} {Q : State → Prop} {b N0 : Nat} {xs : Nat → Int32} {dC : Nat → ClassId} {dI : Nat → Nat → Nat} {ad : Nat → Nat} {cA cs : Nat → ClassId} {o q3 : Nat} {k3 : ClassId} {th yr : Int32} {nf no nt : Nat} {bd : Int32} {nb : Nat} {fl : Int32} {AI : Nat → Nat → Int32} {AN : Nat → Nat → Nat} {AB : Nat → Nat → Bool} {AL : Nat → Nat → Int64} {L : List Nat} {f : Nat → va_E} {ov : Nat → Int64} {i cells slots : Nat} {H : Heap} {locs : List Loc} {ls : Array Slot} (C0 : lw_C p l s m c b N0 xs dC dI cA cs k3) (hi : i + 5 ≤ N0) (hc1 : cells + 2 ≤ 601024) (hs1 : slots + 11 ≤ 7293000) (hCS : CS cs o (th, yr, nf, no, nt, bd, nb, fl, AI, AN, AB, AL) L f) (hP : va_P (dC, dI) classes (((q3, .inl (k3, 1, .inr (.inl ov))) :: va_pl L f) ++ (mw ad cA th yr nf no nt bd nb fl AI AN AB AL)) H) (hD : va_D (lw_A s) (((q3, .inl (k3, 1, .inr (.inl ov))) :: va_pl L f) ++ (mw ad cA th yr nf no nt bd nb fl AI AN AB AL))) (hS : va_S (lw_A s) s.heap H locs) (hl : lv_has ls 7 [(0, .ref b), (1, .ref o), (2, .ref (ad 0)), (3, .ref q3), (4, .int (nI i))])
    (kk : ∀ (u : MS) (L : List Nat) (f : Nat → va_E) (ov : Nat → Int64) (H : Heap) (locs : List Loc) (ls : Array Slot), CS cs o u L f → va_P (dC, dI) classes (((q3, .inl (k3, 1, .inr (.inl ov))) :: va_pl L f) ++ mwS ad cA u) H → va_D (lw_A s) (((q3, .inl (k3, 1, .inr (.inl ov))) :: va_pl L f) ++ mwS ad cA u) → va_S (lw_A s) s.heap H locs → lv_has ls 7 [(0, .ref b), (1, .ref o), (2, .ref (ad 0)), (3, .ref q3), (4, .int (nI i))] → W p l e room_1 s m #[Value.ref b] below meth c H locs (cells + 2) (slots + 11) Q (F0 m 796 ls [])) : W p l e room_1 s m #[Value.ref b] below meth c H locs cells slots Q (F0 m 694 ls []) := by
  obtain ⟨hx, hb, hml, hown, hts, hX, hbl, hN0, hfl, hKm, hKc, hKo, hN, hXK⟩ := C0
  have hG := fun (w : Cond) (h : w ∈ wG) => hts w (List.mem_cons_of_mem _ h)
  have hA : ∀ q : Nat, s.heap.size ≤ q → lw_A s q := fun _ h => h
  have hbA : ¬ lw_A s b := Nat.not_le.mpr hbl
  obtain ⟨hmo, fs, heo⟩ := hCS.recv
  have hI : InvM nf no nt nb AI AN := hCS.inv
  refine lv_aload_n hx hb d_Law_law_694 rfl (lv_at hl 1 rfl) ?_
  refine lv_aload_n hx hb d_Law_law_695 rfl (lv_at hl 0 rfl) ?_
  refine lv_iload hx hb d_Law_law_696 (lv_at hl 4 rfl) ?_
  refine lv_iconst (v := 1) hx hb d_Law_law_698 (by decide) ?_
  refine lv_iadd hx hb d_Law_law_699 ?_
  refine lv_topI (y := nI (i + 1)) (nI_add i 1) ?_
  refine va_sld hx hb hX hbl hbA hS (vp_in_nI (by omega) (by omega)) d_Law_law_700 ?_
  rw [nI_clamp (by omega)]
  refine lv_aload_n hx hb d_Law_law_701 rfl (lv_at hl 0 rfl) ?_
  refine lv_iload hx hb d_Law_law_702 (lv_at hl 4 rfl) ?_
  refine lv_iconst (v := 2) hx hb d_Law_law_704 (by decide) ?_
  refine lv_iadd hx hb d_Law_law_705 ?_
  refine lv_topI (y := nI (i + 2)) (nI_add i 2) ?_
  refine va_sld hx hb hX hbl hbA hS (vp_in_nI (by omega) (by omega)) d_Law_law_706 ?_
  rw [nI_clamp (by omega)]
  have hP : va_P (dC, dI) classes ([(q3, .inl (k3, 1, .inr (.inl ov)))] ++ (va_pl L f ++ (mw ad cA th yr nf no nt bd nb fl AI AN AB AL))) H := hP
  have hD : va_D (lw_A s) ([(q3, .inl (k3, 1, .inr (.inl ov)))] ++ (va_pl L f ++ (mw ad cA th yr nf no nt bd nb fl AI AN AB AL))) := hD
  refine rd_calll (va_runV (As := [.int (xs (i + 1)), .int (xs (i + 2))]) (rest := []) ⟨hx, hb, hml, hown, hts⟩ (c_FB_about l dC dI cs o th yr nf no nt bd nb fl AI AN AB AL L f (xs (i + 1)) (xs (i + 2)) hCS) (cwV 2 hts (gd_V k_414 k_415 k_416 k_14 k_417) rfl rfl rfl (by decide +kernel) ⟨Nat.le_of_ble_eq_true rfl, Nat.le_of_ble_eq_true rfl⟩) (fw_preV hKc hN (pt_P (pt_P hP).2).1 rfl hmo heo) rfl rfl hl.1 rfl (lv_room (Nat.le_of_ble_eq_true rfl)) d_Law_law_707 ⟨lw_fitC (cells := cells) (mc := 0) hc1 (by decide), lw_fitS (slots := slots) (ms := 0) hs1 (by decide)⟩) (fun r1 hw1 => ?_)
  have hCS2 : CS cs o (m_about (th, yr, nf, no, nt, bd, nb, fl, AI, AN, AB, AL) (xs (i + 1)) (xs (i + 2))).2 L f := hCS
  refine lv_aload_n hx hb d_Law_law_710 rfl (lv_at hl 2 rfl) ?_
  refine lv_aload_n hx hb d_Law_law_711 rfl (lv_at hl 0 rfl) ?_
  refine lv_iload hx hb d_Law_law_712 (lv_at hl 4 rfl) ?_
  refine lv_iconst (v := 1) hx hb d_Law_law_714 (by decide) ?_
  refine lv_iadd hx hb d_Law_law_715 ?_
  refine lv_topI (y := nI (i + 1)) (nI_add i 1) ?_
  refine va_sld hx hb hX hbl hbA hS (vp_in_nI (by omega) (by omega)) d_Law_law_716 ?_
  rw [nI_clamp (by omega)]
  refine lv_aload_n hx hb d_Law_law_717 rfl (lv_at hl 0 rfl) ?_
  refine lv_iload hx hb d_Law_law_718 (lv_at hl 4 rfl) ?_
  refine lv_iconst (v := 2) hx hb d_Law_law_720 (by decide) ?_
  refine lv_iadd hx hb d_Law_law_721 ?_
  refine lv_topI (y := nI (i + 2)) (nI_add i 2) ?_
  refine va_sld hx hb hX hbl hbA hS (vp_in_nI (by omega) (by omega)) d_Law_law_722 ?_
  rw [nI_clamp (by omega)]
  have hP : va_P (dC, dI) classes (((q3, .inl (k3, 1, .inr (.inl ov))) :: va_pl L f) ++ (mw ad cA th yr nf no nt bd nb fl AI AN AB AL)) H := hP
  have hD : va_D (lw_A s) (((q3, .inl (k3, 1, .inr (.inl ov))) :: va_pl L f) ++ (mw ad cA th yr nf no nt bd nb fl AI AN AB AL)) := hD
  refine pe_calll (wa := (q3, .inl (k3, 1, .inr (.inl ov))) :: va_pl L f) (wc := (mw ad cA th yr nf no nt bd nb fl AI AN AB AL)) (va_runV (As := [.int (xs (i + 1)), .int (xs (i + 2))]) (rest := [.long r1]) ⟨hx, hb, hml, hown, hts⟩ (c_Mo_about l dC dI ad cA th yr nf no nt bd nb fl AI AN AB AL _ (xs (i + 1)) (xs (i + 2)) hI) (cwV 2 hts (gd_V k_727 k_728 k_729 k_17 k_730) rfl rfl rfl (by decide +kernel) ⟨Nat.le_of_ble_eq_true rfl, Nat.le_of_ble_eq_true rfl⟩) (mu_preV 0 hKm hN (pt_P hP).2 (pt_D hD).2.1 rfl rfl) rfl rfl hl.1 rfl (lv_room (Nat.le_of_ble_eq_true rfl)) d_Law_law_723 ⟨lw_fitC (cells := cells) (mc := 0) hc1 (by decide), lw_fitS (slots := slots) (ms := 0) hs1 (by decide)⟩) hP hD hS hA (fun r2 u2 H locs hw2 hP hD hS => ?_)
  have hw2 : (r2, u2) = m_about (th, yr, nf, no, nt, bd, nb, fl, AI, AN, AB, AL) (xs (i + 1)) (xs (i + 2)) := hw2
  have hw1 : r1 = (m_about (th, yr, nf, no, nt, bd, nb, fl, AI, AN, AB, AL) (xs (i + 1)) (xs (i + 2))).1 := hw1
  rw [← hw2] at hw1 hCS2
  subst hw1
  have hCS : CS cs o u2 L f := hCS2
  refine lc_eq (tgt := 796) hx hb d_Law_law_726 d_Law_law_727 (by decide) (fun c_1 => ?_) (fun c_1 => ?_)
  · refine W.widen (k := cells + 2) (n := slots + 11) (by omega) (by omega) ?_
    exact kk u2 L f ov H locs ls hCS hP hD hS (lv_sub hl [0, 1, 2, 3, 4] rfl)
  · exact absurd rfl c_1

set_option maxHeartbeats 4000000 in
set_option maxRecDepth 100000 in
theorem lw_told {p : Program} {l : Launch} {e : Env} {s : State} {m : MethodId} {below : List Frame} {meth : Method} {c : Code} {Q : State → Prop} {b N0 : Nat} {xs : Nat → Int32} {dC : Nat → ClassId} {dI : Nat → Nat → Nat} {ad : Nat → Nat} {cA cs : Nat → ClassId} {o q3 : Nat} {k3 : ClassId} {th yr : Int32} {nf no nt : Nat} {bd : Int32} {nb : Nat} {fl : Int32} {AI : Nat → Nat → Int32} {AN : Nat → Nat → Nat} {AB : Nat → Nat → Bool} {AL : Nat → Nat → Int64} {L : List Nat} {f : Nat → va_E} {ov : Nat → Int64} {i cells slots : Nat} {H : Heap} {locs : List Loc} {ls : Array Slot} (C0 : lw_C p l s m c b N0 xs dC dI cA cs k3) (hi : i + 5 ≤ N0) (hc1 : cells + 2 ≤ 601024) (hs1 : slots + 11 ≤ 7293000) (hCS : CS cs o (th, yr, nf, no, nt, bd, nb, fl, AI, AN, AB, AL) L f) (hP : va_P (dC, dI) classes (((q3, .inl (k3, 1, .inr (.inl ov))) :: va_pl L f) ++ (mw ad cA th yr nf no nt bd nb fl AI AN AB AL)) H) (hD : va_D (lw_A s) (((q3, .inl (k3, 1, .inr (.inl ov))) :: va_pl L f) ++ (mw ad cA th yr nf no nt bd nb fl AI AN AB AL))) (hS : va_S (lw_A s) s.heap H locs) (hl : lv_has ls 7 [(0, .ref b), (1, .ref o), (2, .ref (ad 0)), (3, .ref q3), (4, .int (nI i))])
    (kk : ∀ (u : MS) (L : List Nat) (f : Nat → va_E) (ov : Nat → Int64) (H : Heap) (locs : List Loc) (ls : Array Slot), CS cs o u L f → va_P (dC, dI) classes (((q3, .inl (k3, 1, .inr (.inl ov))) :: va_pl L f) ++ mwS ad cA u) H → va_D (lw_A s) (((q3, .inl (k3, 1, .inr (.inl ov))) :: va_pl L f) ++ mwS ad cA u) → va_S (lw_A s) s.heap H locs → lv_has ls 7 [(0, .ref b), (1, .ref o), (2, .ref (ad 0)), (3, .ref q3), (4, .int (nI i))] → W p l e room_1 s m #[Value.ref b] below meth c H locs (cells + 2) (slots + 11) Q (F0 m 796 ls [])) : W p l e room_1 s m #[Value.ref b] below meth c H locs cells slots Q (F0 m 732 ls []) := by
  obtain ⟨hx, hb, hml, hown, hts, hX, hbl, hN0, hfl, hKm, hKc, hKo, hN, hXK⟩ := C0
  have hG := fun (w : Cond) (h : w ∈ wG) => hts w (List.mem_cons_of_mem _ h)
  have hA : ∀ q : Nat, s.heap.size ≤ q → lw_A s q := fun _ h => h
  have hbA : ¬ lw_A s b := Nat.not_le.mpr hbl
  obtain ⟨hmo, fs, heo⟩ := hCS.recv
  have hI : InvM nf no nt nb AI AN := hCS.inv
  refine lv_aload_n hx hb d_Law_law_732 rfl (lv_at hl 1 rfl) ?_
  refine lv_aload_n hx hb d_Law_law_733 rfl (lv_at hl 0 rfl) ?_
  refine lv_iload hx hb d_Law_law_734 (lv_at hl 4 rfl) ?_
  refine lv_iconst (v := 1) hx hb d_Law_law_736 (by decide) ?_
  refine lv_iadd hx hb d_Law_law_737 ?_
  refine lv_topI (y := nI (i + 1)) (nI_add i 1) ?_
  refine va_sld hx hb hX hbl hbA hS (vp_in_nI (by omega) (by omega)) d_Law_law_738 ?_
  rw [nI_clamp (by omega)]
  refine lv_aload_n hx hb d_Law_law_739 rfl (lv_at hl 0 rfl) ?_
  refine lv_iload hx hb d_Law_law_740 (lv_at hl 4 rfl) ?_
  refine lv_iconst (v := 2) hx hb d_Law_law_742 (by decide) ?_
  refine lv_iadd hx hb d_Law_law_743 ?_
  refine lv_topI (y := nI (i + 2)) (nI_add i 2) ?_
  refine va_sld hx hb hX hbl hbA hS (vp_in_nI (by omega) (by omega)) d_Law_law_744 ?_
  rw [nI_clamp (by omega)]
  have hP : va_P (dC, dI) classes ([(q3, .inl (k3, 1, .inr (.inl ov)))] ++ (va_pl L f ++ (mw ad cA th yr nf no nt bd nb fl AI AN AB AL))) H := hP
  have hD : va_D (lw_A s) ([(q3, .inl (k3, 1, .inr (.inl ov)))] ++ (va_pl L f ++ (mw ad cA th yr nf no nt bd nb fl AI AN AB AL))) := hD
  refine rd_calll (va_runV (As := [.int (xs (i + 1)), .int (xs (i + 2))]) (rest := []) ⟨hx, hb, hml, hown, hts⟩ (c_FB_told l dC dI cs o th yr nf no nt bd nb fl AI AN AB AL L f (xs (i + 1)) (xs (i + 2)) hCS) (cwV 2 hts (gd_V k_419 k_420 k_421 k_14 k_422) rfl rfl rfl (by decide +kernel) ⟨Nat.le_of_ble_eq_true rfl, Nat.le_of_ble_eq_true rfl⟩) (fw_preV hKc hN (pt_P (pt_P hP).2).1 rfl hmo heo) rfl rfl hl.1 rfl (lv_room (Nat.le_of_ble_eq_true rfl)) d_Law_law_745 ⟨lw_fitC (cells := cells) (mc := 0) hc1 (by decide), lw_fitS (slots := slots) (ms := 0) hs1 (by decide)⟩) (fun r1 hw1 => ?_)
  have hCS2 : CS cs o (m_told (th, yr, nf, no, nt, bd, nb, fl, AI, AN, AB, AL) (xs (i + 1)) (xs (i + 2))).2 L f := hCS
  refine lv_aload_n hx hb d_Law_law_748 rfl (lv_at hl 2 rfl) ?_
  refine lv_aload_n hx hb d_Law_law_749 rfl (lv_at hl 0 rfl) ?_
  refine lv_iload hx hb d_Law_law_750 (lv_at hl 4 rfl) ?_
  refine lv_iconst (v := 1) hx hb d_Law_law_752 (by decide) ?_
  refine lv_iadd hx hb d_Law_law_753 ?_
  refine lv_topI (y := nI (i + 1)) (nI_add i 1) ?_
  refine va_sld hx hb hX hbl hbA hS (vp_in_nI (by omega) (by omega)) d_Law_law_754 ?_
  rw [nI_clamp (by omega)]
  refine lv_aload_n hx hb d_Law_law_755 rfl (lv_at hl 0 rfl) ?_
  refine lv_iload hx hb d_Law_law_756 (lv_at hl 4 rfl) ?_
  refine lv_iconst (v := 2) hx hb d_Law_law_758 (by decide) ?_
  refine lv_iadd hx hb d_Law_law_759 ?_
  refine lv_topI (y := nI (i + 2)) (nI_add i 2) ?_
  refine va_sld hx hb hX hbl hbA hS (vp_in_nI (by omega) (by omega)) d_Law_law_760 ?_
  rw [nI_clamp (by omega)]
  have hP : va_P (dC, dI) classes (((q3, .inl (k3, 1, .inr (.inl ov))) :: va_pl L f) ++ (mw ad cA th yr nf no nt bd nb fl AI AN AB AL)) H := hP
  have hD : va_D (lw_A s) (((q3, .inl (k3, 1, .inr (.inl ov))) :: va_pl L f) ++ (mw ad cA th yr nf no nt bd nb fl AI AN AB AL)) := hD
  refine pe_calll (wa := (q3, .inl (k3, 1, .inr (.inl ov))) :: va_pl L f) (wc := (mw ad cA th yr nf no nt bd nb fl AI AN AB AL)) (va_runV (As := [.int (xs (i + 1)), .int (xs (i + 2))]) (rest := [.long r1]) ⟨hx, hb, hml, hown, hts⟩ (c_Mo_told l dC dI ad cA th yr nf no nt bd nb fl AI AN AB AL _ (xs (i + 1)) (xs (i + 2)) hI) (cwV 2 hts (gd_V k_732 k_733 k_734 k_17 k_735) rfl rfl rfl (by decide +kernel) ⟨Nat.le_of_ble_eq_true rfl, Nat.le_of_ble_eq_true rfl⟩) (mu_preV 0 hKm hN (pt_P hP).2 (pt_D hD).2.1 rfl rfl) rfl rfl hl.1 rfl (lv_room (Nat.le_of_ble_eq_true rfl)) d_Law_law_761 ⟨lw_fitC (cells := cells) (mc := 0) hc1 (by decide), lw_fitS (slots := slots) (ms := 0) hs1 (by decide)⟩) hP hD hS hA (fun r2 u2 H locs hw2 hP hD hS => ?_)
  have hw2 : (r2, u2) = m_told (th, yr, nf, no, nt, bd, nb, fl, AI, AN, AB, AL) (xs (i + 1)) (xs (i + 2)) := hw2
  have hw1 : r1 = (m_told (th, yr, nf, no, nt, bd, nb, fl, AI, AN, AB, AL) (xs (i + 1)) (xs (i + 2))).1 := hw1
  rw [← hw2] at hw1 hCS2
  subst hw1
  have hCS : CS cs o u2 L f := hCS2
  refine lc_eq (tgt := 796) hx hb d_Law_law_764 d_Law_law_765 (by decide) (fun c_1 => ?_) (fun c_1 => ?_)
  · refine W.widen (k := cells + 2) (n := slots + 11) (by omega) (by omega) ?_
    exact kk u2 L f ov H locs ls hCS hP hD hS (lv_sub hl [0, 1, 2, 3, 4] rfl)
  · exact absurd rfl c_1

set_option maxHeartbeats 4000000 in
set_option maxRecDepth 100000 in
theorem lw_sum {p : Program} {l : Launch} {e : Env} {s : State} {m : MethodId} {below : List Frame} {meth : Method} {c : Code} {Q : State → Prop} {b N0 : Nat} {xs : Nat → Int32} {dC : Nat → ClassId} {dI : Nat → Nat → Nat} {ad : Nat → Nat} {cA cs : Nat → ClassId} {o q3 : Nat} {k3 : ClassId} {th yr : Int32} {nf no nt : Nat} {bd : Int32} {nb : Nat} {fl : Int32} {AI : Nat → Nat → Int32} {AN : Nat → Nat → Nat} {AB : Nat → Nat → Bool} {AL : Nat → Nat → Int64} {L : List Nat} {f : Nat → va_E} {ov : Nat → Int64} {i cells slots : Nat} {H : Heap} {locs : List Loc} {ls : Array Slot} (C0 : lw_C p l s m c b N0 xs dC dI cA cs k3) (hi : i + 5 ≤ N0) (hc1 : cells + 2 ≤ 601024) (hs1 : slots + 11 ≤ 7293000) (hCS : CS cs o (th, yr, nf, no, nt, bd, nb, fl, AI, AN, AB, AL) L f) (hP : va_P (dC, dI) classes (((q3, .inl (k3, 1, .inr (.inl ov))) :: va_pl L f) ++ (mw ad cA th yr nf no nt bd nb fl AI AN AB AL)) H) (hD : va_D (lw_A s) (((q3, .inl (k3, 1, .inr (.inl ov))) :: va_pl L f) ++ (mw ad cA th yr nf no nt bd nb fl AI AN AB AL))) (hS : va_S (lw_A s) s.heap H locs) (hl : lv_has ls 7 [(0, .ref b), (1, .ref o), (2, .ref (ad 0)), (3, .ref q3), (4, .int (nI i))])
    (kk : ∀ (u : MS) (L : List Nat) (f : Nat → va_E) (ov : Nat → Int64) (H : Heap) (locs : List Loc) (ls : Array Slot), CS cs o u L f → va_P (dC, dI) classes (((q3, .inl (k3, 1, .inr (.inl ov))) :: va_pl L f) ++ mwS ad cA u) H → va_D (lw_A s) (((q3, .inl (k3, 1, .inr (.inl ov))) :: va_pl L f) ++ mwS ad cA u) → va_S (lw_A s) s.heap H locs → lv_has ls 7 [(0, .ref b), (1, .ref o), (2, .ref (ad 0)), (3, .ref q3), (4, .int (nI i))] → W p l e room_1 s m #[Value.ref b] below meth c H locs (cells + 2) (slots + 11) Q (F0 m 796 ls [])) : W p l e room_1 s m #[Value.ref b] below meth c H locs cells slots Q (F0 m 770 ls []) := by
  obtain ⟨hx, hb, hml, hown, hts, hX, hbl, hN0, hfl, hKm, hKc, hKo, hN, hXK⟩ := C0
  have hG := fun (w : Cond) (h : w ∈ wG) => hts w (List.mem_cons_of_mem _ h)
  have hA : ∀ q : Nat, s.heap.size ≤ q → lw_A s q := fun _ h => h
  have hbA : ¬ lw_A s b := Nat.not_le.mpr hbl
  obtain ⟨hmo, fs, heo⟩ := hCS.recv
  have hI : InvM nf no nt nb AI AN := hCS.inv
  refine lv_aload_n hx hb d_Law_law_770 rfl (lv_at hl 1 rfl) ?_
  refine lv_aload_n hx hb d_Law_law_771 rfl (lv_at hl 0 rfl) ?_
  refine lv_iload hx hb d_Law_law_772 (lv_at hl 4 rfl) ?_
  refine lv_iconst (v := 1) hx hb d_Law_law_774 (by decide) ?_
  refine lv_iadd hx hb d_Law_law_775 ?_
  refine lv_topI (y := nI (i + 1)) (nI_add i 1) ?_
  refine va_sld hx hb hX hbl hbA hS (vp_in_nI (by omega) (by omega)) d_Law_law_776 ?_
  rw [nI_clamp (by omega)]
  have hP : va_P (dC, dI) classes ([(q3, .inl (k3, 1, .inr (.inl ov)))] ++ (va_pl L f ++ (mw ad cA th yr nf no nt bd nb fl AI AN AB AL))) H := hP
  have hD : va_D (lw_A s) ([(q3, .inl (k3, 1, .inr (.inl ov)))] ++ (va_pl L f ++ (mw ad cA th yr nf no nt bd nb fl AI AN AB AL))) := hD
  refine rd_calll (va_runV (As := [.int (xs (i + 1))]) (rest := []) ⟨hx, hb, hml, hown, hts⟩ (c_FB_sum l dC dI cs o th yr nf no nt bd nb fl AI AN AB AL L f (xs (i + 1)) hCS) (cwV 1 hts (gd_V k_423 k_424 k_425 k_14 k_426) rfl rfl rfl (by decide +kernel) ⟨Nat.le_of_ble_eq_true rfl, Nat.le_of_ble_eq_true rfl⟩) (fw_preV hKc hN (pt_P (pt_P hP).2).1 rfl hmo heo) rfl rfl hl.1 rfl (lv_room (Nat.le_of_ble_eq_true rfl)) d_Law_law_777 ⟨lw_fitC (cells := cells) (mc := 0) hc1 (by decide), lw_fitS (slots := slots) (ms := 0) hs1 (by decide)⟩) (fun r1 hw1 => ?_)
  have hCS2 : CS cs o (m_sum (th, yr, nf, no, nt, bd, nb, fl, AI, AN, AB, AL) (xs (i + 1))).2 L f := hCS
  refine lv_aload_n hx hb d_Law_law_780 rfl (lv_at hl 2 rfl) ?_
  refine lv_aload_n hx hb d_Law_law_781 rfl (lv_at hl 0 rfl) ?_
  refine lv_iload hx hb d_Law_law_782 (lv_at hl 4 rfl) ?_
  refine lv_iconst (v := 1) hx hb d_Law_law_784 (by decide) ?_
  refine lv_iadd hx hb d_Law_law_785 ?_
  refine lv_topI (y := nI (i + 1)) (nI_add i 1) ?_
  refine va_sld hx hb hX hbl hbA hS (vp_in_nI (by omega) (by omega)) d_Law_law_786 ?_
  rw [nI_clamp (by omega)]
  have hP : va_P (dC, dI) classes (((q3, .inl (k3, 1, .inr (.inl ov))) :: va_pl L f) ++ (mw ad cA th yr nf no nt bd nb fl AI AN AB AL)) H := hP
  have hD : va_D (lw_A s) (((q3, .inl (k3, 1, .inr (.inl ov))) :: va_pl L f) ++ (mw ad cA th yr nf no nt bd nb fl AI AN AB AL)) := hD
  refine pe_calll (wa := (q3, .inl (k3, 1, .inr (.inl ov))) :: va_pl L f) (wc := (mw ad cA th yr nf no nt bd nb fl AI AN AB AL)) (va_runV (As := [.int (xs (i + 1))]) (rest := [.long r1]) ⟨hx, hb, hml, hown, hts⟩ (c_Mo_sum l dC dI ad cA th yr nf no nt bd nb fl AI AN AB AL _ (xs (i + 1)) hI) (cwV 1 hts (gd_V k_736 k_737 k_738 k_17 k_739) rfl rfl rfl (by decide +kernel) ⟨Nat.le_of_ble_eq_true rfl, Nat.le_of_ble_eq_true rfl⟩) (mu_preV 0 hKm hN (pt_P hP).2 (pt_D hD).2.1 rfl rfl) rfl rfl hl.1 rfl (lv_room (Nat.le_of_ble_eq_true rfl)) d_Law_law_787 ⟨lw_fitC (cells := cells) (mc := 0) hc1 (by decide), lw_fitS (slots := slots) (ms := 0) hs1 (by decide)⟩) hP hD hS hA (fun r2 u2 H locs hw2 hP hD hS => ?_)
  have hw2 : (r2, u2) = m_sum (th, yr, nf, no, nt, bd, nb, fl, AI, AN, AB, AL) (xs (i + 1)) := hw2
  have hw1 : r1 = (m_sum (th, yr, nf, no, nt, bd, nb, fl, AI, AN, AB, AL) (xs (i + 1))).1 := hw1
  rw [← hw2] at hw1 hCS2
  subst hw1
  have hCS : CS cs o u2 L f := hCS2
  refine lc_eq (tgt := 796) hx hb d_Law_law_790 d_Law_law_791 (by decide) (fun c_1 => ?_) (fun c_1 => ?_)
  · refine W.widen (k := cells + 2) (n := slots + 11) (by omega) (by omega) ?_
    exact kk u2 L f ov H locs ls hCS hP hD hS (lv_sub hl [0, 1, 2, 3, 4] rfl)
  · exact absurd rfl c_1
