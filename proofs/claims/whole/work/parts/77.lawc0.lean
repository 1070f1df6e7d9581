set_option maxHeartbeats 4000000 in
set_option maxRecDepth 100000 in
theorem lw_fund {p : Program} {l : Launch} {e : Env} {s : State} {m : MethodId} {below : List Frame} {meth : Method} {c : Code} {Q : State → Prop} {b N0 : Nat} {xs : Nat → Int32} {dC : Nat → ClassId} {dI : Nat → Nat → Nat} {ad : Nat → Nat} {cA cs : Nat → ClassId} {o q3 : Nat} {k3 : ClassId} {th yr : Int32} {nf no nt : Nat} {bd : Int32} {nb : Nat} {fl : Int32} {AI : Nat → Nat → Int32} {AN : Nat → Nat → Nat} {AB : Nat → Nat → Bool} {AL : Nat → Nat → Int64} {L : List Nat} {f : Nat → va_E} {ov : Nat → Int64} {i cells slots : Nat} {H : Heap} {locs : List Loc} {ls : Array Slot} (C0 : lw_C p l s m c b N0 xs dC dI cA cs k3) (hi : i + 5 ≤ N0) (hc1 : cells + 2 ≤ 601024) (hs1 : slots + 11 ≤ 7293000) (hCS : CS cs o (th, yr, nf, no, nt, bd, nb, fl, AI, AN, AB, AL) L f) (hP : va_P (dC, dI) classes (((q3, .inl (k3, 1, .inr (.inl ov))) :: va_pl L f) ++ (mw ad cA th yr nf no nt bd nb fl AI AN AB AL)) H) (hD : va_D (lw_A s) (((q3, .inl (k3, 1, .inr (.inl ov))) :: va_pl L f) ++ (mw ad cA th yr nf no nt bd nb fl AI AN AB AL))) (hS : va_S (lw_A s) s.heap H locs) (hl : lv_has ls 7 [(0, .ref b), (1, .ref o), (2, .ref (ad 0)), (3, .ref q3), (4, .int (nI i))])
    (kk : ∀ (u : MS) (L : List Nat) (f : Nat → va_E) (ov : Nat → Int64) (H : Heap) (locs : List Loc) (ls : Array Slot), CS cs o u L f → va_P (dC, dI) classes (((q3, .inl (k3, 1, .inr (.inl ov))) :: va_pl L f) ++ mwS ad cA u) H → va_D (lw_A s) (((q3, .inl (k3, 1, .inr (.inl ov))) :: va_pl L f) ++ mwS ad cA u) → va_S (lw_A s) s.heap H locs → lv_has ls 7 [(0, .ref b), (1, .ref o), (2, .ref (ad 0)), (3, .ref q3), (4, .int (nI i))] → W p l e room_1 s m #[Value.ref b] below meth c H locs (cells + 2) (slots + 11) Q (F0 m 796 ls [])) : W p l e room_1 s m #[Value.ref b] below meth c H locs cells slots Q (F0 m 132 ls []) := by
  obtain ⟨hx, hb, hml, hown, hts, hX, hbl, hN0, hfl, hKm, hKc, hKo, hN, hXK⟩ := C0
  have hG := fun (w : Cond) (h : w ∈ wG) => hts w (List.mem_cons_of_mem _ h)
  have hA : ∀ q : Nat, s.heap.size ≤ q → lw_A s q := fun _ h => h
  have hbA : ¬ lw_A s b := Nat.not_le.mpr hbl
  obtain ⟨hmo, fs, heo⟩ := hCS.recv
  have hI : InvM nf no nt nb AI AN := hCS.inv
  refine lv_aload_n hx hb d_Law_law_132 rfl (lv_at hl 1 rfl) ?_
  refine lv_aload_n hx hb d_Law_law_133 rfl (lv_at hl 0 rfl) ?_
  refine lv_iload hx hb d_Law_law_134 (lv_at hl 4 rfl) ?_
  refine lv_iconst (v := 1) hx hb d_Law_law_136 (by decide) ?_
  refine lv_iadd hx hb d_Law_law_137 ?_
  refine lv_topI (y := nI (i + 1)) (nI_add i 1) ?_
  refine va_sld hx hb hX hbl hbA hS (vp_in_nI (by omega) (by omega)) d_Law_law_138 ?_
  rw [nI_clamp (by omega)]
  have hP : va_P (dC, dI) classes ([(q3, .inl (k3, 1, .inr (.inl ov)))] ++ (va_pl L f ++ (mw ad cA th yr nf no nt bd nb fl AI AN AB AL))) H := hP
  have hD : va_D (lw_A s) ([(q3, .inl (k3, 1, .inr (.inl ov)))] ++ (va_pl L f ++ (mw ad cA th yr nf no nt bd nb fl AI AN AB AL))) := hD
  refine pt_calli (wa := [(q3, .inl (k3, 1, .inr (.inl ov)))]) (wc := va_pl L f) (wb := (mw ad cA th yr nf no nt bd nb fl AI AN AB AL)) (va_runV (As := [.int (xs (i + 1))]) (rest := []) ⟨hx, hb, hml, hown, hts⟩ (c_FB_fund l dC dI cs o th yr nf no nt bd nb fl AI AN AB AL L f _ (xs (i + 1)) hCS) (cwV 1 hts (gd_V k_101 k_102 k_103 k_14 k_104) rfl rfl rfl (by decide +kernel) ⟨Nat.le_of_ble_eq_true rfl, Nat.le_of_ble_eq_true rfl⟩) (fw_mreV hKc hN (pt_P (pt_P hP).2).1 (pt_D (pt_D hD).2.1).1 rfl hmo heo) rfl rfl hl.1 rfl (lv_room (Nat.le_of_ble_eq_true rfl)) d_Law_law_139 ⟨lw_fitC (cells := cells) (mc := 1) hc1 (by decide), lw_fitS (slots := slots) (ms := 6) hs1 (by decide)⟩) hP hD hS hA (fun r1 u1 H locs hw1 hP hD hS => ?_)
  refine lv_aload_n hx hb d_Law_law_142 rfl (lv_at hl 2 rfl) ?_
  refine lv_aload_n hx hb d_Law_law_143 rfl (lv_at hl 0 rfl) ?_
  refine lv_iload hx hb d_Law_law_144 (lv_at hl 4 rfl) ?_
  refine lv_iconst (v := 1) hx hb d_Law_law_146 (by decide) ?_
  refine lv_iadd hx hb d_Law_law_147 ?_
  refine lv_topI (y := nI (i + 1)) (nI_add i 1) ?_
  refine va_sld hx hb hX hbl hbA hS (vp_in_nI (by omega) (by omega)) d_Law_law_148 ?_
  rw [nI_clamp (by omega)]
  have hP : va_P (dC, dI) classes (((q3, .inl (k3, 1, .inr (.inl ov))) :: va_pl u1.1 u1.2) ++ (mw ad cA th yr nf no nt bd nb fl AI AN AB AL)) H := hP
  have hD : va_D (lw_A s) (((q3, .inl (k3, 1, .inr (.inl ov))) :: va_pl u1.1 u1.2) ++ (mw ad cA th yr nf no nt bd nb fl AI AN AB AL)) := hD
  refine pe_calli (wa := (q3, .inl (k3, 1, .inr (.inl ov))) :: va_pl u1.1 u1.2) (wc := (mw ad cA th yr nf no nt bd nb fl AI AN AB AL)) (va_runV (As := [.int (xs (i + 1))]) (rest := [.int r1]) ⟨hx, hb, hml, hown, hts⟩ (c_Mo_fund l dC dI ad cA th yr nf no nt bd nb fl AI AN AB AL _ (xs (i + 1)) hI) (cwV 1 hts (gd_V k_624 k_625 k_626 k_17 k_627) rfl rfl rfl (by decide +kernel) ⟨Nat.le_of_ble_eq_true rfl, Nat.le_of_ble_eq_true rfl⟩) (mu_preV 0 hKm hN (pt_P hP).2 (pt_D hD).2.1 rfl rfl) rfl rfl hl.1 rfl (lv_room (Nat.le_of_ble_eq_true rfl)) d_Law_law_149 ⟨lw_fitC2 (cells := cells) (mc := 1) hc1 (by decide), lw_fitS2 (slots := slots) (ms := 6) hs1 (by decide)⟩) hP hD hS hA (fun r2 u2 H locs hw2 hP hD hS => ?_)
  have hw2 : (r2, u2) = m_fund (th, yr, nf, no, nt, bd, nb, fl, AI, AN, AB, AL) (xs (i + 1)) := hw2
  have hw1 : r1 = (m_fund (th, yr, nf, no, nt, bd, nb, fl, AI, AN, AB, AL) (xs (i + 1))).1 ∧ CS cs o (m_fund (th, yr, nf, no, nt, bd, nb, fl, AI, AN, AB, AL) (xs (i + 1))).2 u1.1 u1.2 := hw1
  rw [← hw2] at hw1
  obtain ⟨rfl, hCS⟩ := hw1
  have hCS : CS cs o u2 u1.1 u1.2 := hCS
  refine lv_icmp_eq (tgt := 796) hx hb d_Law_law_152 (by decide) (fun c_1 => ?_) (fun c_1 => ?_)
  · refine W.widen (k := cells + 2) (n := slots + 11) (by omega) (by omega) ?_
    exact kk u2 u1.1 u1.2 ov H locs ls hCS hP hD hS (lv_sub hl [0, 1, 2, 3, 4] rfl)
  · exact absurd rfl c_1

set_option maxHeartbeats 4000000 in
set_option maxRecDepth 100000 in
theorem lw_give {p : Program} {l : Launch} {e : Env} {s : State} {m : MethodId} {below : List Frame} {meth : Method} {c : Code} {Q : State → Prop} {b N0 : Nat} {xs : Nat → Int32} {dC : Nat → ClassId} {dI : Nat → Nat → Nat} {ad : Nat → Nat} {cA cs : Nat → ClassId} {o q3 : Nat} {k3 : ClassId} {th yr : Int32} {nf no nt : Nat} {bd : Int32} {nb : Nat} {fl : Int32} {AI : Nat → Nat → Int32} {AN : Nat → Nat → Nat} {AB : Nat → Nat → Bool} {AL : Nat → Nat → Int64} {L : List Nat} {f : Nat → va_E} {ov : Nat → Int64} {i cells slots : Nat} {H : Heap} {locs : List Loc} {ls : Array Slot} (C0 : lw_C p l s m c b N0 xs dC dI cA cs k3) (hi : i + 5 ≤ N0) (hc1 : cells + 2 ≤ 601024) (hs1 : slots + 11 ≤ 7293000) (hCS : CS cs o (th, yr, nf, no, nt, bd, nb, fl, AI, AN, AB, AL) L f) (hP : va_P (dC, dI) classes (((q3, .inl (k3, 1, .inr (.inl ov))) :: va_pl L f) ++ (mw ad cA th yr nf no nt bd nb fl AI AN AB AL)) H) (hD : va_D (lw_A s) (((q3, .inl (k3, 1, .inr (.inl ov))) :: va_pl L f) ++ (mw ad cA th yr nf no nt bd nb fl AI AN AB AL))) (hS : va_S (lw_A s) s.heap H locs) (hl : lv_has ls 7 [(0, .ref b), (1, .ref o), (2, .ref (ad 0)), (3, .ref q3), (4, .int (nI i))])
    (kk : ∀ (u : MS) (L : List Nat) (f : Nat → va_E) (ov : Nat → Int64) (H : Heap) (locs : List Loc) (ls : Array Slot), CS cs o u L f → va_P (dC, dI) classes (((q3, .inl (k3, 1, .inr (.inl ov))) :: va_pl L f) ++ mwS ad cA u) H → va_D (lw_A s) (((q3, .inl (k3, 1, .inr (.inl ov))) :: va_pl L f) ++ mwS ad cA u) → va_S (lw_A s) s.heap H locs → lv_has ls 7 [(0, .ref b), (1, .ref o), (2, .ref (ad 0)), (3, .ref q3), (4, .int (nI i))] → W p l e room_1 s m #[Value.ref b] below meth c H locs (cells + 2) (slots + 11) Q (F0 m 796 ls [])) : W p l e room_1 s m #[Value.ref b] below meth c H locs cells slots Q (F0 m 157 ls []) := by
  obtain ⟨hx, hb, hml, hown, hts, hX, hbl, hN0, hfl, hKm, hKc, hKo, hN, hXK⟩ := C0
  have hG := fun (w : Cond) (h : w ∈ wG) => hts w (List.mem_cons_of_mem _ h)
  have hA : ∀ q : Nat, s.heap.size ≤ q → lw_A s q := fun _ h => h
  have hbA : ¬ lw_A s b := Nat.not_le.mpr hbl
  obtain ⟨hmo, fs, heo⟩ := hCS.recv
  have hI : InvM nf no nt nb AI AN := hCS.inv
  refine lv_aload_n hx hb d_Law_law_157 rfl (lv_at hl 1 rfl) ?_
  refine lv_aload_n hx hb d_Law_law_158 rfl (lv_at hl 0 rfl) ?_
  refine lv_iload hx hb d_Law_law_159 (lv_at hl 4 rfl) ?_
  refine lv_iconst (v := 1) hx hb d_Law_law_161 (by decide) ?_
  refine lv_iadd hx hb d_Law_law_162 ?_
  refine lv_topI (y := nI (i + 1)) (nI_add i 1) ?_
  refine va_sld hx hb hX hbl hbA hS (vp_in_nI (by omega) (by omega)) d_Law_law_163 ?_
  rw [nI_clamp (by omega)]
  refine lv_aload_n hx hb d_Law_law_164 rfl (lv_at hl 0 rfl) ?_
  refine lv_iload hx hb d_Law_law_165 (lv_at hl 4 rfl) ?_
  refine lv_iconst (v := 2) hx hb d_Law_law_167 (by decide) ?_
  refine lv_iadd hx hb d_Law_law_168 ?_
  refine lv_topI (y := nI (i + 2)) (nI_add i 2) ?_
  refine va_sld hx hb hX hbl hbA hS (vp_in_nI (by omega) (by omega)) d_Law_law_169 ?_
  rw [nI_clamp (by omega)]
  refine lv_i2l hx hb d_Law_law_170 rfl ?_
  refine lv_bipush (v := 32) hx hb d_Law_law_171 (by decide) ?_
  refine lv_lshl hx hb d_Law_law_173 rfl ?_
  refine lv_aload_n hx hb d_Law_law_174 rfl (lv_at hl 0 rfl) ?_
  refine lv_iload hx hb d_Law_law_175 (lv_at hl 4 rfl) ?_
  refine lv_iconst (v := 3) hx hb d_Law_law_177 (by decide) ?_
  refine lv_iadd hx hb d_Law_law_178 ?_
  refine lv_topI (y := nI (i + 3)) (nI_add i 3) ?_
  refine va_sld hx hb hX hbl hbA hS (vp_in_nI (by omega) (by omega)) d_Law_law_179 ?_
  rw [nI_clamp (by omega)]
  refine lv_i2l hx hb d_Law_law_180 rfl ?_
  refine lv_ldc2 (own := R_Law) (v := 4294967295) hx hb hown (hG _ k_740) d_Law_law_181 ?_
  refine lv_land hx hb d_Law_law_184 ?_
  refine lv_lor hx hb d_Law_law_185 ?_
  have hP : va_P (dC, dI) classes ([(q3, .inl (k3, 1, .inr (.inl ov)))] ++ (va_pl L f ++ (mw ad cA th yr nf no nt bd nb fl AI AN AB AL))) H := hP
  have hD : va_D (lw_A s) ([(q3, .inl (k3, 1, .inr (.inl ov)))] ++ (va_pl L f ++ (mw ad cA th yr nf no nt bd nb fl AI AN AB AL))) := hD
  refine pt_calli (wa := [(q3, .inl (k3, 1, .inr (.inl ov)))]) (wc := va_pl L f) (wb := (mw ad cA th yr nf no nt bd nb fl AI AN AB AL)) (va_runV (As := [.int (xs (i + 1)), .long ((((xs (i + 2)).toInt64) <<< ((32 : Int32).toInt64 &&& 63)) ||| (((xs (i + 3)).toInt64) &&& 4294967295))]) (rest := []) ⟨hx, hb, hml, hown, hts⟩ (c_FB_give l dC dI cs o th yr nf no nt bd nb fl AI AN AB AL L f _ (xs (i + 1)) ((((xs (i + 2)).toInt64) <<< ((32 : Int32).toInt64 &&& 63)) ||| (((xs (i + 3)).toInt64) &&& 4294967295)) hCS) (cwV 2 hts (gd_V k_141 k_142 k_143 k_14 k_144) rfl rfl rfl (by decide +kernel) ⟨Nat.le_of_ble_eq_true rfl, Nat.le_of_ble_eq_true rfl⟩) (fw_mreV hKc hN (pt_P (pt_P hP).2).1 (pt_D (pt_D hD).2.1).1 rfl hmo heo) rfl rfl hl.1 rfl (lv_room (Nat.le_of_ble_eq_true rfl)) d_Law_law_186 ⟨lw_fitC (cells := cells) (mc := 0) hc1 (by decide), lw_fitS (slots := slots) (ms := 0) hs1 (by decide)⟩) hP hD hS hA (fun r1 u1 H locs hw1 hP hD hS => ?_)
  refine lv_aload_n hx hb d_Law_law_189 rfl (lv_at hl 2 rfl) ?_
  refine lv_aload_n hx hb d_Law_law_190 rfl (lv_at hl 0 rfl) ?_
  refine lv_iload hx hb d_Law_law_191 (lv_at hl 4 rfl) ?_
  refine lv_iconst (v := 1) hx hb d_Law_law_193 (by decide) ?_
  refine lv_iadd hx hb d_Law_law_194 ?_
  refine lv_topI (y := nI (i + 1)) (nI_add i 1) ?_
  refine va_sld hx hb hX hbl hbA hS (vp_in_nI (by omega) (by omega)) d_Law_law_195 ?_
  rw [nI_clamp (by omega)]
  refine lv_aload_n hx hb d_Law_law_196 rfl (lv_at hl 0 rfl) ?_
  refine lv_iload hx hb d_Law_law_197 (lv_at hl 4 rfl) ?_
  refine lv_iconst (v := 2) hx hb d_Law_law_199 (by decide) ?_
  refine lv_iadd hx hb d_Law_law_200 ?_
  refine lv_topI (y := nI (i + 2)) (nI_add i 2) ?_
  refine va_sld hx hb hX hbl hbA hS (vp_in_nI (by omega) (by omega)) d_Law_law_201 ?_
  rw [nI_clamp (by omega)]
  refine lv_i2l hx hb d_Law_law_202 rfl ?_
  refine lv_bipush (v := 32) hx hb d_Law_law_203 (by decide) ?_
  refine lv_lshl hx hb d_Law_law_205 rfl ?_
  refine lv_aload_n hx hb d_Law_law_206 rfl (lv_at hl 0 rfl) ?_
  refine lv_iload hx hb d_Law_law_207 (lv_at hl 4 rfl) ?_
  refine lv_iconst (v := 3) hx hb d_Law_law_209 (by decide) ?_
  refine lv_iadd hx hb d_Law_law_210 ?_
  refine lv_topI (y := nI (i + 3)) (nI_add i 3) ?_
  refine va_sld hx hb hX hbl hbA hS (vp_in_nI (by omega) (by omega)) d_Law_law_211 ?_
  rw [nI_clamp (by omega)]
  refine lv_i2l hx hb d_Law_law_212 rfl ?_
  refine lv_ldc2 (own := R_Law) (v := 4294967295) hx hb hown (hG _ k_740) d_Law_law_213 ?_
  refine lv_land hx hb d_Law_law_216 ?_
  refine lv_lor hx hb d_Law_law_217 ?_
  have hP : va_P (dC, dI) classes (((q3, .inl (k3, 1, .inr (.inl ov))) :: va_pl u1.1 u1.2) ++ (mw ad cA th yr nf no nt bd nb fl AI AN AB AL)) H := hP
  have hD : va_D (lw_A s) (((q3, .inl (k3, 1, .inr (.inl ov))) :: va_pl u1.1 u1.2) ++ (mw ad cA th yr nf no nt bd nb fl AI AN AB AL)) := hD
  refine pe_calli (wa := (q3, .inl (k3, 1, .inr (.inl ov))) :: va_pl u1.1 u1.2) (wc := (mw ad cA th yr nf no nt bd nb fl AI AN AB AL)) (va_runV (As := [.int (xs (i + 1)), .long ((((xs (i + 2)).toInt64) <<< ((32 : Int32).toInt64 &&& 63)) ||| (((xs (i + 3)).toInt64) &&& 4294967295))]) (rest := [.int r1]) ⟨hx, hb, hml, hown, hts⟩ (c_Mo_give l dC dI ad cA th yr nf no nt bd nb fl AI AN AB AL _ (xs (i + 1)) ((((xs (i + 2)).toInt64) <<< ((32 : Int32).toInt64 &&& 63)) ||| (((xs (i + 3)).toInt64) &&& 4294967295)) hI) (cwV 2 hts (gd_V k_632 k_633 k_634 k_17 k_635) rfl rfl rfl (by decide +kernel) ⟨Nat.le_of_ble_eq_true rfl, Nat.le_of_ble_eq_true rfl⟩) (mu_preV 0 hKm hN (pt_P hP).2 (pt_D hD).2.1 rfl rfl) rfl rfl hl.1 rfl (lv_room (Nat.le_of_ble_eq_true rfl)) d_Law_law_218 ⟨lw_fitC2 (cells := cells) (mc := 0) hc1 (by decide), lw_fitS2 (slots := slots) (ms := 0) hs1 (by decide)⟩) hP hD hS hA (fun r2 u2 H locs hw2 hP hD hS => ?_)
  have hw2 : (r2, u2) = m_give (th, yr, nf, no, nt, bd, nb, fl, AI, AN, AB, AL) (xs (i + 1)) ((((xs (i + 2)).toInt64) <<< ((32 : Int32).toInt64 &&& 63)) ||| (((xs (i + 3)).toInt64) &&& 4294967295)) := hw2
  have hw1 : r1 = (m_give (th, yr, nf, no, nt, bd, nb, fl, AI, AN, AB, AL) (xs (i + 1)) ((((xs (i + 2)).toInt64) <<< ((32 : Int32).toInt64 &&& 63)) ||| (((xs (i + 3)).toInt64) &&& 4294967295))).1 ∧ CS cs o (m_give (th, yr, nf, no, nt, bd, nb, fl, AI, AN, AB, AL) (xs (i + 1)) ((((xs (i + 2)).toInt64) <<< ((32 : Int32).toInt64 &&& 63)) ||| (((xs (i + 3)).toInt64) &&& 4294967295))).2 u1.1 u1.2 := hw1
  rw [← hw2] at hw1
  obtain ⟨rfl, hCS⟩ := hw1
  have hCS : CS cs o u2 u1.1 u1.2 := hCS
  refine lv_icmp_eq (tgt := 796) hx hb d_Law_law_221 (by decide) (fun c_1 => ?_) (fun c_1 => ?_)
  · refine W.widen (k := cells + 2) (n := slots + 11) (by omega) (by omega) ?_
    exact kk u2 u1.1 u1.2 ov H locs ls hCS hP hD hS (lv_sub hl [0, 1, 2, 3, 4] rfl)
  · exact absurd rfl c_1

set_option maxHeartbeats 4000000 in
set_option maxRecDepth 100000 in
theorem lw_order {p : Program} {l : Launch} {e : Env} {s : State} {m : MethodId} {below : List Frame} {meth : Method} {c : Code} {Q : State → Prop} {b N0 : Nat} {xs : Nat → Int32} {dC : Nat → ClassId} {dI : Nat → Nat → Nat} {ad : Nat → Nat} {cA cs : Nat → ClassId} {o q3 : Nat} {k3 : ClassId} {th yr : Int32} {nf no nt : Nat} {bd : Int32} {nb : Nat} {fl : Int32} {AI : Nat → Nat → Int32} {AN : Nat → Nat → Nat} {AB : Nat → Nat → Bool} {AL : Nat → Nat → Int64} {L : List Nat} {f : Nat → va_E} {ov : Nat → Int64} {i cells slots : Nat} {H : Heap} {locs : List Loc} {ls : Array Slot} (C0 : lw_C p l s m c b N0 xs dC dI cA cs k3) (hi : i + 5 ≤ N0) (hc1 : cells + 2 ≤ 601024) (hs1 : slots + 11 ≤ 7293000) (hCS : CS cs o (th, yr, nf, no, nt, bd, nb, fl, AI, AN, AB, AL) L f) (hP : va_P (dC, dI) classes (((q3, .inl (k3, 1, .inr (.inl ov))) :: va_pl L f) ++ (mw ad cA th yr nf no nt bd nb fl AI AN AB AL)) H) (hD : va_D (lw_A s) (((q3, .inl (k3, 1, .inr (.inl ov))) :: va_pl L f) ++ (mw ad cA th yr nf no nt bd nb fl AI AN AB AL))) (hS : va_S (lw_A s) s.heap H locs) (hl : lv_has ls 7 [(0, .ref b), (1, .ref o), (2, .ref (ad 0)), (3, .ref q3), (4, .int (nI i))])
    (kk : ∀ (u : MS) (L : List Nat) (f : Nat → va_E) (ov : Nat → Int64) (H : Heap) (locs : List Loc) (ls : Array Slot), CS cs o u L f → va_P (dC, dI) classes (((q3, .inl (k3, 1, .inr (.inl ov))) :: va_pl L f) ++ mwS ad cA u) H → va_D (lw_A s) (((q3, .inl (k3, 1, .inr (.inl ov))) :: va_pl L f) ++ mwS ad cA u) → va_S (lw_A s) s.heap H locs → lv_has ls 7 [(0, .ref b), (1, .ref o), (2, .ref (ad 0)), (3, .ref q3), (4, .int (nI i))] → W p l e room_1 s m #[Value.ref b] below meth c H locs (cells + 2) (slots + 11) Q (F0 m 796 ls [])) : W p l e room_1 s m #[Value.ref b] below meth c H locs cells slots Q (F0 m 226 ls []) := by
  obtain ⟨hx, hb, hml, hown, hts, hX, hbl, hN0, hfl, hKm, hKc, hKo, hN, hXK⟩ := C0
  have hG := fun (w : Cond) (h : w ∈ wG) => hts w (List.mem_cons_of_mem _ h)
  have hA : ∀ q : Nat, s.heap.size ≤ q → lw_A s q := fun _ h => h
  have hbA : ¬ lw_A s b := Nat.not_le.mpr hbl
  obtain ⟨hmo, fs, heo⟩ := hCS.recv
  have hI : InvM nf no nt nb AI AN := hCS.inv
  refine lv_aload_n hx hb d_Law_law_226 rfl (lv_at hl 1 rfl) ?_
  refine lv_aload_n hx hb d_Law_law_227 rfl (lv_at hl 0 rfl) ?_
  refine lv_iload hx hb d_Law_law_228 (lv_at hl 4 rfl) ?_
  refine lv_iconst (v := 1) hx hb d_Law_law_230 (by decide) ?_
  refine lv_iadd hx hb d_Law_law_231 ?_
  refine lv_topI (y := nI (i + 1)) (nI_add i 1) ?_
  refine va_sld hx hb hX hbl hbA hS (vp_in_nI (by omega) (by omega)) d_Law_law_232 ?_
  rw [nI_clamp (by omega)]
  refine lv_aload_n hx hb d_Law_law_233 rfl (lv_at hl 0 rfl) ?_
  refine lv_iload hx hb d_Law_law_234 (lv_at hl 4 rfl) ?_
  refine lv_iconst (v := 2) hx hb d_Law_law_236 (by decide) ?_
  refine lv_iadd hx hb d_Law_law_237 ?_
  refine lv_topI (y := nI (i + 2)) (nI_add i 2) ?_
  refine va_sld hx hb hX hbl hbA hS (vp_in_nI (by omega) (by omega)) d_Law_law_238 ?_
  rw [nI_clamp (by omega)]
  refine lv_aload_n hx hb d_Law_law_239 rfl (lv_at hl 0 rfl) ?_
  refine lv_iload hx hb d_Law_law_240 (lv_at hl 4 rfl) ?_
  refine lv_iconst (v := 3) hx hb d_Law_law_242 (by decide) ?_
  refine lv_iadd hx hb d_Law_law_243 ?_
  refine lv_topI (y := nI (i + 3)) (nI_add i 3) ?_
  refine va_sld hx hb hX hbl hbA hS (vp_in_nI (by omega) (by omega)) d_Law_law_244 ?_
  rw [nI_clamp (by omega)]
  refine lv_if_eq (tgt := 252) hx hb d_Law_law_245 (by decide) (fun c_1 => ?_) (fun c_1 => ?_)
  · refine lv_iconst (v := 0) hx hb d_Law_law_252 (by decide) ?_
    have hP : va_P (dC, dI) classes ([(q3, .inl (k3, 1, .inr (.inl ov)))] ++ (va_pl L f ++ (mw ad cA th yr nf no nt bd nb fl AI AN AB AL))) H := hP
    have hD : va_D (lw_A s) ([(q3, .inl (k3, 1, .inr (.inl ov)))] ++ (va_pl L f ++ (mw ad cA th yr nf no nt bd nb fl AI AN AB AL))) := hD
    refine pt_calli (wa := [(q3, .inl (k3, 1, .inr (.inl ov)))]) (wc := va_pl L f) (wb := (mw ad cA th yr nf no nt bd nb fl AI AN AB AL)) (va_runV (As := [.int (xs (i + 1)), .int (xs (i + 2)), .int (bI false)]) (rest := []) ⟨hx, hb, hml, hown, hts⟩ (c_FB_order l dC dI cs o th yr nf no nt bd nb fl AI AN AB AL L f _ (xs (i + 1)) (xs (i + 2)) false hCS) (cwV 3 hts (gd_V k_163 k_164 k_165 k_14 k_166) rfl rfl rfl (by decide +kernel) ⟨Nat.le_of_ble_eq_true rfl, Nat.le_of_ble_eq_true rfl⟩) (fw_mreV hKc hN (pt_P (pt_P hP).2).1 (pt_D (pt_D hD).2.1).1 rfl hmo heo) rfl rfl hl.1 rfl (lv_room (Nat.le_of_ble_eq_true rfl)) d_Law_law_253 ⟨lw_fitC (cells := cells) (mc := 2) hc1 (by decide), lw_fitS (slots := slots) (ms := 11) hs1 (by decide)⟩) hP hD hS hA (fun r1 u1 H locs hw1 hP hD hS => ?_)
    refine lv_aload_n hx hb d_Law_law_256 rfl (lv_at hl 2 rfl) ?_
    refine lv_aload_n hx hb d_Law_law_257 rfl (lv_at hl 0 rfl) ?_
    refine lv_iload hx hb d_Law_law_258 (lv_at hl 4 rfl) ?_
    refine lv_iconst (v := 1) hx hb d_Law_law_260 (by decide) ?_
    refine lv_iadd hx hb d_Law_law_261 ?_
    refine lv_topI (y := nI (i + 1)) (nI_add i 1) ?_
    refine va_sld hx hb hX hbl hbA hS (vp_in_nI (by omega) (by omega)) d_Law_law_262 ?_
    rw [nI_clamp (by omega)]
    refine lv_aload_n hx hb d_Law_law_263 rfl (lv_at hl 0 rfl) ?_
    refine lv_iload hx hb d_Law_law_264 (lv_at hl 4 rfl) ?_
    refine lv_iconst (v := 2) hx hb d_Law_law_266 (by decide) ?_
    refine lv_iadd hx hb d_Law_law_267 ?_
    refine lv_topI (y := nI (i + 2)) (nI_add i 2) ?_
    refine va_sld hx hb hX hbl hbA hS (vp_in_nI (by omega) (by omega)) d_Law_law_268 ?_
    rw [nI_clamp (by omega)]
    refine lv_aload_n hx hb d_Law_law_269 rfl (lv_at hl 0 rfl) ?_
    refine lv_iload hx hb d_Law_law_270 (lv_at hl 4 rfl) ?_
    refine lv_iconst (v := 3) hx hb d_Law_law_272 (by decide) ?_
    refine lv_iadd hx hb d_Law_law_273 ?_
    refine lv_topI (y := nI (i + 3)) (nI_add i 3) ?_
    refine va_sld hx hb hX hbl hbA hS (vp_in_nI (by omega) (by omega)) d_Law_law_274 ?_
    rw [nI_clamp (by omega)]
    refine lv_if_eq (tgt := 282) hx hb d_Law_law_275 (by decide) (fun c_2 => ?_) (fun c_2 => ?_)
    · refine lv_iconst (v := 0) hx hb d_Law_law_282 (by decide) ?_
      have hP : va_P (dC, dI) classes (((q3, .inl (k3, 1, .inr (.inl ov))) :: va_pl u1.1 u1.2) ++ (mw ad cA th yr nf no nt bd nb fl AI AN AB AL)) H := hP
      have hD : va_D (lw_A s) (((q3, .inl (k3, 1, .inr (.inl ov))) :: va_pl u1.1 u1.2) ++ (mw ad cA th yr nf no nt bd nb fl AI AN AB AL)) := hD
      refine pe_calli (wa := (q3, .inl (k3, 1, .inr (.inl ov))) :: va_pl u1.1 u1.2) (wc := (mw ad cA th yr nf no nt bd nb fl AI AN AB AL)) (va_runV (As := [.int (xs (i + 1)), .int (xs (i + 2)), .int (bI false)]) (rest := [.int r1]) ⟨hx, hb, hml, hown, hts⟩ (c_Mo_order l dC dI ad cA th yr nf no nt bd nb fl AI AN AB AL _ (xs (i + 1)) (xs (i + 2)) false hI) (cwV 3 hts (gd_V k_654 k_655 k_656 k_17 k_657) rfl rfl rfl (by decide +kernel) ⟨Nat.le_of_ble_eq_true rfl, Nat.le_of_ble_eq_true rfl⟩) (mu_preV 0 hKm hN (pt_P hP).2 (pt_D hD).2.1 rfl rfl) rfl rfl hl.1 rfl (lv_room (Nat.le_of_ble_eq_true rfl)) d_Law_law_283 ⟨lw_fitC2 (cells := cells) (mc := 2) hc1 (by decide), lw_fitS2 (slots := slots) (ms := 11) hs1 (by decide)⟩) hP hD hS hA (fun r2 u2 H locs hw2 hP hD hS => ?_)
      have hw2 : (r2, u2) = m_order (th, yr, nf, no, nt, bd, nb, fl, AI, AN, AB, AL) (xs (i + 1)) (xs (i + 2)) false := hw2
      have hw1 : r1 = (m_order (th, yr, nf, no, nt, bd, nb, fl, AI, AN, AB, AL) (xs (i + 1)) (xs (i + 2)) false).1 ∧ CS cs o (m_order (th, yr, nf, no, nt, bd, nb, fl, AI, AN, AB, AL) (xs (i + 1)) (xs (i + 2)) false).2 u1.1 u1.2 := hw1
      rw [← hw2] at hw1
      obtain ⟨rfl, hCS⟩ := hw1
      have hCS : CS cs o u2 u1.1 u1.2 := hCS
      refine lv_icmp_eq (tgt := 796) hx hb d_Law_law_286 (by decide) (fun c_3 => ?_) (fun c_3 => ?_)
      · refine W.widen (k := cells + 2) (n := slots + 11) (by omega) (by omega) ?_
        exact kk u2 u1.1 u1.2 ov H locs ls hCS hP hD hS (lv_sub hl [0, 1, 2, 3, 4] rfl)
      · exact absurd rfl c_3
    · exact absurd c_1 c_2
  · refine lv_iconst (v := 1) hx hb d_Law_law_248 (by decide) ?_
    refine lv_goto (tgt := 253) hx hb d_Law_law_249 (by decide) ?_
    have hP : va_P (dC, dI) classes ([(q3, .inl (k3, 1, .inr (.inl ov)))] ++ (va_pl L f ++ (mw ad cA th yr nf no nt bd nb fl AI AN AB AL))) H := hP
    have hD : va_D (lw_A s) ([(q3, .inl (k3, 1, .inr (.inl ov)))] ++ (va_pl L f ++ (mw ad cA th yr nf no nt bd nb fl AI AN AB AL))) := hD
    refine pt_calli (wa := [(q3, .inl (k3, 1, .inr (.inl ov)))]) (wc := va_pl L f) (wb := (mw ad cA th yr nf no nt bd nb fl AI AN AB AL)) (va_runV (As := [.int (xs (i + 1)), .int (xs (i + 2)), .int (bI true)]) (rest := []) ⟨hx, hb, hml, hown, hts⟩ (c_FB_order l dC dI cs o th yr nf no nt bd nb fl AI AN AB AL L f _ (xs (i + 1)) (xs (i + 2)) true hCS) (cwV 3 hts (gd_V k_163 k_164 k_165 k_14 k_166) rfl rfl rfl (by decide +kernel) ⟨Nat.le_of_ble_eq_true rfl, Nat.le_of_ble_eq_true rfl⟩) (fw_mreV hKc hN (pt_P (pt_P hP).2).1 (pt_D (pt_D hD).2.1).1 rfl hmo heo) rfl rfl hl.1 rfl (lv_room (Nat.le_of_ble_eq_true rfl)) d_Law_law_253 ⟨lw_fitC (cells := cells) (mc := 2) hc1 (by decide), lw_fitS (slots := slots) (ms := 11) hs1 (by decide)⟩) hP hD hS hA (fun r1 u1 H locs hw1 hP hD hS => ?_)
    refine lv_aload_n hx hb d_Law_law_256 rfl (lv_at hl 2 rfl) ?_
    refine lv_aload_n hx hb d_Law_law_257 rfl (lv_at hl 0 rfl) ?_
    refine lv_iload hx hb d_Law_law_258 (lv_at hl 4 rfl) ?_
    refine lv_iconst (v := 1) hx hb d_Law_law_260 (by decide) ?_
    refine lv_iadd hx hb d_Law_law_261 ?_
    refine lv_topI (y := nI (i + 1)) (nI_add i 1) ?_
    refine va_sld hx hb hX hbl hbA hS (vp_in_nI (by omega) (by omega)) d_Law_law_262 ?_
    rw [nI_clamp (by omega)]
    refine lv_aload_n hx hb d_Law_law_263 rfl (lv_at hl 0 rfl) ?_
    refine lv_iload hx hb d_Law_law_264 (lv_at hl 4 rfl) ?_
    refine lv_iconst (v := 2) hx hb d_Law_law_266 (by decide) ?_
    refine lv_iadd hx hb d_Law_law_267 ?_
    refine lv_topI (y := nI (i + 2)) (nI_add i 2) ?_
    refine va_sld hx hb hX hbl hbA hS (vp_in_nI (by omega) (by omega)) d_Law_law_268 ?_
    rw [nI_clamp (by omega)]
    refine lv_aload_n hx hb d_Law_law_269 rfl (lv_at hl 0 rfl) ?_
    refine lv_iload hx hb d_Law_law_270 (lv_at hl 4 rfl) ?_
    refine lv_iconst (v := 3) hx hb d_Law_law_272 (by decide) ?_
    refine lv_iadd hx hb d_Law_law_273 ?_
    refine lv_topI (y := nI (i + 3)) (nI_add i 3) ?_
    refine va_sld hx hb hX hbl hbA hS (vp_in_nI (by omega) (by omega)) d_Law_law_274 ?_
    rw [nI_clamp (by omega)]
    refine lv_if_eq (tgt := 282) hx hb d_Law_law_275 (by decide) (fun c_4 => ?_) (fun c_4 => ?_)
    · exact absurd c_4 c_1
    · refine lv_iconst (v := 1) hx hb d_Law_law_278 (by decide) ?_
      refine lv_goto (tgt := 283) hx hb d_Law_law_279 (by decide) ?_
      have hP : va_P (dC, dI) classes (((q3, .inl (k3, 1, .inr (.inl ov))) :: va_pl u1.1 u1.2) ++ (mw ad cA th yr nf no nt bd nb fl AI AN AB AL)) H := hP
      have hD : va_D (lw_A s) (((q3, .inl (k3, 1, .inr (.inl ov))) :: va_pl u1.1 u1.2) ++ (mw ad cA th yr nf no nt bd nb fl AI AN AB AL)) := hD
      refine pe_calli (wa := (q3, .inl (k3, 1, .inr (.inl ov))) :: va_pl u1.1 u1.2) (wc := (mw ad cA th yr nf no nt bd nb fl AI AN AB AL)) (va_runV (As := [.int (xs (i + 1)), .int (xs (i + 2)), .int (bI true)]) (rest := [.int r1]) ⟨hx, hb, hml, hown, hts⟩ (c_Mo_order l dC dI ad cA th yr nf no nt bd nb fl AI AN AB AL _ (xs (i + 1)) (xs (i + 2)) true hI) (cwV 3 hts (gd_V k_654 k_655 k_656 k_17 k_657) rfl rfl rfl (by decide +kernel) ⟨Nat.le_of_ble_eq_true rfl, Nat.le_of_ble_eq_true rfl⟩) (mu_preV 0 hKm hN (pt_P hP).2 (pt_D hD).2.1 rfl rfl) rfl rfl hl.1 rfl (lv_room (Nat.le_of_ble_eq_true rfl)) d_Law_law_283 ⟨lw_fitC2 (cells := cells) (mc := 2) hc1 (by decide), lw_fitS2 (slots := slots) (ms := 11) hs1 (by decide)⟩) hP hD hS hA (fun r2 u2 H locs hw2 hP hD hS => ?_)
      have hw2 : (r2, u2) = m_order (th, yr, nf, no, nt, bd, nb, fl, AI, AN, AB, AL) (xs (i + 1)) (xs (i + 2)) true := hw2
      have hw1 : r1 = (m_order (th, yr, nf, no, nt, bd, nb, fl, AI, AN, AB, AL) (xs (i + 1)) (xs (i + 2)) true).1 ∧ CS cs o (m_order (th, yr, nf, no, nt, bd, nb, fl, AI, AN, AB, AL) (xs (i + 1)) (xs (i + 2)) true).2 u1.1 u1.2 := hw1
      rw [← hw2] at hw1
      obtain ⟨rfl, hCS⟩ := hw1
      have hCS : CS cs o u2 u1.1 u1.2 := hCS
      refine lv_icmp_eq (tgt := 796) hx hb d_Law_law_286 (by decide) (fun c_5 => ?_) (fun c_5 => ?_)
      · refine W.widen (k := cells + 2) (n := slots + 11) (by omega) (by omega) ?_
        exact kk u2 u1.1 u1.2 ov H locs ls hCS hP hD hS (lv_sub hl [0, 1, 2, 3, 4] rfl)
      · exact absurd rfl c_5

set_option maxHeartbeats 4000000 in
set_option maxRecDepth 100000 in
theorem lw_approve {p : Program} {l : Launch} {e : Env} {s : State} {m : MethodId} {below : List Frame} {meth : Method} {c : Code} {Q : State → Prop} {b N0 : Nat} {xs : Nat → Int32} {dC : Nat → ClassId} {dI : Nat → Nat → Nat} {ad : Nat → Nat} {cA cs : Nat → ClassId} {o q3 : Nat} {k3 : ClassId} {th yr : Int32} {nf no nt : Nat} {bd : Int32} {nb : Nat} {fl : Int32} {AI : Nat → Nat → Int32} {AN : Nat → Nat → Nat} {AB : Nat → Nat → Bool} {AL : Nat → Nat → Int64} {L : List Nat} {f : Nat → va_E} {ov : Nat → Int64} {i cells slots : Nat} {H : Heap} {locs : List Loc} {ls : Array Slot} (C0 : lw_C p l s m c b N0 xs dC dI cA cs k3) (hi : i + 5 ≤ N0) (hc1 : cells + 2 ≤ 601024) (hs1 : slots + 11 ≤ 7293000) (hCS : CS cs o (th, yr, nf, no, nt, bd, nb, fl, AI, AN, AB, AL) L f) (hP : va_P (dC, dI) classes (((q3, .inl (k3, 1, .inr (.inl ov))) :: va_pl L f) ++ (mw ad cA th yr nf no nt bd nb fl AI AN AB AL)) H) (hD : va_D (lw_A s) (((q3, .inl (k3, 1, .inr (.inl ov))) :: va_pl L f) ++ (mw ad cA th yr nf no nt bd nb fl AI AN AB AL))) (hS : va_S (lw_A s) s.heap H locs) (hl : lv_has ls 7 [(0, .ref b), (1, .ref o), (2, .ref (ad 0)), (3, .ref q3), (4, .int (nI i))])
    (kk : ∀ (u : MS) (L : List Nat) (f : Nat → va_E) (ov : Nat → Int64) (H : Heap) (locs : List Loc) (ls : Array Slot), CS cs o u L f → va_P (dC, dI) classes (((q3, .inl (k3, 1, .inr (.inl ov))) :: va_pl L f) ++ mwS ad cA u) H → va_D (lw_A s) (((q3, .inl (k3, 1, .inr (.inl ov))) :: va_pl L f) ++ mwS ad cA u) → va_S (lw_A s) s.heap H locs → lv_has ls 7 [(0, .ref b), (1, .ref o), (2, .ref (ad 0)), (3, .ref q3), (4, .int (nI i))] → W p l e room_1 s m #[Value.ref b] below meth c H locs (cells + 2) (slots + 11) Q (F0 m 796 ls [])) : W p l e room_1 s m #[Value.ref b] below meth c H locs cells slots Q (F0 m 291 ls []) := by
  obtain ⟨hx, hb, hml, hown, hts, hX, hbl, hN0, hfl, hKm, hKc, hKo, hN, hXK⟩ := C0
  have hG := fun (w : Cond) (h : w ∈ wG) => hts w (List.mem_cons_of_mem _ h)
  have hA : ∀ q : Nat, s.heap.size ≤ q → lw_A s q := fun _ h => h
  have hbA : ¬ lw_A s b := Nat.not_le.mpr hbl
  obtain ⟨hmo, fs, heo⟩ := hCS.recv
  have hI : InvM nf no nt nb AI AN := hCS.inv
  refine lv_aload_n hx hb d_Law_law_291 rfl (lv_at hl 1 rfl) ?_
  refine lv_aload_n hx hb d_Law_law_292 rfl (lv_at hl 0 rfl) ?_
  refine lv_iload hx hb d_Law_law_293 (lv_at hl 4 rfl) ?_
  refine lv_iconst (v := 1) hx hb d_Law_law_295 (by decide) ?_
  refine lv_iadd hx hb d_Law_law_296 ?_
  refine lv_topI (y := nI (i + 1)) (nI_add i 1) ?_
  refine va_sld hx hb hX hbl hbA hS (vp_in_nI (by omega) (by omega)) d_Law_law_297 ?_
  rw [nI_clamp (by omega)]
  refine lv_aload_n hx hb d_Law_law_298 rfl (lv_at hl 0 rfl) ?_
  refine lv_iload hx hb d_Law_law_299 (lv_at hl 4 rfl) ?_
  refine lv_iconst (v := 2) hx hb d_Law_law_301 (by decide) ?_
  refine lv_iadd hx hb d_Law_law_302 ?_
  refine lv_topI (y := nI (i + 2)) (nI_add i 2) ?_
  refine va_sld hx hb hX hbl hbA hS (vp_in_nI (by omega) (by omega)) d_Law_law_303 ?_
  rw [nI_clamp (by omega)]
  have hP : va_P (dC, dI) classes ([(q3, .inl (k3, 1, .inr (.inl ov)))] ++ (va_pl L f ++ (mw ad cA th yr nf no nt bd nb fl AI AN AB AL))) H := hP
  have hD : va_D (lw_A s) ([(q3, .inl (k3, 1, .inr (.inl ov)))] ++ (va_pl L f ++ (mw ad cA th yr nf no nt bd nb fl AI AN AB AL))) := hD
  refine pt_calli (wa := [(q3, .inl (k3, 1, .inr (.inl ov)))]) (wc := va_pl L f) (wb := (mw ad cA th yr nf no nt bd nb fl AI AN AB AL)) (va_runV (As := [.int (xs (i + 1)), .int (xs (i + 2))]) (rest := []) ⟨hx, hb, hml, hown, hts⟩ (c_FB_approve l dC dI cs o th yr nf no nt bd nb fl AI AN AB AL L f _ (xs (i + 1)) (xs (i + 2)) hCS) (cwV 2 hts (gd_V k_227 k_228 k_229 k_14 k_230) rfl rfl rfl (by decide +kernel) ⟨Nat.le_of_ble_eq_true rfl, Nat.le_of_ble_eq_true rfl⟩) (fw_mreV hKc hN (pt_P (pt_P hP).2).1 (pt_D (pt_D hD).2.1).1 rfl hmo heo) rfl rfl hl.1 rfl (lv_room (Nat.le_of_ble_eq_true rfl)) d_Law_law_304 ⟨lw_fitC (cells := cells) (mc := 0) hc1 (by decide), lw_fitS (slots := slots) (ms := 0) hs1 (by decide)⟩) hP hD hS hA (fun r1 u1 H locs hw1 hP hD hS => ?_)
  refine lv_aload_n hx hb d_Law_law_307 rfl (lv_at hl 2 rfl) ?_
  refine lv_aload_n hx hb d_Law_law_308 rfl (lv_at hl 0 rfl) ?_
  refine lv_iload hx hb d_Law_law_309 (lv_at hl 4 rfl) ?_
  refine lv_iconst (v := 1) hx hb d_Law_law_311 (by decide) ?_
  refine lv_iadd hx hb d_Law_law_312 ?_
  refine lv_topI (y := nI (i + 1)) (nI_add i 1) ?_
  refine va_sld hx hb hX hbl hbA hS (vp_in_nI (by omega) (by omega)) d_Law_law_313 ?_
  rw [nI_clamp (by omega)]
  refine lv_aload_n hx hb d_Law_law_314 rfl (lv_at hl 0 rfl) ?_
  refine lv_iload hx hb d_Law_law_315 (lv_at hl 4 rfl) ?_
  refine lv_iconst (v := 2) hx hb d_Law_law_317 (by decide) ?_
  refine lv_iadd hx hb d_Law_law_318 ?_
  refine lv_topI (y := nI (i + 2)) (nI_add i 2) ?_
  refine va_sld hx hb hX hbl hbA hS (vp_in_nI (by omega) (by omega)) d_Law_law_319 ?_
  rw [nI_clamp (by omega)]
  have hP : va_P (dC, dI) classes (((q3, .inl (k3, 1, .inr (.inl ov))) :: va_pl u1.1 u1.2) ++ (mw ad cA th yr nf no nt bd nb fl AI AN AB AL)) H := hP
  have hD : va_D (lw_A s) (((q3, .inl (k3, 1, .inr (.inl ov))) :: va_pl u1.1 u1.2) ++ (mw ad cA th yr nf no nt bd nb fl AI AN AB AL)) := hD
  refine pe_calli (wa := (q3, .inl (k3, 1, .inr (.inl ov))) :: va_pl u1.1 u1.2) (wc := (mw ad cA th yr nf no nt bd nb fl AI AN AB AL)) (va_runV (As := [.int (xs (i + 1)), .int (xs (i + 2))]) (rest := [.int r1]) ⟨hx, hb, hml, hown, hts⟩ (c_Mo_approve l dC dI ad cA th yr nf no nt bd nb fl AI AN AB AL _ (xs (i + 1)) (xs (i + 2)) hI) (cwV 2 hts (gd_V k_663 k_664 k_665 k_17 k_666) rfl rfl rfl (by decide +kernel) ⟨Nat.le_of_ble_eq_true rfl, Nat.le_of_ble_eq_true rfl⟩) (mu_preV 0 hKm hN (pt_P hP).2 (pt_D hD).2.1 rfl rfl) rfl rfl hl.1 rfl (lv_room (Nat.le_of_ble_eq_true rfl)) d_Law_law_320 ⟨lw_fitC2 (cells := cells) (mc := 0) hc1 (by decide), lw_fitS2 (slots := slots) (ms := 0) hs1 (by decide)⟩) hP hD hS hA (fun r2 u2 H locs hw2 hP hD hS => ?_)
  have hw2 : (r2, u2) = m_approve (th, yr, nf, no, nt, bd, nb, fl, AI, AN, AB, AL) (xs (i + 1)) (xs (i + 2)) := hw2
  have hw1 : r1 = (m_approve (th, yr, nf, no, nt, bd, nb, fl, AI, AN, AB, AL) (xs (i + 1)) (xs (i + 2))).1 ∧ CS cs o (m_approve (th, yr, nf, no, nt, bd, nb, fl, AI, AN, AB, AL) (xs (i + 1)) (xs (i + 2))).2 u1.1 u1.2 := hw1
  rw [← hw2] at hw1
  obtain ⟨rfl, hCS⟩ := hw1
  have hCS : CS cs o u2 u1.1 u1.2 := hCS
  refine lv_icmp_eq (tgt := 796) hx hb d_Law_law_323 (by decide) (fun c_1 => ?_) (fun c_1 => ?_)
  · refine W.widen (k := cells + 2) (n := slots + 11) (by omega) (by omega) ?_
    exact kk u2 u1.1 u1.2 ov H locs ls hCS hP hD hS (lv_sub hl [0, 1, 2, 3, 4] rfl)
  · exact absurd rfl c_1
