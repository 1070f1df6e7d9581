theorem bat_add (AI : Nat → Nat → Int32) (AN : Nat → Nat → Nat) (nb j : Nat) (c0 x : Int32) : m_bat (u2 AI 23 nb c0) (u2 AN 22 nb j) (nb + 1) x = m_bat AI AN nb x + (if nI j = x then c0.toInt64 else 0) := by
  unfold m_bat
  simp only [sumL]
  rw [sumL_congr (g' := fun r => if nI (AN 22 r) = x then (AI 23 r).toInt64 else 0) (fun i hi => by
    have : i ≠ nb := by omega
    simp [u2, va_up, this])]
  simp [u2, va_up]
theorem tot_add (AI : Nat → Nat → Int32) (nb : Nat) (c0 : Int32) : m_tot (u2 AI 23 nb c0) (nb + 1) = m_tot AI nb + c0.toInt64 := by
  unfold m_tot
  simp only [sumL]
  rw [sumL_congr (g' := fun r => (AI 23 r).toInt64) (fun i hi => by
    have : i ≠ nb := by omega
    simp [u2, va_up, this])]
  simp [u2, va_up]

theorem SR_row {n : Nat → Nat} {ad : Nat → Nat → Nat} {e : Nat → Nat → va_E} {cs : Nat → ClassId} {bl : Nat → Nat → Int64} {rx : Nat → Nat → Nat} {yr : Int32} {nf no nt : Nat} {bd : Int32} {nb : Nat} {fl : Int32} {AI : Nat → Nat → Int32} {AN : Nat → Nat → Nat} {AB : Nat → Nat → Bool} {AL : Nat → Nat → Int64} (hR : SR n ad e cs bl rx yr nf no nt bd nb fl AI AN AB AL) (hnf : nf ≤ 30) (hnb : nb < 20) (j : Nat) (hj : j < nf) (c0 : Int32) : SR n ad (up2 (up2 (up2 e 0 6 (oArr (cs 4) 20 (va_up (fun r => if r < nb then some (ad 1 (AN 22 r)) else none) nb (some (ad 1 j))))) 0 5 (oBat (ad 0 6) (nI (nb + 1)) (m_tot AI nb + c0.toInt64))) 1 j (oAcc (nI j) (AI 1 j) (AL 2 j) (m_enc AI AN no (nI j)) (AL 3 j) (m_bat AI AN nb (nI j) + c0.toInt64))) cs bl rx yr nf no nt bd (nb + 1) fl (u2 AI 23 nb c0) (u2 AN 22 nb j) AB AL := by
  obtain ⟨hn, e00, e01, e02, e03, e04, e05, e06, e1, e2, e3, e4, e5, e6⟩ := hR
  refine ⟨?_, ?_, ?_, ?_, ?_, ?_, ?_, ?_, ?_, ?_, ?_, ?_, ?_, ?_⟩
  · simpa [up2, u2, va_up] using hn
  · simpa [up2, u2, va_up] using e00
  · simpa [up2, u2, va_up] using e01
  · simpa [up2, u2, va_up] using e02
  · simpa [up2, u2, va_up] using e03
  · simpa [up2, u2, va_up] using e04
  · rw [up2_k _ _ _ _ (by decide), up2_self, tot_add]
  · rw [up2_k _ _ _ _ (by decide), up2_i _ _ _ _ (by decide), up2_self]
    congr 6
    funext r
    by_cases h : r = nb
    · subst h; simp [va_up, u2]
    · have e9 : (r < nb + 1) ↔ (r < nb) := by omega
      simp [va_up, h, e9, u2]
  · intro i hi
    have eb := bat_add AI AN nb j c0 (nI i)
    have ee : m_enc (u2 AI 23 nb c0) (u2 AN 22 nb j) no (nI i) = m_enc AI AN no (nI i) := rfl
    rw [eb, ee]
    by_cases h : i = j
    · subst h; simp [up2, u2, va_up]
    · have hne : ¬ nI j = nI i := fun q => h ((nI_eq (by omega) (by omega)).mp q).symm
      have := e1 i hi
      simp [up2, h, hne, u2, va_up, this]
  · intro i hi; simpa [up2, u2, va_up] using e2 i hi
  · intro i hi; simpa [up2, u2, va_up] using e3 i hi
  · intro i hi; simpa [up2, u2, va_up] using e4 i hi
  · intro i hi; simpa [up2, u2, va_up] using e5 i hi
  · intro c r hc hr; simpa [up2, u2, va_up] using e6 c r hc hr

theorem InvM_row {nf no nt nb : Nat} {AI : Nat → Nat → Int32} {AN : Nat → Nat → Nat} (hM : InvM nf no nt nb AI AN) (hlt : nb < 20) {j : Nat} (hj : j < nf) (c0 : Int32) : InvM nf no nt (nb + 1) (u2 AI 23 nb c0) (u2 AN 22 nb j) := by
  obtain ⟨hnf, hno, hnt, hnb, hfu, hft, hbf, hrw, hce, hdn⟩ := hM
  refine ⟨hnf, hno, hnt, by omega, hfu, hft, fun r hr => ?_, hrw, hce, hdn⟩
  by_cases h : r = nb
  · subst h; simpa [u2, va_up] using hj
  · simpa [u2, va_up, h] using hbf r (by omega)

theorem d_FB_row_0 : decode b_FB_row 0 = .ok (.aload_n 0, 1) := by decide +kernel
theorem d_FB_row_1 : decode b_FB_row 1 = .ok (.iload_n 1, 1) := by decide +kernel
theorem d_FB_row_2 : decode b_FB_row 2 = .ok (.invokevirtual 71, 3) := by decide +kernel
theorem d_FB_row_5 : decode b_FB_row 5 = .ok (.astore_n 3, 1) := by decide +kernel
theorem d_FB_row_6 : decode b_FB_row 6 = .ok (.aload_n 3, 1) := by decide +kernel
theorem d_FB_row_7 : decode b_FB_row 7 = .ok (.ifnonnull 5, 3) := by decide +kernel
theorem d_FB_row_10 : decode b_FB_row 10 = .ok (.iconst (-1), 1) := by decide +kernel
theorem d_FB_row_11 : decode b_FB_row 11 = .ok (.ireturn, 1) := by decide +kernel
theorem d_FB_row_12 : decode b_FB_row 12 = .ok (.iload_n 2, 1) := by decide +kernel
theorem d_FB_row_13 : decode b_FB_row 13 = .ok (.i2l, 1) := by decide +kernel
theorem d_FB_row_14 : decode b_FB_row 14 = .ok (.ldc2_w 213, 3) := by decide +kernel
theorem d_FB_row_17 : decode b_FB_row 17 = .ok (.ldc2_w 84, 3) := by decide +kernel
theorem d_FB_row_20 : decode b_FB_row 20 = .ok (.invokestatic 61, 3) := by decide +kernel
theorem d_FB_row_23 : decode b_FB_row 23 = .ok (.ifCond .ne 6, 3) := by decide +kernel
theorem d_FB_row_26 : decode b_FB_row 26 = .ok (.bipush (-2), 2) := by decide +kernel
theorem d_FB_row_28 : decode b_FB_row 28 = .ok (.ireturn, 1) := by decide +kernel
theorem d_FB_row_29 : decode b_FB_row 29 = .ok (.aload_n 0, 1) := by decide +kernel
theorem d_FB_row_30 : decode b_FB_row 30 = .ok (.getfield 36, 3) := by decide +kernel
theorem d_FB_row_33 : decode b_FB_row 33 = .ok (.invokevirtual 215, 3) := by decide +kernel
theorem d_FB_row_36 : decode b_FB_row 36 = .ok (.ifCond .eq 6, 3) := by decide +kernel
theorem d_FB_row_39 : decode b_FB_row 39 = .ok (.bipush (-4), 2) := by decide +kernel
theorem d_FB_row_41 : decode b_FB_row 41 = .ok (.ireturn, 1) := by decide +kernel
theorem d_FB_row_42 : decode b_FB_row 42 = .ok (.aload_n 0, 1) := by decide +kernel
theorem d_FB_row_43 : decode b_FB_row 43 = .ok (.getfield 36, 3) := by decide +kernel
theorem d_FB_row_46 : decode b_FB_row 46 = .ok (.aload_n 3, 1) := by decide +kernel
theorem d_FB_row_47 : decode b_FB_row 47 = .ok (.iload_n 2, 1) := by decide +kernel
theorem d_FB_row_48 : decode b_FB_row 48 = .ok (.invokevirtual 218, 3) := by decide +kernel
theorem d_FB_row_51 : decode b_FB_row 51 = .ok (.aload_n 0, 1) := by decide +kernel
theorem d_FB_row_52 : decode b_FB_row 52 = .ok (.getfield 36, 3) := by decide +kernel
theorem d_FB_row_55 : decode b_FB_row 55 = .ok (.getfield 221, 3) := by decide +kernel
theorem d_FB_row_58 : decode b_FB_row 58 = .ok (.ireturn, 1) := by decide +kernel
set_option maxHeartbeats 4000000 in
set_option maxRecDepth 100000 in
theorem c_FB_row (l : Launch) (dC : Nat → ClassId) (dI : Nat → Nat → Nat) (cs : Nat → ClassId) (o : Nat) (th yr : Int32) (nf no nt : Nat) (bd : Int32) (nb : Nat) (fl : Int32) (AI : Nat → Nat → Int32) (AN : Nat → Nat → Nat) (AB : Nat → Nat → Bool) (AL : Nat → Nat → Int64) (L : List Nat) (f : Nat → va_E) (sz : Nat) (fd c0 : Int32) (hCS : CS cs o (th, yr, nf, no, nt, bd, nb, fl, AI, AN, AB, AL) L f) : Met l y_FB_row w_FB_row { frames := 2, cells := 0, slots := 0, locals := 46 } (mu_P (dC, dI) classes (ctys cs) (va_pl L f) sz [.ref o, .int fd, .int c0]) (va_Qi (fun r u => r = (m_row (th, yr, nf, no, nt, bd, nb, fl, AI, AN, AB, AL) fd c0).1 ∧ CS cs o (m_row (th, yr, nf, no, nt, bd, nb, fl, AI, AN, AB, AL) fd c0).2 u.1 u.2) (mu_B (dC, dI) classes (ctys cs) (va_A (va_pl L f) sz) fw_w) (va_A (va_pl L f) sz)) 0 0 (va_A (va_pl L f) sz) := by
  obtain ⟨n, ad, e0, bl, rx, rfl, hC, hR, hM, hB, hZ⟩ := hCS
  obtain ⟨⟨n0, n1, n2, n3, n4, n5⟩, e00, e01, e02, e03, e04, e05, e06, e1, e2, e3, e4, e5, e6⟩ := id hR
  obtain ⟨hnf, hno, hnt, hnb, hfu, hft, hbf, hrw, hce, hdn⟩ := id hM
  have hm00 : ad 0 0 ∈ L := (hC.1 0 0 (by rw [n0]; decide)).1
  have he00 : f (ad 0 0) = .inr (0, [.ref (ad 0 1), .ref (ad 0 2), .ref (ad 0 3), .ref (ad 0 4), .ref (ad 0 5), .int (nI nf), .int (nI no), .int (nI nt), .int yr, .int bd, .int fl]) := (hC.1 0 0 (by rw [n0]; decide)).2.trans e00
  have hm01 : ad 0 1 ∈ L := (hC.1 0 1 (by rw [n0]; decide)).1
  have he01 : f (ad 0 1) = .inl ((cs 0), 30, .inr (.inr (.inr (.inr (fun i => if i < nf then some (ad 1 i) else none))))) := (hC.1 0 1 (by rw [n0]; decide)).2.trans e01
  have hm02 : ad 0 2 ∈ L := (hC.1 0 2 (by rw [n0]; decide)).1
  have he02 : f (ad 0 2) = .inl ((cs 1), 300, .inr (.inr (.inr (.inr (fun i => if i < no then some (ad 2 i) else none))))) := (hC.1 0 2 (by rw [n0]; decide)).2.trans e02
  have hm03 : ad 0 3 ∈ L := (hC.1 0 3 (by rw [n0]; decide)).1
  have he03 : f (ad 0 3) = .inl ((cs 2), 100, .inr (.inr (.inr (.inr (fun i => if i < nt then some (ad 4 i) else none))))) := (hC.1 0 3 (by rw [n0]; decide)).2.trans e03
  have hm04 : ad 0 4 ∈ L := (hC.1 0 4 (by rw [n0]; decide)).1
  have he04 : f (ad 0 4) = .inl ((cs 3), 10, .inr (.inr (.inr (.inr (fun c => if AN 18 c = 0 then none else some (ad 6 (rx c (AN 18 c - 1)))))))) := (hC.1 0 4 (by rw [n0]; decide)).2.trans e04
  have hm05 : ad 0 5 ∈ L := (hC.1 0 5 (by rw [n0]; decide)).1
  have he05 : f (ad 0 5) = .inr (6, [.ref (ad 0 6), .int (nI nb), .long (m_tot AI nb)]) := (hC.1 0 5 (by rw [n0]; decide)).2.trans e05
  have hm06 : ad 0 6 ∈ L := (hC.1 0 6 (by rw [n0]; decide)).1
  have he06 : f (ad 0 6) = .inl ((cs 4), 20, .inr (.inr (.inr (.inr (fun r => if r < nb then some (ad 1 (AN 22 r)) else none))))) := (hC.1 0 6 (by rw [n0]; decide)).2.trans e06
  refine Met.ofW (cc := b_FB_row) (maxL := 4) (ret := (some .int)) (by decide) rfl ?_
  intro p e s m args below meth c s₁ B hml hv
  obtain ⟨rfl, hsz, hP, hK, hD0, hN⟩ := hv
  have hx := B.exec
  have hb := B.bytes
  have hr := B.returns
  have hts := atoms_spec (ws := w_FB_row) B.pre
  have hG := fun (w : Cond) (h : w ∈ wG) => hts w (List.mem_cons_of_mem _ h)
  have hown : s.vm.findClass R_FB = some m.cls := findClass_of_methodNamed B.named
  have hlocks := B.notSynchronized
  subst hsz
  have hD := hD0.self (sz := s.heap.size)
  generalize hAe : va_A (va_pl L f) s.heap.size = A at hD ⊢
  have hA : ∀ q : Nat, s.heap.size ≤ q → A q := fun q h => by rw [← hAe]; exact Or.inr h
  have hS : va_S A s.heap s.heap [] := va_S.rf
  have hP : va_P (dC, dI) classes (va_pl L f) s.heap := hP
  have hl := lv_entry ([.ref (ad 0 0), .int fd, .int c0]) (n := 4) (Nat.le_of_ble_eq_true rfl)
  rw [lg_entry_eq]
  generalize (lg_sl ([.ref (ad 0 0), .int fd, .int c0]) ++ List.replicate (4 - (lg_sl ([.ref (ad 0 0), .int fd, .int c0])).length) Slot.unset).toArray = ls at hl ⊢
  have hl : lv_has ls 4 [(0, .ref (ad 0 0)), (1, .int fd), (2, .int c0)] := hl
  refine lv_aload_n hx hb d_FB_row_0 rfl (lv_at hl 0 rfl) ?_
  refine lv_iload_n hx hb d_FB_row_1 rfl (lv_at hl 1 rfl) ?_
  refine rd_callq (va_runV (As := [.int fd]) (rest := []) ⟨hx, hb, hml, hown, hts⟩ (c_FB_accountAt l dC dI (ctys cs) L f (ad 0 0) (ad 0 1) (nI nf) (nI no) (nI nt) yr bd fl (ad 0 2) (ad 0 3) (ad 0 4) (ad 0 5) (cs 0) (fun i => if i < nf then some (ad 1 i) else none) fd hm00 he00 hm01 he01 rfl) (cwV 1 hts (gd_V k_145 k_147 k_0 k_14 k_148) rfl rfl rfl (by decide +kernel) ⟨Nat.le_of_ble_eq_true rfl, Nat.le_of_ble_eq_true rfl⟩) (fw_preV hK hN hP rfl hm00 he00) rfl rfl hl.1 rfl (lv_room (Nat.le_of_ble_eq_true rfl)) d_FB_row_2 ⟨Nat.zero_le _, Nat.zero_le _⟩) (fun r_1 hr_1 => ?_)
  rcases at_cases hnf (by decide) hr_1 with ⟨hq_fd, rfl⟩ | ⟨j, hj, rfl, rfl⟩
  · refine W.eq (g2 := F0 m 5 ls [.null]) rfl ?_
    refine lv_astore_nN (lv' := [(3, .null), (0, .ref (ad 0 0)), (1, .int fd), (2, .int c0)]) hx hb d_FB_row_5 rfl hl (by decide) rfl (fun ls hl => ?_)
    refine lv_aload_nN hx hb d_FB_row_6 rfl (lv_at hl 0 rfl) ?_
    refine lv_ifnonnullN hx hb d_FB_row_7 ?_
    refine lv_iconst (v := (-1)) hx hb d_FB_row_10 (by decide) ?_
    have hcall : m_row (th, yr, nf, no, nt, bd, nb, fl, AI, AN, AB, AL) fd c0 = ((-1), (0, yr, nf, no, nt, bd, nb, fl, AI, AN, AB, AL)) := (by simp [m_row, ixn, bI, hq_fd] <;> (repeat' apply And.intro) <;> rfl)
    have hcs : CS cs (ad 0 0) (0, yr, nf, no, nt, bd, nb, fl, AI, AN, AB, AL) L f := ⟨n, ad, e0, bl, rx, rfl, hC, hR, hM, hB, hZ⟩
    exact W.iret (v := (-1)) hx hb hr (fun t ht hW => ⟨⟨_, (L, f), rfl, by rw [hcall]; exact ⟨rfl, hcs⟩, by rw [ht]; exact hP, va_K.moved hW.alike hK, hD⟩, hS.F ht⟩) hS.2.2 d_FB_row_11
  · have ej : (nI j).toNatClampNeg = j := nI_clamp (by omega)
    have hi_j : inN (nI j) nf = true := inN_yes (by omega) hj
    refine W.eq (g2 := F0 m 5 ls [.ref (ad 1 j)]) rfl ?_
    have hm_y_2 : ad 1 j ∈ L := (hC.1 1 j (by rw [n1]; exact hj)).1
    have he_y_2 : f (ad 1 j) = .inr (1, [.int (nI j), .int (AI 1 j), .long (AL 2 j), .long (m_enc AI AN no (nI j)), .long (AL 3 j), .long (m_bat AI AN nb (nI j))]) := (hC.1 1 j (by rw [n1]; exact hj)).2.trans (e1 j hj)
    refine lv_astore_n (lv' := [(3, .ref (ad 1 j)), (0, .ref (ad 0 0)), (1, .int (nI j)), (2, .int c0)]) hx hb d_FB_row_5 rfl hl (by decide) rfl (fun ls hl => ?_)
    refine lv_aload_n hx hb d_FB_row_6 rfl (lv_at hl 0 rfl) ?_
    refine lv_ifnonnull (tgt := 12) hx hb d_FB_row_7 (by decide) ?_
    refine lv_iload_n hx hb d_FB_row_12 rfl (lv_at hl 3 rfl) ?_
    refine lv_i2l hx hb d_FB_row_13 rfl ?_
    refine lv_ldc2 (own := R_FB) (v := (-1000000000)) hx hb hown (hG _ k_387) d_FB_row_14 ?_
    refine lv_ldc2 (own := R_FB) (v := 1000000000) hx hb hown (hG _ k_167) d_FB_row_17 ?_
    refine rd_calli (va_runS (As := [.long (c0.toInt64), .long (-1000000000), .long 1000000000]) (rest := []) ⟨hx, hb, hml, hown, hts⟩ (c_FB_isWithin l dC dI (ctys cs) (va_pl L f) (c0.toInt64) (-1000000000) 1000000000) (cwS 3 hts (gd_S k_106 k_107 k_14 k_108) rfl rfl rfl (by decide +kernel) ⟨Nat.le_of_ble_eq_true rfl, Nat.le_of_ble_eq_true rfl⟩) (rd_preS hK hN hP) rfl rfl hl.1 rfl (lv_room (Nat.le_of_ble_eq_true rfl)) d_FB_row_20 ⟨Nat.zero_le _, Nat.zero_le _⟩) (fun r_3 hr_3 => ?_)
    subst hr_3
    refine lb_if_ne (tgt := 29) hx hb d_FB_row_23 (by decide) (fun c_4 => ?_) (fun c_4 => ?_)
    · refine lv_aload_n hx hb d_FB_row_29 rfl (lv_at hl 1 rfl) ?_
      refine fw_get (D := (dC, dI)) (ci := 0) (v := .ref (ad 0 5)) (C := R_FB) (T := F_FB) (N := 11) hx hb hG iG_FB hown hK hP hm00 he00 rfl 4 (by decide) (hG _ k_71) (fun _ h9 => h9) rfl d_FB_row_30 ?_
      refine rd_calli (va_runV (As := []) (rest := []) ⟨hx, hb, hml, hown, hts⟩ (c_Ba_isFull l dC dI (ctys cs) L f (ad 0 5) (ad 0 6) (nI nb) (m_tot AI nb) (cs 4) (fun r => if r < nb then some (ad 1 (AN 22 r)) else none) hm05 he05 hm06 he06 rfl) (cwV 0 hts (gd_V k_388 k_389 k_390 k_15 k_391) rfl rfl rfl (by decide +kernel) ⟨Nat.le_of_ble_eq_true rfl, Nat.le_of_ble_eq_true rfl⟩) (fw_preV hK hN hP rfl hm05 he05) rfl rfl hl.1 rfl (lv_room (Nat.le_of_ble_eq_true rfl)) d_FB_row_33 ⟨Nat.zero_le _, Nat.zero_le _⟩) (fun r_5 hr_5 => ?_)
      subst hr_5
      refine lb_if_eq (tgt := 42) hx hb d_FB_row_36 (by decide) (fun c_6 => ?_) (fun c_6 => ?_)
      · have hlt : nb < 20 := (nI_ltI (a := nb) (b := 20) (by omega) (by decide)).mp (Decidable.not_not.mp (of_decide_eq_false c_6))
        have hz : ¬ nb = 20 := by omega
        refine lv_aload_n hx hb d_FB_row_42 rfl (lv_at hl 1 rfl) ?_
        refine fw_get (D := (dC, dI)) (ci := 0) (v := .ref (ad 0 5)) (C := R_FB) (T := F_FB) (N := 11) hx hb hG iG_FB hown hK hP hm00 he00 rfl 4 (by decide) (hG _ k_71) (fun _ h9 => h9) rfl d_FB_row_43 ?_
        refine lv_aload_n hx hb d_FB_row_46 rfl (lv_at hl 0 rfl) ?_
        refine lv_iload_n hx hb d_FB_row_47 rfl (lv_at hl 3 rfl) ?_
        refine mu_callv (va_runV (As := [.ref (ad 1 j), .int c0]) (rest := []) ⟨hx, hb, hml, hown, hts⟩ (c_Ba_add l dC dI (ctys cs) L f _ nb (by omega) (ad 0 5) (ad 0 6) (ad 1 j) (m_tot AI nb) (cs 4) (fun r => if r < nb then some (ad 1 (AN 22 r)) else none) (nI j) (AI 1 j) (AL 2 j) (m_enc AI AN no (nI j)) (AL 3 j) (m_bat AI AN nb (nI j)) c0 hm05 he05 hm06 he06 rfl hm_y_2 he_y_2) (cwV 2 hts (gd_V k_392 k_393 k_394 k_15 k_395) rfl rfl rfl (by decide +kernel) ⟨Nat.le_of_ble_eq_true rfl, Nat.le_of_ble_eq_true rfl⟩) (fw_mreV hK hN hP hD rfl hm05 he05) rfl rfl hl.1 rfl (lv_room (Nat.le_of_ble_eq_true rfl)) d_FB_row_48 ⟨Nat.zero_le _, Nat.zero_le _⟩) hD hS hA (fun ur_7 H locs hr_7 hP hD hS => ?_)
        subst hr_7
        obtain ⟨f_8, ef_8⟩ : ∃ z, z = va_up f (ad 0 6) (.inl ((cs 4), 20, .inr (.inr (.inr (.inr (va_up (fun r => if r < nb then some (ad 1 (AN 22 r)) else none) nb (some (ad 1 j)))))))) := ⟨_, rfl⟩
        have he_9 : f_8 (ad 0 0) = .inr (0, [.ref (ad 0 1), .ref (ad 0 2), .ref (ad 0 3), .ref (ad 0 4), .ref (ad 0 5), .int (nI nf), .int (nI no), .int (nI nt), .int yr, .int bd, .int fl]) := by rw [ef_8, va_up_ne _ _ (CP.ne hC 0 0 0 6 (by rw [n0]; decide) (by rw [n0]; decide) (by decide))]; exact he00
        have he_10 : f_8 (ad 0 1) = .inl ((cs 0), 30, .inr (.inr (.inr (.inr (fun i => if i < nf then some (ad 1 i) else none))))) := by rw [ef_8, va_up_ne _ _ (CP.ne hC 0 1 0 6 (by rw [n0]; decide) (by rw [n0]; decide) (by decide))]; exact he01
        have he_11 : f_8 (ad 0 2) = .inl ((cs 1), 300, .inr (.inr (.inr (.inr (fun i => if i < no then some (ad 2 i) else none))))) := by rw [ef_8, va_up_ne _ _ (CP.ne hC 0 2 0 6 (by rw [n0]; decide) (by rw [n0]; decide) (by decide))]; exact he02
        have he_12 : f_8 (ad 0 3) = .inl ((cs 2), 100, .inr (.inr (.inr (.inr (fun i => if i < nt then some (ad 4 i) else none))))) := by rw [ef_8, va_up_ne _ _ (CP.ne hC 0 3 0 6 (by rw [n0]; decide) (by rw [n0]; decide) (by decide))]; exact he03
        have he_13 : f_8 (ad 0 4) = .inl ((cs 3), 10, .inr (.inr (.inr (.inr (fun c => if AN 18 c = 0 then none else some (ad 6 (rx c (AN 18 c - 1)))))))) := by rw [ef_8, va_up_ne _ _ (CP.ne hC 0 4 0 6 (by rw [n0]; decide) (by rw [n0]; decide) (by decide))]; exact he04
        have he_14 : f_8 (ad 0 5) = .inr (6, [.ref (ad 0 6), .int (nI nb), .long (m_tot AI nb)]) := by rw [ef_8, va_up_ne _ _ (CP.ne hC 0 5 0 6 (by rw [n0]; decide) (by rw [n0]; decide) (by decide))]; exact he05
        have he_15 : f_8 (ad 0 6) = .inl ((cs 4), 20, .inr (.inr (.inr (.inr (va_up (fun r => if r < nb then some (ad 1 (AN 22 r)) else none) nb (some (ad 1 j))))))) := by rw [ef_8]; exact va_up_self _ _ _
        have he_16 : f_8 (ad 1 j) = .inr (1, [.int (nI j), .int (AI 1 j), .long (AL 2 j), .long (m_enc AI AN no (nI j)), .long (AL 3 j), .long (m_bat AI AN nb (nI j))]) := by rw [ef_8, va_up_ne _ _ (fw_ne he_y_2 he06 (show (2 : Nat) ≠ 0 by decide))]; exact he_y_2
        obtain ⟨f_17, ef_17⟩ : ∃ z, z = va_up f_8 (ad 0 5) (.inr (6, [.ref (ad 0 6), .int (nI (nb + 1)), .long ((m_tot AI nb) + c0.toInt64)])) := ⟨_, rfl⟩
        have he_18 : f_17 (ad 0 0) = .inr (0, [.ref (ad 0 1), .ref (ad 0 2), .ref (ad 0 3), .ref (ad 0 4), .ref (ad 0 5), .int (nI nf), .int (nI no), .int (nI nt), .int yr, .int bd, .int fl]) := by rw [ef_17, va_up_ne _ _ (CP.ne hC 0 0 0 5 (by rw [n0]; decide) (by rw [n0]; decide) (by decide))]; exact he_9
        have he_19 : f_17 (ad 0 1) = .inl ((cs 0), 30, .inr (.inr (.inr (.inr (fun i => if i < nf then some (ad 1 i) else none))))) := by rw [ef_17, va_up_ne _ _ (CP.ne hC 0 1 0 5 (by rw [n0]; decide) (by rw [n0]; decide) (by decide))]; exact he_10
        have he_20 : f_17 (ad 0 2) = .inl ((cs 1), 300, .inr (.inr (.inr (.inr (fun i => if i < no then some (ad 2 i) else none))))) := by rw [ef_17, va_up_ne _ _ (CP.ne hC 0 2 0 5 (by rw [n0]; decide) (by rw [n0]; decide) (by decide))]; exact he_11
        have he_21 : f_17 (ad 0 3) = .inl ((cs 2), 100, .inr (.inr (.inr (.inr (fun i => if i < nt then some (ad 4 i) else none))))) := by rw [ef_17, va_up_ne _ _ (CP.ne hC 0 3 0 5 (by rw [n0]; decide) (by rw [n0]; decide) (by decide))]; exact he_12
        have he_22 : f_17 (ad 0 4) = .inl ((cs 3), 10, .inr (.inr (.inr (.inr (fun c => if AN 18 c = 0 then none else some (ad 6 (rx c (AN 18 c - 1)))))))) := by rw [ef_17, va_up_ne _ _ (CP.ne hC 0 4 0 5 (by rw [n0]; decide) (by rw [n0]; decide) (by decide))]; exact he_13
        have he_23 : f_17 (ad 0 5) = .inr (6, [.ref (ad 0 6), .int (nI (nb + 1)), .long ((m_tot AI nb) + c0.toInt64)]) := by rw [ef_17]; exact va_up_self _ _ _
        have he_24 : f_17 (ad 0 6) = .inl ((cs 4), 20, .inr (.inr (.inr (.inr (va_up (fun r => if r < nb then some (ad 1 (AN 22 r)) else none) nb (some (ad 1 j))))))) := by rw [ef_17, va_up_ne _ _ (Ne.symm (CP.ne hC 0 5 0 6 (by rw [n0]; decide) (by rw [n0]; decide) (by decide)))]; exact he_15
        have he_25 : f_17 (ad 1 j) = .inr (1, [.int (nI j), .int (AI 1 j), .long (AL 2 j), .long (m_enc AI AN no (nI j)), .long (AL 3 j), .long (m_bat AI AN nb (nI j))]) := by rw [ef_17, va_up_ne _ _ (fw_ne he_16 he_14 (show (2 : Nat) ≠ 7 by decide))]; exact he_16
        obtain ⟨f_26, ef_26⟩ : ∃ z, z = va_up f_17 (ad 1 j) (.inr (1, [.int (nI j), .int (AI 1 j), .long (AL 2 j), .long (m_enc AI AN no (nI j)), .long (AL 3 j), .long ((m_bat AI AN nb (nI j)) + c0.toInt64)])) := ⟨_, rfl⟩
        have he_27 : f_26 (ad 0 0) = .inr (0, [.ref (ad 0 1), .ref (ad 0 2), .ref (ad 0 3), .ref (ad 0 4), .ref (ad 0 5), .int (nI nf), .int (nI no), .int (nI nt), .int yr, .int bd, .int fl]) := by rw [ef_26, va_up_ne _ _ (fw_ne he_18 he_25 (show (1 : Nat) ≠ 2 by decide))]; exact he_18
        have he_28 : f_26 (ad 0 1) = .inl ((cs 0), 30, .inr (.inr (.inr (.inr (fun i => if i < nf then some (ad 1 i) else none))))) := by rw [ef_26, va_up_ne _ _ (fw_ne he_19 he_25 (show (0 : Nat) ≠ 2 by decide))]; exact he_19
        have he_29 : f_26 (ad 0 2) = .inl ((cs 1), 300, .inr (.inr (.inr (.inr (fun i => if i < no then some (ad 2 i) else none))))) := by rw [ef_26, va_up_ne _ _ (fw_ne he_20 he_25 (show (0 : Nat) ≠ 2 by decide))]; exact he_20
        have he_30 : f_26 (ad 0 3) = .inl ((cs 2), 100, .inr (.inr (.inr (.inr (fun i => if i < nt then some (ad 4 i) else none))))) := by rw [ef_26, va_up_ne _ _ (fw_ne he_21 he_25 (show (0 : Nat) ≠ 2 by decide))]; exact he_21
        have he_31 : f_26 (ad 0 4) = .inl ((cs 3), 10, .inr (.inr (.inr (.inr (fun c => if AN 18 c = 0 then none else some (ad 6 (rx c (AN 18 c - 1)))))))) := by rw [ef_26, va_up_ne _ _ (fw_ne he_22 he_25 (show (0 : Nat) ≠ 2 by decide))]; exact he_22
        have he_32 : f_26 (ad 0 5) = .inr (6, [.ref (ad 0 6), .int (nI (nb + 1)), .long ((m_tot AI nb) + c0.toInt64)]) := by rw [ef_26, va_up_ne _ _ (fw_ne he_23 he_25 (show (7 : Nat) ≠ 2 by decide))]; exact he_23
        have he_33 : f_26 (ad 0 6) = .inl ((cs 4), 20, .inr (.inr (.inr (.inr (va_up (fun r => if r < nb then some (ad 1 (AN 22 r)) else none) nb (some (ad 1 j))))))) := by rw [ef_26, va_up_ne _ _ (fw_ne he_24 he_25 (show (0 : Nat) ≠ 2 by decide))]; exact he_24
        have he_34 : f_26 (ad 1 j) = .inr (1, [.int (nI j), .int (AI 1 j), .long (AL 2 j), .long (m_enc AI AN no (nI j)), .long (AL 3 j), .long ((m_bat AI AN nb (nI j)) + c0.toInt64)]) := by rw [ef_26]; exact va_up_self _ _ _
        have hP : va_P (dC, dI) classes (va_pl L f_26) H := by rw [ef_26, ef_17, ef_8]; exact hP
        have hD : va_D A (va_pl L f_26) := by rw [ef_26, ef_17, ef_8]; exact hD
        refine lv_aload_n hx hb d_FB_row_51 rfl (lv_at hl 1 rfl) ?_
        refine fw_get (D := (dC, dI)) (ci := 0) (v := .ref (ad 0 5)) (C := R_FB) (T := F_FB) (N := 11) hx hb hG iG_FB hown hK hP hm00 he_27 rfl 4 (by decide) (hG _ k_71) (fun _ h9 => h9) rfl d_FB_row_52 ?_
        refine fw_getN (D := (dC, dI)) (ci := 6) (v := .int (nI (nb + 1))) (C := R_Ba) (T := F_Ba) (N := 3) hx hb hG iG_Ba hown hK hP hm05 he_32 rfl 1 (by decide) (hN.use k_52) (fun _ h9 => h9) rfl d_FB_row_55 ?_
        have hcall : m_row (th, yr, nf, no, nt, bd, nb, fl, AI, AN, AB, AL) (nI j) c0 = ((nI (nb + 1)), (0, yr, nf, no, nt, bd, nb + 1, fl, u2 AI 23 nb c0, u2 AN 22 nb j, AB, AL)) := (by simp [m_row, ixn, bI, ej, hi_j, c_4, hz] <;> (repeat' apply And.intro) <;> rfl)
        have hcs : CS cs (ad 0 0) (0, yr, nf, no, nt, bd, nb + 1, fl, u2 AI 23 nb c0, u2 AN 22 nb j, AB, AL) L f_26 := ⟨n, ad, _, bl, rx, rfl, (by rw [ef_26, ef_17, ef_8]; exact ((hC.put 0 6 _ (by rw [n0]; decide) rfl).put 0 5 _ (by rw [n0]; decide) rfl).put 1 j _ (by rw [n1]; exact hj) rfl), SR_row hR hnf hlt j hj c0, InvM_row hM hlt hj c0, hB, hZ⟩
        exact W.iret (v := (nI (nb + 1))) hx hb hr (fun t ht hW => ⟨⟨_, (L, f_26), rfl, by rw [hcall]; exact ⟨rfl, hcs⟩, by rw [ht]; exact hP, va_K.moved hW.alike hK, hD⟩, hS.F ht⟩) hS.2.2 d_FB_row_58
      · have hz : nb = 20 := by have h9 := (not_congr (nI_ltI (a := nb) (b := 20) (by omega) (by decide))).mp (of_decide_eq_true c_6); omega
        refine lv_bipush (v := (-4)) hx hb d_FB_row_39 (by decide) ?_
        have hcall : m_row (th, yr, nf, no, nt, bd, nb, fl, AI, AN, AB, AL) (nI j) c0 = ((-4), (0, yr, nf, no, nt, bd, nb, fl, AI, AN, AB, AL)) := (by simp [m_row, ixn, bI, ej, hi_j, c_4, hz] <;> (repeat' apply And.intro) <;> rfl)
        have hcs : CS cs (ad 0 0) (0, yr, nf, no, nt, bd, nb, fl, AI, AN, AB, AL) L f := ⟨n, ad, e0, bl, rx, rfl, hC, hR, hM, hB, hZ⟩
        exact W.iret (v := (-4)) hx hb hr (fun t ht hW => ⟨⟨_, (L, f), rfl, by rw [hcall]; exact ⟨rfl, hcs⟩, by rw [ht]; exact hP, va_K.moved hW.alike hK, hD⟩, hS.F ht⟩) hS.2.2 d_FB_row_41
    · refine lv_bipush (v := (-2)) hx hb d_FB_row_26 (by decide) ?_
      have hcall : m_row (th, yr, nf, no, nt, bd, nb, fl, AI, AN, AB, AL) (nI j) c0 = ((-2), (0, yr, nf, no, nt, bd, nb, fl, AI, AN, AB, AL)) := (by simp [m_row, ixn, bI, ej, hi_j, c_4] <;> (repeat' apply And.intro) <;> rfl)
      have hcs : CS cs (ad 0 0) (0, yr, nf, no, nt, bd, nb, fl, AI, AN, AB, AL) L f := ⟨n, ad, e0, bl, rx, rfl, hC, hR, hM, hB, hZ⟩
      exact W.iret (v := (-2)) hx hb hr (fun t ht hW => ⟨⟨_, (L, f), rfl, by rw [hcall]; exact ⟨rfl, hcs⟩, by rw [ht]; exact hP, va_K.moved hW.alike hK, hD⟩, hS.F ht⟩) hS.2.2 d_FB_row_28
