theorem SR_band {n : Nat → Nat} {ad : Nat → Nat → Nat} {e : Nat → Nat → va_E} {cs : Nat → ClassId} {bl : Nat → Nat → Int64} {rx : Nat → Nat → Nat} {yr : Int32} {nf no nt : Nat} {bd : Int32} {nb : Nat} {fl : Int32} {AI : Nat → Nat → Int32} {AN : Nat → Nat → Nat} {AB : Nat → Nat → Bool} {AL : Nat → Nat → Int64} (hR : SR n ad e cs bl rx yr nf no nt bd nb fl AI AN AB AL) (b0 : Int32) : SR n ad (up2 e 0 0 (oFB (ad 0 1) (ad 0 2) (ad 0 3) (ad 0 4) (ad 0 5) (nI nf) (nI no) (nI nt) yr b0 fl)) cs bl rx yr nf no nt b0 nb fl AI AN AB AL := by
  obtain ⟨hn, e00, e01, e02, e03, e04, e05, e06, e1, e2, e3, e4, e5, e6⟩ := hR
  refine ⟨?_, ?_, ?_, ?_, ?_, ?_, ?_, ?_, ?_, ?_, ?_, ?_, ?_, ?_⟩
  · simpa [up2, u2, va_up] using hn
  · simpa [up2, u2, va_up] using e00
  · simpa [up2, u2, va_up] using e01
  · simpa [up2, u2, va_up] using e02
  · simpa [up2, u2, va_up] using e03
  · simpa [up2, u2, va_up] using e04
  · simpa [up2, u2, va_up] using e05
  · simpa [up2, u2, va_up] using e06
  · intro i hi; simpa [up2, u2, va_up] using e1 i hi
  · intro i hi; simpa [up2, u2, va_up] using e2 i hi
  · intro i hi; simpa [up2, u2, va_up] using e3 i hi
  · intro i hi; simpa [up2, u2, va_up] using e4 i hi
  · intro i hi; simpa [up2, u2, va_up] using e5 i hi
  · intro c r hc hr; simpa [up2, u2, va_up] using e6 c r hc hr

theorem SR_give {n : Nat → Nat} {ad : Nat → Nat → Nat} {e : Nat → Nat → va_E} {cs : Nat → ClassId} {bl : Nat → Nat → Int64} {rx : Nat → Nat → Nat} {yr : Int32} {nf no nt : Nat} {bd : Int32} {nb : Nat} {fl : Int32} {AI : Nat → Nat → Int32} {AN : Nat → Nat → Nat} {AB : Nat → Nat → Bool} {AL : Nat → Nat → Int64} (hR : SR n ad e cs bl rx yr nf no nt bd nb fl AI AN AB AL) (j : Nat) (hj : j < nf) (g : Int64) : SR n ad (up2 e 1 j (oAcc (nI j) (AI 1 j) g (m_enc AI AN no (nI j)) (AL 3 j) (m_bat AI AN nb (nI j)))) cs bl rx yr nf no nt bd nb fl AI AN AB (u2 AL 2 j g) := by
  obtain ⟨hn, e00, e01, e02, e03, e04, e05, e06, e1, e2, e3, e4, e5, e6⟩ := hR
  refine ⟨?_, ?_, ?_, ?_, ?_, ?_, ?_, ?_, ?_, ?_, ?_, ?_, ?_, ?_⟩
  · simpa [up2, u2, va_up] using hn
  · simpa [up2, u2, va_up] using e00
  · simpa [up2, u2, va_up] using e01
  · simpa [up2, u2, va_up] using e02
  · simpa [up2, u2, va_up] using e03
  · simpa [up2, u2, va_up] using e04
  · simpa [up2, u2, va_up] using e05
  · simpa [up2, u2, va_up] using e06
  · intro i hi
    by_cases h : i = j
    · subst h; simp [up2, u2, va_up]
    · simpa [up2, u2, va_up, h] using e1 i hi
  · intro i hi; simpa [up2, u2, va_up] using e2 i hi
  · intro i hi; simpa [up2, u2, va_up] using e3 i hi
  · intro i hi; simpa [up2, u2, va_up] using e4 i hi
  · intro i hi; simpa [up2, u2, va_up] using e5 i hi
  · intro c r hc hr; simpa [up2, u2, va_up] using e6 c r hc hr

theorem d_FB_band_0 : decode b_FB_band 0 = .ok (.iload_n 1, 1) := by decide +kernel
theorem d_FB_band_1 : decode b_FB_band 1 = .ok (.i2l, 1) := by decide +kernel
theorem d_FB_band_2 : decode b_FB_band 2 = .ok (.lconst 0, 1) := by decide +kernel
theorem d_FB_band_3 : decode b_FB_band 3 = .ok (.ldc2_w 175, 3) := by decide +kernel
theorem d_FB_band_6 : decode b_FB_band 6 = .ok (.invokestatic 61, 3) := by decide +kernel
theorem d_FB_band_9 : decode b_FB_band 9 = .ok (.ifCond .ne 6, 3) := by decide +kernel
theorem d_FB_band_12 : decode b_FB_band 12 = .ok (.bipush (-2), 2) := by decide +kernel
theorem d_FB_band_14 : decode b_FB_band 14 = .ok (.ireturn, 1) := by decide +kernel
theorem d_FB_band_15 : decode b_FB_band 15 = .ok (.aload_n 0, 1) := by decide +kernel
theorem d_FB_band_16 : decode b_FB_band 16 = .ok (.iload_n 1, 1) := by decide +kernel
theorem d_FB_band_17 : decode b_FB_band 17 = .ok (.putfield 40, 3) := by decide +kernel
theorem d_FB_band_20 : decode b_FB_band 20 = .ok (.iconst 1, 1) := by decide +kernel
theorem d_FB_band_21 : decode b_FB_band 21 = .ok (.ireturn, 1) := by decide +kernel
set_option maxHeartbeats 4000000 in
set_option maxRecDepth 100000 in
theorem c_FB_band (l : Launch) (dC : Nat → ClassId) (dI : Nat → Nat → Nat) (cs : Nat → ClassId) (o : Nat) (th yr : Int32) (nf no nt : Nat) (bd : Int32) (nb : Nat) (fl : Int32) (AI : Nat → Nat → Int32) (AN : Nat → Nat → Nat) (AB : Nat → Nat → Bool) (AL : Nat → Nat → Int64) (L : List Nat) (f : Nat → va_E) (sz : Nat) (b0 : Int32) (hCS : CS cs o (th, yr, nf, no, nt, bd, nb, fl, AI, AN, AB, AL) L f) : Met l y_FB_band w_FB_band { frames := 1, cells := 0, slots := 0, locals := 25 } (mu_P (dC, dI) classes (ctys cs) (va_pl L f) sz [.ref o, .int b0]) (va_Qi (fun r u => r = (m_band (th, yr, nf, no, nt, bd, nb, fl, AI, AN, AB, AL) b0).1 ∧ CS cs o (m_band (th, yr, nf, no, nt, bd, nb, fl, AI, AN, AB, AL) b0).2 u.1 u.2) (mu_B (dC, dI) classes (ctys cs) (va_A (va_pl L f) sz) fw_w) (va_A (va_pl L f) sz)) 0 0 (va_A (va_pl L f) sz) := by
  obtain ⟨n, ad, e0, bl, rx, rfl, hC, hR, hM, hB, hZ⟩ := hCS
  obtain ⟨⟨n0, n1, n2, n3, n4, n5⟩, e00, e01, e02, e03, e04, e05, e06, e1, e2, e3, e4, e5, e6⟩ := id hR
  obtain ⟨hnf, hno, hnt, hnb, hfu, hft, hbf, hrw, hce, hdn⟩ := id hM
  have hm00 : ad 0 0 ∈ L := (hC.1 0 0 (by rw [n0]; decide)).1
  have he00 : f (ad 0 0) = .inr (0, [.ref (ad 0 1), .ref (ad 0 2), .ref (ad 0 3), .ref (ad 0 4), .ref (ad 0 5), .int (nI nf), .int (nI no), .int (nI nt), .int yr, .int bd, .int fl]) := (hC.1 0 0 (by rw [n0]; decide)).2.trans e00
  have hm01 : ad 0 1 ∈ L := (hC.1 0 1 (by rw [n0]; decide)).1
  have he01 : f (ad 0 1) = .inl ((cs 0), 30, .inr (.inr (.inr (.inr (fun i => if i < nf then some (ad 1 i) else none))))) := (hC.1 0 1 (by rw [n0]; decide)).2.trans e01
  have hm02 : ad 0 2 ∈ L := (hC.1 0 2 (by rw [n0]; decide)).1
  have he02 : f (ad 0 2) = .inl ((cs 1), 300, .inr (.inr (.inr (.inr (fun i => if i < no then some (ad 2 i) else none))))) := (hC.1 0 2 (by rw [n0]; decide)).2.trans e02
  have hm03 : ad 0 3 ∈ L := (hC.1 0 3 (by rw [n0]; decide)).1
  have he03 : f (ad 0 3) = .inl ((cs 2), 100, .inr (.inr (.inr (.inr (fun i => if i < nt then some (ad 4 i) else none))))) := (hC.1 0 3 (by rw [n0]; decide)).2.trans e03
  have hm04 : ad 0 4 ∈ L := (hC.1 0 4 (by rw [n0]; decide)).1
  have he04 : f (ad 0 4) = .inl ((cs 3), 10, .inr (.inr (.inr (.inr (fun c => if AN 18 c = 0 then none else some (ad 6 (rx c (AN 18 c - 1)))))))) := (hC.1 0 4 (by rw [n0]; decide)).2.trans e04
  have hm05 : ad 0 5 ∈ L := (hC.1 0 5 (by rw [n0]; decide)).1
  have he05 : f (ad 0 5) = .inr (6, [.ref (ad 0 6), .int (nI nb), .long (m_tot AI nb)]) := (hC.1 0 5 (by rw [n0]; decide)).2.trans e05
  have hm06 : ad 0 6 ∈ L := (hC.1 0 6 (by rw [n0]; decide)).1
  have he06 : f (ad 0 6) = .inl ((cs 4), 20, .inr (.inr (.inr (.inr (fun r => if r < nb then some (ad 1 (AN 22 r)) else none))))) := (hC.1 0 6 (by rw [n0]; decide)).2.trans e06
  refine Met.ofW (cc := b_FB_band) (maxL := 2) (ret := (some .int)) (by decide) rfl ?_
  intro p e s m args below meth c s₁ B hml hv
  obtain ⟨rfl, hsz, hP, hK, hD0, hN⟩ := hv
  have hx := B.exec
  have hb := B.bytes
  have hr := B.returns
  have hts := atoms_spec (ws := w_FB_band) B.pre
  have hG := fun (w : Cond) (h : w ∈ wG) => hts w (List.mem_cons_of_mem _ h)
  have hown : s.vm.findClass R_FB = some m.cls := findClass_of_methodNamed B.named
  have hlocks := B.notSynchronized
  subst hsz
  have hD := hD0.self (sz := s.heap.size)
  generalize hAe : va_A (va_pl L f) s.heap.size = A at hD ⊢
  have hA : ∀ q : Nat, s.heap.size ≤ q → A q := fun q h => by rw [← hAe]; exact Or.inr h
  have hS : va_S A s.heap s.heap [] := va_S.rf
  have hP : va_P (dC, dI) classes (va_pl L f) s.heap := hP
  have hl := lv_entry ([.ref (ad 0 0), .int b0]) (n := 2) (Nat.le_of_ble_eq_true rfl)
  rw [lg_entry_eq]
  generalize (lg_sl ([.ref (ad 0 0), .int b0]) ++ List.replicate (2 - (lg_sl ([.ref (ad 0 0), .int b0])).length) Slot.unset).toArray = ls at hl ⊢
  have hl : lv_has ls 2 [(0, .ref (ad 0 0)), (1, .int b0)] := hl
  refine lv_iload_n hx hb d_FB_band_0 rfl (lv_at hl 1 rfl) ?_
  refine lv_i2l hx hb d_FB_band_1 rfl ?_
  refine lv_lconst (v := 0) hx hb d_FB_band_2 (by decide) ?_
  refine lv_ldc2 (own := R_FB) (v := 1000) hx hb hown (hG _ k_301) d_FB_band_3 ?_
  refine rd_calli (va_runS (As := [.long (b0.toInt64), .long 0, .long 1000]) (rest := []) ⟨hx, hb, hml, hown, hts⟩ (c_FB_isWithin l dC dI (ctys cs) (va_pl L f) (b0.toInt64) 0 1000) (cwS 3 hts (gd_S k_106 k_107 k_14 k_108) rfl rfl rfl (by decide +kernel) ⟨Nat.le_of_ble_eq_true rfl, Nat.le_of_ble_eq_true rfl⟩) (rd_preS hK hN hP) rfl rfl hl.1 rfl (lv_room (Nat.le_of_ble_eq_true rfl)) d_FB_band_6 ⟨Nat.zero_le _, Nat.zero_le _⟩) (fun r_1 hr_1 => ?_)
  subst hr_1
  refine lb_if_ne (tgt := 15) hx hb d_FB_band_9 (by decide) (fun c_2 => ?_) (fun c_2 => ?_)
  · refine lv_aload_n hx hb d_FB_band_15 rfl (lv_at hl 0 rfl) ?_
    refine lv_iload_n hx hb d_FB_band_16 rfl (lv_at hl 1 rfl) ?_
    refine fw_put (D := (dC, dI)) (ci := 0) (v := .int b0) (ty := .int) (C := R_FB) (T := F_FB) (N := 11) hx hb hG iG_FB t_FB t_FB_ok n_FB hown hK hP hD hS hm00 he00 rfl 9 (by decide) (hG _ k_76) (fun _ h9 => h9) rfl (by decide +kernel) rfl rfl (Nat.le_of_ble_eq_true rfl) d_FB_band_17 (fun H locs hP hD hS => ?_)
    obtain ⟨f_3, ef_3⟩ : ∃ z, z = va_up f (ad 0 0) (.inr (0, [.ref (ad 0 1), .ref (ad 0 2), .ref (ad 0 3), .ref (ad 0 4), .ref (ad 0 5), .int (nI nf), .int (nI no), .int (nI nt), .int yr, .int b0, .int fl])) := ⟨_, rfl⟩
    have he_4 : f_3 (ad 0 0) = .inr (0, [.ref (ad 0 1), .ref (ad 0 2), .ref (ad 0 3), .ref (ad 0 4), .ref (ad 0 5), .int (nI nf), .int (nI no), .int (nI nt), .int yr, .int b0, .int fl]) := by rw [ef_3]; exact va_up_self _ _ _
    have he_5 : f_3 (ad 0 1) = .inl ((cs 0), 30, .inr (.inr (.inr (.inr (fun i => if i < nf then some (ad 1 i) else none))))) := by rw [ef_3, va_up_ne _ _ (Ne.symm (CP.ne hC 0 0 0 1 (by rw [n0]; decide) (by rw [n0]; decide) (by decide)))]; exact he01
    have he_6 : f_3 (ad 0 2) = .inl ((cs 1), 300, .inr (.inr (.inr (.inr (fun i => if i < no then some (ad 2 i) else none))))) := by rw [ef_3, va_up_ne _ _ (Ne.symm (CP.ne hC 0 0 0 2 (by rw [n0]; decide) (by rw [n0]; decide) (by decide)))]; exact he02
    have he_7 : f_3 (ad 0 3) = .inl ((cs 2), 100, .inr (.inr (.inr (.inr (fun i => if i < nt then some (ad 4 i) else none))))) := by rw [ef_3, va_up_ne _ _ (Ne.symm (CP.ne hC 0 0 0 3 (by rw [n0]; decide) (by rw [n0]; decide) (by decide)))]; exact he03
    have he_8 : f_3 (ad 0 4) = .inl ((cs 3), 10, .inr (.inr (.inr (.inr (fun c => if AN 18 c = 0 then none else some (ad 6 (rx c (AN 18 c - 1)))))))) := by rw [ef_3, va_up_ne _ _ (Ne.symm (CP.ne hC 0 0 0 4 (by rw [n0]; decide) (by rw [n0]; decide) (by decide)))]; exact he04
    have he_9 : f_3 (ad 0 5) = .inr (6, [.ref (ad 0 6), .int (nI nb), .long (m_tot AI nb)]) := by rw [ef_3, va_up_ne _ _ (Ne.symm (CP.ne hC 0 0 0 5 (by rw [n0]; decide) (by rw [n0]; decide) (by decide)))]; exact he05
    have he_10 : f_3 (ad 0 6) = .inl ((cs 4), 20, .inr (.inr (.inr (.inr (fun r => if r < nb then some (ad 1 (AN 22 r)) else none))))) := by rw [ef_3, va_up_ne _ _ (Ne.symm (CP.ne hC 0 0 0 6 (by rw [n0]; decide) (by rw [n0]; decide) (by decide)))]; exact he06
    have hP : va_P (dC, dI) classes (va_pl L f_3) H := by rw [ef_3]; exact hP
    have hD : va_D A (va_pl L f_3) := by rw [ef_3]; exact hD
    refine lv_iconst (v := 1) hx hb d_FB_band_20 (by decide) ?_
    have hcall : m_band (th, yr, nf, no, nt, bd, nb, fl, AI, AN, AB, AL) b0 = (1, (0, yr, nf, no, nt, b0, nb, fl, AI, AN, AB, AL)) := (by simp [m_band, ixn, bI, c_2] <;> (repeat' apply And.intro) <;> rfl)
    have hcs : CS cs (ad 0 0) (0, yr, nf, no, nt, b0, nb, fl, AI, AN, AB, AL) L f_3 := ⟨n, ad, _, bl, rx, rfl, (by rw [ef_3]; exact hC.put 0 0 _ (by rw [n0]; decide) rfl), SR_band hR b0, hM, hB, hZ⟩
    exact W.iret (v := 1) hx hb hr (fun t ht hW => ⟨⟨_, (L, f_3), rfl, by rw [hcall]; exact ⟨rfl, hcs⟩, by rw [ht]; exact hP, va_K.moved hW.alike hK, hD⟩, hS.F ht⟩) hS.2.2 d_FB_band_21
  · refine lv_bipush (v := (-2)) hx hb d_FB_band_12 (by decide) ?_
    have hcall : m_band (th, yr, nf, no, nt, bd, nb, fl, AI, AN, AB, AL) b0 = ((-2), (0, yr, nf, no, nt, bd, nb, fl, AI, AN, AB, AL)) := (by simp [m_band, ixn, bI, c_2] <;> (repeat' apply And.intro) <;> rfl)
    have hcs : CS cs (ad 0 0) (0, yr, nf, no, nt, bd, nb, fl, AI, AN, AB, AL) L f := ⟨n, ad, e0, bl, rx, rfl, hC, hR, hM, hB, hZ⟩
    exact W.iret (v := (-2)) hx hb hr (fun t ht hW => ⟨⟨_, (L, f), rfl, by rw [hcall]; exact ⟨rfl, hcs⟩, by rw [ht]; exact hP, va_K.moved hW.alike hK, hD⟩, hS.F ht⟩) hS.2.2 d_FB_band_14

theorem enc_bound {nf no nt nb : Nat} {AI : Nat → Nat → Int32} {AN : Nat → Nat → Nat} (hno : no ≤ 300) (hce : ∀ i, i < no → 1 ≤ (AI 5 i).toInt ∧ (AI 5 i).toInt ≤ 1000000000) (x : Int32) : ∀ k, k ≤ no → 0 ≤ (m_enc AI AN k x).toInt ∧ (m_enc AI AN k x).toInt ≤ 1000000000 * k := by
  intro k
  induction k with
  | zero => intro _; exact ⟨by simp [m_enc, sumL], by simp [m_enc, sumL]⟩
  | succ k ih =>
    intro hk
    obtain ⟨h1, h2⟩ := ih (by omega)
    obtain ⟨h3, h4⟩ := hce k (by omega)
    have es : m_enc AI AN (k + 1) x = m_enc AI AN k x + (if nI (AN 4 k) = x ∧ AI 7 k = 1 then (AI 5 k).toInt64 else 0) := rfl
    have ea : ∀ y : Int64, 0 ≤ y.toInt → y.toInt ≤ 1000000000 → (m_enc AI AN k x + y).toInt = (m_enc AI AN k x).toInt + y.toInt := by
      intro y g1 g2
      rw [Int64.toInt_add]
      apply Int.bmod_eq_of_le <;> omega
    rw [es]
    split
    · rw [ea _ (by rw [Int32.toInt_toInt64]; omega) (by rw [Int32.toInt_toInt64]; omega), Int32.toInt_toInt64]
      omega
    · rw [ea 0 (by decide) (by decide)]
      have h0 : (0 : Int64).toInt = 0 := rfl
      omega
theorem bnd_of {v : Int64} (h1 : -1000000000000000 ≤ v.toInt) (h2 : v.toInt ≤ 1000000000000000) : bnd v = true := by
  have e1 : (-1000000000000000 : Int64).toInt = -1000000000000000 := by decide
  have e2 : (1000000000000000 : Int64).toInt = 1000000000000000 := by decide
  simp only [bnd, iw, Bool.and_eq_true, Bool.not_eq_true', decide_eq_false_iff_not, Int64.lt_iff_toInt_lt, e1, e2]
  omega
/-- the class's and the reference's room: the same, since what is encumbered is always small -/
theorem fits_eq {AI : Nat → Nat → Int32} {AN : Nat → Nat → Nat} {AL : Nat → Nat → Int64} {no j : Nat} {mg ms le me : Int64} (he : bnd (m_enc AI AN no (nI j) + me) = true) (hl : me = -le) : (bnd (AL 2 j + mg) && bnd (m_enc AI AN no (nI j) + me) && bnd (AL 3 j + ms) && bnd (AL 2 j - m_enc AI AN no (nI j) - AL 3 j + mg - me - ms)) = m_fits AI AN AL no j mg ms le := by
  rw [he, hl, Bool.and_true]
  unfold m_fits
  rw [show AL 2 j - m_enc AI AN no (nI j) - AL 3 j + mg - -le - ms = AL 2 j + mg - (m_enc AI AN no (nI j) - le) - (AL 3 j + ms) by grind]
theorem enc_bnd {nf no nt nb : Nat} {AI : Nat → Nat → Int32} {AN : Nat → Nat → Nat} (hM : InvM nf no nt nb AI AN) (x : Int32) : bnd (m_enc AI AN no x + 0) = true := by
  obtain ⟨hnf, hno, hnt, hnb, hfu, hft, hbf, hrw, hce, hdn⟩ := hM
  obtain ⟨h1, h2⟩ := enc_bound (nf := nf) (nt := nt) (nb := nb) (AN := AN) hno hce x no (Nat.le_refl no)
  rw [show m_enc AI AN no x + 0 = m_enc AI AN no x by grind]
  exact bnd_of (by omega) (by omega)

theorem d_FB_give_0 : decode b_FB_give 0 = .ok (.aload_n 0, 1) := by decide +kernel
theorem d_FB_give_1 : decode b_FB_give 1 = .ok (.iload_n 1, 1) := by decide +kernel
theorem d_FB_give_2 : decode b_FB_give 2 = .ok (.invokevirtual 71, 3) := by decide +kernel
theorem d_FB_give_5 : decode b_FB_give 5 = .ok (.astore 4, 2) := by decide +kernel
theorem d_FB_give_7 : decode b_FB_give 7 = .ok (.aload 4, 2) := by decide +kernel
theorem d_FB_give_9 : decode b_FB_give 9 = .ok (.ifnonnull 5, 3) := by decide +kernel
theorem d_FB_give_12 : decode b_FB_give 12 = .ok (.iconst (-1), 1) := by decide +kernel
theorem d_FB_give_13 : decode b_FB_give 13 = .ok (.ireturn, 1) := by decide +kernel
theorem d_FB_give_14 : decode b_FB_give 14 = .ok (.lload_n 2, 1) := by decide +kernel
theorem d_FB_give_15 : decode b_FB_give 15 = .ok (.lconst 1, 1) := by decide +kernel
theorem d_FB_give_16 : decode b_FB_give 16 = .ok (.ldc2_w 75, 3) := by decide +kernel
theorem d_FB_give_19 : decode b_FB_give 19 = .ok (.invokestatic 61, 3) := by decide +kernel
theorem d_FB_give_22 : decode b_FB_give 22 = .ok (.ifCond .ne 6, 3) := by decide +kernel
theorem d_FB_give_25 : decode b_FB_give 25 = .ok (.bipush (-2), 2) := by decide +kernel
theorem d_FB_give_27 : decode b_FB_give 27 = .ok (.ireturn, 1) := by decide +kernel
theorem d_FB_give_28 : decode b_FB_give 28 = .ok (.aload 4, 2) := by decide +kernel
theorem d_FB_give_30 : decode b_FB_give 30 = .ok (.lload_n 2, 1) := by decide +kernel
theorem d_FB_give_31 : decode b_FB_give 31 = .ok (.lconst 0, 1) := by decide +kernel
theorem d_FB_give_32 : decode b_FB_give 32 = .ok (.lconst 0, 1) := by decide +kernel
theorem d_FB_give_33 : decode b_FB_give 33 = .ok (.invokevirtual 77, 3) := by decide +kernel
theorem d_FB_give_36 : decode b_FB_give 36 = .ok (.ifCond .ne 6, 3) := by decide +kernel
theorem d_FB_give_39 : decode b_FB_give 39 = .ok (.bipush (-4), 2) := by decide +kernel
theorem d_FB_give_41 : decode b_FB_give 41 = .ok (.ireturn, 1) := by decide +kernel
theorem d_FB_give_42 : decode b_FB_give 42 = .ok (.aload 4, 2) := by decide +kernel
theorem d_FB_give_44 : decode b_FB_give 44 = .ok (.dup, 1) := by decide +kernel
theorem d_FB_give_45 : decode b_FB_give 45 = .ok (.getfield 80, 3) := by decide +kernel
theorem d_FB_give_48 : decode b_FB_give 48 = .ok (.lload_n 2, 1) := by decide +kernel
theorem d_FB_give_49 : decode b_FB_give 49 = .ok (.ladd, 1) := by decide +kernel
theorem d_FB_give_50 : decode b_FB_give 50 = .ok (.putfield 80, 3) := by decide +kernel
theorem d_FB_give_53 : decode b_FB_give 53 = .ok (.iconst 1, 1) := by decide +kernel
theorem d_FB_give_54 : decode b_FB_give 54 = .ok (.ireturn, 1) := by decide +kernel
set_option maxHeartbeats 4000000 in
set_option maxRecDepth 100000 in
theorem c_FB_give (l : Launch) (dC : Nat → ClassId) (dI : Nat → Nat → Nat) (cs : Nat → ClassId) (o : Nat) (th yr : Int32) (nf no nt : Nat) (bd : Int32) (nb : Nat) (fl : Int32) (AI : Nat → Nat → Int32) (AN : Nat → Nat → Nat) (AB : Nat → Nat → Bool) (AL : Nat → Nat → Int64) (L : List Nat) (f : Nat → va_E) (sz : Nat) (fd : Int32) (mr : Int64) (hCS : CS cs o (th, yr, nf, no, nt, bd, nb, fl, AI, AN, AB, AL) L f) : Met l y_FB_give w_FB_give { frames := 3, cells := 0, slots := 0, locals := 72 } (mu_P (dC, dI) classes (ctys cs) (va_pl L f) sz [.ref o, .int fd, .long mr]) (va_Qi (fun r u => r = (m_give (th, yr, nf, no, nt, bd, nb, fl, AI, AN, AB, AL) fd mr).1 ∧ CS cs o (m_give (th, yr, nf, no, nt, bd, nb, fl, AI, AN, AB, AL) fd mr).2 u.1 u.2) (mu_B (dC, dI) classes (ctys cs) (va_A (va_pl L f) sz) fw_w) (va_A (va_pl L f) sz)) 0 0 (va_A (va_pl L f) sz) := by
  obtain ⟨n, ad, e0, bl, rx, rfl, hC, hR, hM, hB, hZ⟩ := hCS
  obtain ⟨⟨n0, n1, n2, n3, n4, n5⟩, e00, e01, e02, e03, e04, e05, e06, e1, e2, e3, e4, e5, e6⟩ := id hR
  obtain ⟨hnf, hno, hnt, hnb, hfu, hft, hbf, hrw, hce, hdn⟩ := id hM
  have hm00 : ad 0 0 ∈ L := (hC.1 0 0 (by rw [n0]; decide)).1
  have he00 : f (ad 0 0) = .inr (0, [.ref (ad 0 1), .ref (ad 0 2), .ref (ad 0 3), .ref (ad 0 4), .ref (ad 0 5), .int (nI nf), .int (nI no), .int (nI nt), .int yr, .int bd, .int fl]) := (hC.1 0 0 (by rw [n0]; decide)).2.trans e00
  have hm01 : ad 0 1 ∈ L := (hC.1 0 1 (by rw [n0]; decide)).1
  have he01 : f (ad 0 1) = .inl ((cs 0), 30, .inr (.inr (.inr (.inr (fun i => if i < nf then some (ad 1 i) else none))))) := (hC.1 0 1 (by rw [n0]; decide)).2.trans e01
  have hm02 : ad 0 2 ∈ L := (hC.1 0 2 (by rw [n0]; decide)).1
  have he02 : f (ad 0 2) = .inl ((cs 1), 300, .inr (.inr (.inr (.inr (fun i => if i < no then some (ad 2 i) else none))))) := (hC.1 0 2 (by rw [n0]; decide)).2.trans e02
  have hm03 : ad 0 3 ∈ L := (hC.1 0 3 (by rw [n0]; decide)).1
  have he03 : f (ad 0 3) = .inl ((cs 2), 100, .inr (.inr (.inr (.inr (fun i => if i < nt then some (ad 4 i) else none))))) := (hC.1 0 3 (by rw [n0]; decide)).2.trans e03
  have hm04 : ad 0 4 ∈ L := (hC.1 0 4 (by rw [n0]; decide)).1
  have he04 : f (ad 0 4) = .inl ((cs 3), 10, .inr (.inr (.inr (.inr (fun c => if AN 18 c = 0 then none else some (ad 6 (rx c (AN 18 c - 1)))))))) := (hC.1 0 4 (by rw [n0]; decide)).2.trans e04
  have hm05 : ad 0 5 ∈ L := (hC.1 0 5 (by rw [n0]; decide)).1
  have he05 : f (ad 0 5) = .inr (6, [.ref (ad 0 6), .int (nI nb), .long (m_tot AI nb)]) := (hC.1 0 5 (by rw [n0]; decide)).2.trans e05
  have hm06 : ad 0 6 ∈ L := (hC.1 0 6 (by rw [n0]; decide)).1
  have he06 : f (ad 0 6) = .inl ((cs 4), 20, .inr (.inr (.inr (.inr (fun r => if r < nb then some (ad 1 (AN 22 r)) else none))))) := (hC.1 0 6 (by rw [n0]; decide)).2.trans e06
  refine Met.ofW (cc := b_FB_give) (maxL := 5) (ret := (some .int)) (by decide) rfl ?_
  intro p e s m args below meth c s₁ B hml hv
  obtain ⟨rfl, hsz, hP, hK, hD0, hN⟩ := hv
  have hx := B.exec
  have hb := B.bytes
  have hr := B.returns
  have hts := atoms_spec (ws := w_FB_give) B.pre
  have hG := fun (w : Cond) (h : w ∈ wG) => hts w (List.mem_cons_of_mem _ h)
  have hown : s.vm.findClass R_FB = some m.cls := findClass_of_methodNamed B.named
  have hlocks := B.notSynchronized
  subst hsz
  have hD := hD0.self (sz := s.heap.size)
  generalize hAe : va_A (va_pl L f) s.heap.size = A at hD ⊢
  have hA : ∀ q : Nat, s.heap.size ≤ q → A q := fun q h => by rw [← hAe]; exact Or.inr h
  have hS : va_S A s.heap s.heap [] := va_S.rf
  have hP : va_P (dC, dI) classes (va_pl L f) s.heap := hP
  have hl := lv_entry ([.ref (ad 0 0), .int fd, .long mr]) (n := 5) (Nat.le_of_ble_eq_true rfl)
  rw [lg_entry_eq]
  generalize (lg_sl ([.ref (ad 0 0), .int fd, .long mr]) ++ List.replicate (5 - (lg_sl ([.ref (ad 0 0), .int fd, .long mr])).length) Slot.unset).toArray = ls at hl ⊢
  have hl : lv_has ls 5 [(0, .ref (ad 0 0)), (1, .int fd), (2, .long mr)] := hl
  refine lv_aload_n hx hb d_FB_give_0 rfl (lv_at hl 0 rfl) ?_
  refine lv_iload_n hx hb d_FB_give_1 rfl (lv_at hl 1 rfl) ?_
  refine rd_callq (va_runV (As := [.int fd]) (rest := []) ⟨hx, hb, hml, hown, hts⟩ (c_FB_accountAt l dC dI (ctys cs) L f (ad 0 0) (ad 0 1) (nI nf) (nI no) (nI nt) yr bd fl (ad 0 2) (ad 0 3) (ad 0 4) (ad 0 5) (cs 0) (fun i => if i < nf then some (ad 1 i) else none) fd hm00 he00 hm01 he01 rfl) (cwV 1 hts (gd_V k_145 k_147 k_0 k_14 k_148) rfl rfl rfl (by decide +kernel) ⟨Nat.le_of_ble_eq_true rfl, Nat.le_of_ble_eq_true rfl⟩) (fw_preV hK hN hP rfl hm00 he00) rfl rfl hl.1 rfl (lv_room (Nat.le_of_ble_eq_true rfl)) d_FB_give_2 ⟨Nat.zero_le _, Nat.zero_le _⟩) (fun r_1 hr_1 => ?_)
  rcases at_cases hnf (by decide) hr_1 with ⟨hq_fd, rfl⟩ | ⟨j, hj, rfl, rfl⟩
  · refine W.eq (g2 := F0 m 5 ls [.null]) rfl ?_
    refine lv_astoreN (lv' := [(4, .null), (0, .ref (ad 0 0)), (1, .int fd), (2, .long mr)]) hx hb d_FB_give_5 hl (by decide) rfl (fun ls hl => ?_)
    refine lv_aloadN hx hb d_FB_give_7 (lv_at hl 0 rfl) ?_
    refine lv_ifnonnullN hx hb d_FB_give_9 ?_
    refine lv_iconst (v := (-1)) hx hb d_FB_give_12 (by decide) ?_
    have hcall : m_give (th, yr, nf, no, nt, bd, nb, fl, AI, AN, AB, AL) fd mr = ((-1), (0, yr, nf, no, nt, bd, nb, fl, AI, AN, AB, AL)) := (by simp [m_give, ixn, bI, hq_fd] <;> (repeat' apply And.intro) <;> rfl)
    have hcs : CS cs (ad 0 0) (0, yr, nf, no, nt, bd, nb, fl, AI, AN, AB, AL) L f := ⟨n, ad, e0, bl, rx, rfl, hC, hR, hM, hB, hZ⟩
    exact W.iret (v := (-1)) hx hb hr (fun t ht hW => ⟨⟨_, (L, f), rfl, by rw [hcall]; exact ⟨rfl, hcs⟩, by rw [ht]; exact hP, va_K.moved hW.alike hK, hD⟩, hS.F ht⟩) hS.2.2 d_FB_give_13
  · have ej : (nI j).toNatClampNeg = j := nI_clamp (by omega)
    have hi_j : inN (nI j) nf = true := inN_yes (by omega) hj
    refine W.eq (g2 := F0 m 5 ls [.ref (ad 1 j)]) rfl ?_
    have hm_y_2 : ad 1 j ∈ L := (hC.1 1 j (by rw [n1]; exact hj)).1
    have he_y_2 : f (ad 1 j) = .inr (1, [.int (nI j), .int (AI 1 j), .long (AL 2 j), .long (m_enc AI AN no (nI j)), .long (AL 3 j), .long (m_bat AI AN nb (nI j))]) := (hC.1 1 j (by rw [n1]; exact hj)).2.trans (e1 j hj)
    refine lv_astore (lv' := [(4, .ref (ad 1 j)), (0, .ref (ad 0 0)), (1, .int (nI j)), (2, .long mr)]) hx hb d_FB_give_5 hl (by decide) rfl (fun ls hl => ?_)
    refine lv_aload hx hb d_FB_give_7 (lv_at hl 0 rfl) ?_
    refine lv_ifnonnull (tgt := 14) hx hb d_FB_give_9 (by decide) ?_
    refine lv_lload_n hx hb d_FB_give_14 rfl (lv_at hl 3 rfl) ?_
    refine lv_lconst (v := 1) hx hb d_FB_give_15 (by decide) ?_
    refine lv_ldc2 (own := R_FB) (v := 1000000000000) hx hb hown (hG _ k_149) d_FB_give_16 ?_
    refine rd_calli (va_runS (As := [.long mr, .long 1, .long 1000000000000]) (rest := []) ⟨hx, hb, hml, hown, hts⟩ (c_FB_isWithin l dC dI (ctys cs) (va_pl L f) mr 1 1000000000000) (cwS 3 hts (gd_S k_106 k_107 k_14 k_108) rfl rfl rfl (by decide +kernel) ⟨Nat.le_of_ble_eq_true rfl, Nat.le_of_ble_eq_true rfl⟩) (rd_preS hK hN hP) rfl rfl hl.1 rfl (lv_room (Nat.le_of_ble_eq_true rfl)) d_FB_give_19 ⟨Nat.zero_le _, Nat.zero_le _⟩) (fun r_3 hr_3 => ?_)
    subst hr_3
    refine lb_if_ne (tgt := 28) hx hb d_FB_give_22 (by decide) (fun c_4 => ?_) (fun c_4 => ?_)
    · refine lv_aload hx hb d_FB_give_28 (lv_at hl 0 rfl) ?_
      refine lv_lload_n hx hb d_FB_give_30 rfl (lv_at hl 3 rfl) ?_
      refine lv_lconst (v := 0) hx hb d_FB_give_31 (by decide) ?_
      refine lv_lconst (v := 0) hx hb d_FB_give_32 (by decide) ?_
      refine rd_calli (va_runV (As := [.long mr, .long 0, .long 0]) (rest := []) ⟨hx, hb, hml, hown, hts⟩ (c_Ac_hasRoomFor l dC dI (ctys cs) L f (ad 1 j) (nI j) (AI 1 j) (AL 2 j) (m_enc AI AN no (nI j)) (AL 3 j) (m_bat AI AN nb (nI j)) mr 0 0 hm_y_2 he_y_2) (cwV 3 hts (gd_V k_150 k_151 k_152 k_18 k_153) rfl rfl rfl (by decide +kernel) ⟨Nat.le_of_ble_eq_true rfl, Nat.le_of_ble_eq_true rfl⟩) (fw_preV hK hN hP rfl hm_y_2 he_y_2) rfl rfl hl.1 rfl (lv_room (Nat.le_of_ble_eq_true rfl)) d_FB_give_33 ⟨Nat.zero_le _, Nat.zero_le _⟩) (fun r_5 hr_5 => ?_)
      subst hr_5
      refine lb_if_ne (tgt := 42) hx hb d_FB_give_36 (by decide) (fun c_6 => ?_) (fun c_6 => ?_)
      · rw [fits_eq (enc_bnd hM (nI j)) (by decide : (0 : Int64) = -0)] at c_6
        refine lv_aload hx hb d_FB_give_42 (lv_at hl 0 rfl) ?_
        refine lv_dup hx hb d_FB_give_44 rfl ?_
        refine fw_getN (D := (dC, dI)) (ci := 1) (v := .long (AL 2 j)) (C := R_Ac) (T := F_Ac) (N := 6) hx hb hG iG_Ac hown hK hP hm_y_2 he_y_2 rfl 2 (by decide) (hN.use k_118) (fun _ h9 => h9) rfl d_FB_give_45 ?_
        refine lv_lload_n hx hb d_FB_give_48 rfl (lv_at hl 3 rfl) ?_
        refine lv_ladd hx hb d_FB_give_49 ?_
        refine fw_putN (D := (dC, dI)) (ci := 1) (v := .long (AL 2 j + mr)) (ty := .long) (C := R_Ac) (T := F_Ac) (N := 6) hx hb hG iG_Ac t_Ac t_Ac_ok n_Ac hown hK hP hD hS hm_y_2 he_y_2 rfl 2 (by decide) (hN.use k_118) (fun _ h9 => h9) rfl (by decide +kernel) rfl rfl (Nat.le_of_ble_eq_true rfl) d_FB_give_50 (fun H locs hP hD hS => ?_)
        obtain ⟨f_7, ef_7⟩ : ∃ z, z = va_up f (ad 1 j) (.inr (1, [.int (nI j), .int (AI 1 j), .long (AL 2 j + mr), .long (m_enc AI AN no (nI j)), .long (AL 3 j), .long (m_bat AI AN nb (nI j))])) := ⟨_, rfl⟩
        have he_8 : f_7 (ad 0 0) = .inr (0, [.ref (ad 0 1), .ref (ad 0 2), .ref (ad 0 3), .ref (ad 0 4), .ref (ad 0 5), .int (nI nf), .int (nI no), .int (nI nt), .int yr, .int bd, .int fl]) := by rw [ef_7, va_up_ne _ _ (fw_ne he00 he_y_2 (show (1 : Nat) ≠ 2 by decide))]; exact he00
        have he_9 : f_7 (ad 0 1) = .inl ((cs 0), 30, .inr (.inr (.inr (.inr (fun i => if i < nf then some (ad 1 i) else none))))) := by rw [ef_7, va_up_ne _ _ (fw_ne he01 he_y_2 (show (0 : Nat) ≠ 2 by decide))]; exact he01
        have he_10 : f_7 (ad 0 2) = .inl ((cs 1), 300, .inr (.inr (.inr (.inr (fun i => if i < no then some (ad 2 i) else none))))) := by rw [ef_7, va_up_ne _ _ (fw_ne he02 he_y_2 (show (0 : Nat) ≠ 2 by decide))]; exact he02
        have he_11 : f_7 (ad 0 3) = .inl ((cs 2), 100, .inr (.inr (.inr (.inr (fun i => if i < nt then some (ad 4 i) else none))))) := by rw [ef_7, va_up_ne _ _ (fw_ne he03 he_y_2 (show (0 : Nat) ≠ 2 by decide))]; exact he03
        have he_12 : f_7 (ad 0 4) = .inl ((cs 3), 10, .inr (.inr (.inr (.inr (fun c => if AN 18 c = 0 then none else some (ad 6 (rx c (AN 18 c - 1)))))))) := by rw [ef_7, va_up_ne _ _ (fw_ne he04 he_y_2 (show (0 : Nat) ≠ 2 by decide))]; exact he04
        have he_13 : f_7 (ad 0 5) = .inr (6, [.ref (ad 0 6), .int (nI nb), .long (m_tot AI nb)]) := by rw [ef_7, va_up_ne _ _ (fw_ne he05 he_y_2 (show (7 : Nat) ≠ 2 by decide))]; exact he05
        have he_14 : f_7 (ad 0 6) = .inl ((cs 4), 20, .inr (.inr (.inr (.inr (fun r => if r < nb then some (ad 1 (AN 22 r)) else none))))) := by rw [ef_7, va_up_ne _ _ (fw_ne he06 he_y_2 (show (0 : Nat) ≠ 2 by decide))]; exact he06
        have he_15 : f_7 (ad 1 j) = .inr (1, [.int (nI j), .int (AI 1 j), .long (AL 2 j + mr), .long (m_enc AI AN no (nI j)), .long (AL 3 j), .long (m_bat AI AN nb (nI j))]) := by rw [ef_7]; exact va_up_self _ _ _
        have hP : va_P (dC, dI) classes (va_pl L f_7) H := by rw [ef_7]; exact hP
        have hD : va_D A (va_pl L f_7) := by rw [ef_7]; exact hD
        refine lv_iconst (v := 1) hx hb d_FB_give_53 (by decide) ?_
        have hcall : m_give (th, yr, nf, no, nt, bd, nb, fl, AI, AN, AB, AL) (nI j) mr = (1, (0, yr, nf, no, nt, bd, nb, fl, AI, AN, AB, u2 AL 2 j (AL 2 j + mr))) := (by simp [m_give, ixn, bI, ej, hi_j, c_4, c_6] <;> (repeat' apply And.intro) <;> rfl)
        have hcs : CS cs (ad 0 0) (0, yr, nf, no, nt, bd, nb, fl, AI, AN, AB, u2 AL 2 j (AL 2 j + mr)) L f_7 := ⟨n, ad, _, bl, rx, rfl, (by rw [ef_7]; exact hC.put 1 j _ (by rw [n1]; exact hj) rfl), SR_give hR j hj _, hM, hB, InvS_give hZ hj _⟩
        exact W.iret (v := 1) hx hb hr (fun t ht hW => ⟨⟨_, (L, f_7), rfl, by rw [hcall]; exact ⟨rfl, hcs⟩, by rw [ht]; exact hP, va_K.moved hW.alike hK, hD⟩, hS.F ht⟩) hS.2.2 d_FB_give_54
      · rw [fits_eq (enc_bnd hM (nI j)) (by decide : (0 : Int64) = -0)] at c_6
        refine lv_bipush (v := (-4)) hx hb d_FB_give_39 (by decide) ?_
        have hcall : m_give (th, yr, nf, no, nt, bd, nb, fl, AI, AN, AB, AL) (nI j) mr = ((-4), (0, yr, nf, no, nt, bd, nb, fl, AI, AN, AB, AL)) := (by simp [m_give, ixn, bI, ej, hi_j, c_4, c_6] <;> (repeat' apply And.intro) <;> rfl)
        have hcs : CS cs (ad 0 0) (0, yr, nf, no, nt, bd, nb, fl, AI, AN, AB, AL) L f := ⟨n, ad, e0, bl, rx, rfl, hC, hR, hM, hB, hZ⟩
        exact W.iret (v := (-4)) hx hb hr (fun t ht hW => ⟨⟨_, (L, f), rfl, by rw [hcall]; exact ⟨rfl, hcs⟩, by rw [ht]; exact hP, va_K.moved hW.alike hK, hD⟩, hS.F ht⟩) hS.2.2 d_FB_give_41
    · refine lv_bipush (v := (-2)) hx hb d_FB_give_25 (by decide) ?_
      have hcall : m_give (th, yr, nf, no, nt, bd, nb, fl, AI, AN, AB, AL) (nI j) mr = ((-2), (0, yr, nf, no, nt, bd, nb, fl, AI, AN, AB, AL)) := (by simp [m_give, ixn, bI, ej, hi_j, c_4] <;> (repeat' apply And.intro) <;> rfl)
      have hcs : CS cs (ad 0 0) (0, yr, nf, no, nt, bd, nb, fl, AI, AN, AB, AL) L f := ⟨n, ad, e0, bl, rx, rfl, hC, hR, hM, hB, hZ⟩
      exact W.iret (v := (-2)) hx hb hr (fun t ht hW => ⟨⟨_, (L, f), rfl, by rw [hcall]; exact ⟨rfl, hcs⟩, by rw [ht]; exact hP, va_K.moved hW.alike hK, hD⟩, hS.F ht⟩) hS.2.2 d_FB_give_27
