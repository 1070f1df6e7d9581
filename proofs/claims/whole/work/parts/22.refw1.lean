theorem in99 {x : Int32} (h : iw x.toInt64 0 99 = true) : ∃ w, w < 100 ∧ x = nI w := inN_of (n := 100) (by decide) (by
  have e : (nI 100 - 1).toInt64 = 99 := by decide
  unfold inN
  rw [e]
  exact h)
theorem in9 {x : Int32} (h : iw x.toInt64 0 9 = true) : ∃ w, w < 10 ∧ x = nI w := inN_of (n := 10) (by decide) (by
  have e : (nI 10 - 1).toInt64 = 9 := by decide
  unfold inN
  rw [e]
  exact h)
theorem nI_30 {n : Nat} (h : n ≤ 30) : nI n = 30 ↔ n = 30 := nI_eq (by omega) (by decide)
theorem nI_300 {n : Nat} (h : n ≤ 300) : nI n = 300 ↔ n = 300 := nI_eq (by omega) (by decide)
theorem nI_100 {n : Nat} (h : n ≤ 100) : nI n = 100 ↔ n = 100 := nI_eq (by omega) (by decide)
theorem nI_20 {n : Nat} (h : n ≤ 20) : nI n = 20 ↔ n = 20 := nI_eq (by omega) (by decide)
theorem nI_10 {n : Nat} (h : n ≤ 10) : nI n = 10 ↔ n = 10 := nI_eq (by omega) (by decide)

theorem d_Mo_fund_0 : decode b_Mo_fund 0 = .ok (.aload_n 0, 1) := by decide +kernel
theorem d_Mo_fund_1 : decode b_Mo_fund 1 = .ok (.iconst 0, 1) := by decide +kernel
theorem d_Mo_fund_2 : decode b_Mo_fund 2 = .ok (.putfield 91, 3) := by decide +kernel
theorem d_Mo_fund_5 : decode b_Mo_fund 5 = .ok (.iload_n 1, 1) := by decide +kernel
theorem d_Mo_fund_6 : decode b_Mo_fund 6 = .ok (.i2l, 1) := by decide +kernel
theorem d_Mo_fund_7 : decode b_Mo_fund 7 = .ok (.lconst 0, 1) := by decide +kernel
theorem d_Mo_fund_8 : decode b_Mo_fund 8 = .ok (.ldc2_w 116, 3) := by decide +kernel
theorem d_Mo_fund_11 : decode b_Mo_fund 11 = .ok (.invokestatic 97, 3) := by decide +kernel
theorem d_Mo_fund_14 : decode b_Mo_fund 14 = .ok (.ifCond .ne 6, 3) := by decide +kernel
theorem d_Mo_fund_17 : decode b_Mo_fund 17 = .ok (.bipush (-2), 2) := by decide +kernel
theorem d_Mo_fund_19 : decode b_Mo_fund 19 = .ok (.ireturn, 1) := by decide +kernel
theorem d_Mo_fund_20 : decode b_Mo_fund 20 = .ok (.aload_n 0, 1) := by decide +kernel
theorem d_Mo_fund_21 : decode b_Mo_fund 21 = .ok (.getfield 94, 3) := by decide +kernel
theorem d_Mo_fund_24 : decode b_Mo_fund 24 = .ok (.bipush 30, 2) := by decide +kernel
theorem d_Mo_fund_26 : decode b_Mo_fund 26 = .ok (.if_icmp .ne 6, 3) := by decide +kernel
theorem d_Mo_fund_29 : decode b_Mo_fund 29 = .ok (.bipush (-4), 2) := by decide +kernel
theorem d_Mo_fund_31 : decode b_Mo_fund 31 = .ok (.ireturn, 1) := by decide +kernel
theorem d_Mo_fund_32 : decode b_Mo_fund 32 = .ok (.aload_n 0, 1) := by decide +kernel
theorem d_Mo_fund_33 : decode b_Mo_fund 33 = .ok (.getfield 7, 3) := by decide +kernel
theorem d_Mo_fund_36 : decode b_Mo_fund 36 = .ok (.aload_n 0, 1) := by decide +kernel
theorem d_Mo_fund_37 : decode b_Mo_fund 37 = .ok (.getfield 94, 3) := by decide +kernel
theorem d_Mo_fund_40 : decode b_Mo_fund 40 = .ok (.iload_n 1, 1) := by decide +kernel
theorem d_Mo_fund_41 : decode b_Mo_fund 41 = .ok (.iastore, 1) := by decide +kernel
theorem d_Mo_fund_42 : decode b_Mo_fund 42 = .ok (.aload_n 0, 1) := by decide +kernel
theorem d_Mo_fund_43 : decode b_Mo_fund 43 = .ok (.dup, 1) := by decide +kernel
theorem d_Mo_fund_44 : decode b_Mo_fund 44 = .ok (.getfield 94, 3) := by decide +kernel
theorem d_Mo_fund_47 : decode b_Mo_fund 47 = .ok (.iconst 1, 1) := by decide +kernel
theorem d_Mo_fund_48 : decode b_Mo_fund 48 = .ok (.iadd, 1) := by decide +kernel
theorem d_Mo_fund_49 : decode b_Mo_fund 49 = .ok (.putfield 94, 3) := by decide +kernel
theorem d_Mo_fund_52 : decode b_Mo_fund 52 = .ok (.aload_n 0, 1) := by decide +kernel
theorem d_Mo_fund_53 : decode b_Mo_fund 53 = .ok (.getfield 94, 3) := by decide +kernel
theorem d_Mo_fund_56 : decode b_Mo_fund 56 = .ok (.iconst 1, 1) := by decide +kernel
theorem d_Mo_fund_57 : decode b_Mo_fund 57 = .ok (.isub, 1) := by decide +kernel
theorem d_Mo_fund_58 : decode b_Mo_fund 58 = .ok (.ireturn, 1) := by decide +kernel
set_option maxHeartbeats 4000000 in
set_option maxRecDepth 100000 in
theorem c_Mo_fund (l : Launch) (dC : Nat → ClassId) (dI : Nat → Nat → Nat) (ad : Nat → Nat) (cA : Nat → ClassId) (th yr : Int32) (nf no nt : Nat) (bd : Int32) (nb : Nat) (fl : Int32) (AI : Nat → Nat → Int32) (AN : Nat → Nat → Nat) (AB : Nat → Nat → Bool) (AL : Nat → Nat → Int64) (sz : Nat) (c0 : Int32) (hI : InvM nf no nt nb AI AN) : Met l y_Mo_fund w_Mo_fund { frames := 1, cells := 0, slots := 0, locals := 25 } (mu_P (dC, dI) classes (mtys cA) (mw ad cA th yr nf no nt bd nb fl AI AN AB AL) sz [.ref (ad 0), .int c0]) (va_Qi (fun r u => (r, u) = m_fund (th, yr, nf, no, nt, bd, nb, fl, AI, AN, AB, AL) c0) (mu_B (dC, dI) classes (mtys cA) (va_A (mw ad cA th yr nf no nt bd nb fl AI AN AB AL) sz) (mwS ad cA)) (va_A (mw ad cA th yr nf no nt bd nb fl AI AN AB AL) sz)) 0 0 (va_A (mw ad cA th yr nf no nt bd nb fl AI AN AB AL) sz) := by
  refine Met.ofW (cc := b_Mo_fund) (maxL := 2) (ret := (some .int)) (by decide) rfl ?_
  intro p e s m args below meth c s₁ B hml hv
  obtain ⟨rfl, hsz, hP, hK, hD0, hN⟩ := hv
  have hx := B.exec
  have hb := B.bytes
  have hr := B.returns
  have hts := atoms_spec (ws := w_Mo_fund) B.pre
  have hG := fun (w : Cond) (h : w ∈ wG) => hts w (List.mem_cons_of_mem _ h)
  have hown : s.vm.findClass R_Mo = some m.cls := findClass_of_methodNamed B.named
  have hlocks := B.notSynchronized
  subst hsz
  have hD := hD0.self (sz := s.heap.size)
  generalize hAe : va_A (mw ad cA th yr nf no nt bd nb fl AI AN AB AL) s.heap.size = A at hD ⊢
  have hA : ∀ q : Nat, s.heap.size ≤ q → A q := fun q h => by rw [← hAe]; exact Or.inr h
  have hS : va_S A s.heap s.heap [] := va_S.rf
  have hP : va_P (dC, dI) classes (mw ad cA th yr nf no nt bd nb fl AI AN AB AL) s.heap := hP
  have hl := lv_entry ([.ref (ad 0), .int c0]) (n := 2) (Nat.le_of_ble_eq_true rfl)
  rw [lg_entry_eq]
  generalize (lg_sl ([.ref (ad 0), .int c0]) ++ List.replicate (2 - (lg_sl ([.ref (ad 0), .int c0])).length) Slot.unset).toArray = ls at hl ⊢
  have hl : lv_has ls 2 [(0, .ref (ad 0)), (1, .int c0)] := hl
  obtain ⟨hnf, hno, hnt, hnb, hfu, hft, hbf, hrw, hce, hdn⟩ := id hI
  refine lv_aload_n hx hb d_Mo_fund_0 rfl (lv_at hl 0 rfl) ?_
  refine lv_iconst (v := 0) hx hb d_Mo_fund_1 (by decide) ?_
  refine va_put (D := (dC, dI)) (ci := 7) (v := .int 0) (ty := .int) (C := R_Mo) (T := F_Mo) (N := 31) hx hb hG iG_Mo t_Mo t_Mo_ok n_Mo hown hK hP hD hS 0 rfl rfl 0 (by decide) (hG _ k_523) (fun _ h9 => h9) rfl (by decide +kernel) rfl rfl (Nat.le_of_ble_eq_true rfl) d_Mo_fund_2 (fun H locs hP hD hS => ?_)
  have hP : va_P (dC, dI) classes (mw ad cA 0 yr nf no nt bd nb fl AI AN AB AL) H := hP
  have hD : va_D A (mw ad cA 0 yr nf no nt bd nb fl AI AN AB AL) := hD
  refine lv_iload_n hx hb d_Mo_fund_5 rfl (lv_at hl 1 rfl) ?_
  refine lv_i2l hx hb d_Mo_fund_6 rfl ?_
  refine lv_lconst (v := 0) hx hb d_Mo_fund_7 (by decide) ?_
  refine lv_ldc2 (own := R_Mo) (v := 2) hx hb hown (hG _ k_628) d_Mo_fund_8 ?_
  refine rd_calli (va_runS (As := [.long (c0.toInt64), .long 0, .long 2]) (rest := []) ⟨hx, hb, hml, hown, hts⟩ (c_Mo_in l dC dI (mtys cA) (mw ad cA 0 yr nf no nt bd nb fl AI AN AB AL) (c0.toInt64) 0 2) (cwS 3 hts (gd_S k_629 k_630 k_17 k_631) rfl rfl rfl (by decide +kernel) ⟨Nat.le_of_ble_eq_true rfl, Nat.le_of_ble_eq_true rfl⟩) (rd_preS hK hN hP) rfl rfl hl.1 rfl (lv_room (Nat.le_of_ble_eq_true rfl)) d_Mo_fund_11 ⟨Nat.zero_le _, Nat.zero_le _⟩) (fun r_1 hr_1 => ?_)
  subst hr_1
  refine lb_if_ne (tgt := 20) hx hb d_Mo_fund_14 (by decide) (fun c_2 => ?_) (fun c_2 => ?_)
  · refine lv_aload_n hx hb d_Mo_fund_20 rfl (lv_at hl 0 rfl) ?_
    refine va_get (D := (dC, dI)) (ci := 7) (v := .int (nI nf)) (C := R_Mo) (T := F_Mo) (N := 31) hx hb hG iG_Mo hown hK hP 0 rfl rfl 2 (by decide) (hG _ k_525) (fun _ h9 => h9) rfl d_Mo_fund_21 ?_
    refine lv_bipush (v := 30) hx hb d_Mo_fund_24 (by decide) ?_
    refine lv_icmp_ne (tgt := 32) hx hb d_Mo_fund_26 (by decide) (fun c_3 => ?_) (fun c_3 => ?_)
    · rw [nI_30 hnf] at c_3
      refine lv_aload_n hx hb d_Mo_fund_32 rfl (lv_at hl 0 rfl) ?_
      refine va_get (D := (dC, dI)) (ci := 7) (v := .ref (ad 1)) (C := R_Mo) (T := F_Mo) (N := 31) hx hb hG iG_Mo hown hK hP 0 rfl rfl 3 (by decide) (hG _ k_526) (fun _ h9 => h9) rfl d_Mo_fund_33 ?_
      refine lv_aload_n hx hb d_Mo_fund_36 rfl (lv_at hl 0 rfl) ?_
      refine va_get (D := (dC, dI)) (ci := 7) (v := .int (nI nf)) (C := R_Mo) (T := F_Mo) (N := 31) hx hb hG iG_Mo hown hK hP 0 rfl rfl 2 (by decide) (hG _ k_525) (fun _ h9 => h9) rfl d_Mo_fund_37 ?_
      refine lv_iload_n hx hb d_Mo_fund_40 rfl (lv_at hl 1 rfl) ?_
      refine ra_iast (n := 30) (j := nf) (f := AI 1) hx hb hK hP hD hS 1 0 rfl rfl (by omega) (by decide) d_Mo_fund_41 (fun H locs hP hD hS => ?_)
      have hP : va_P (dC, dI) classes (mw ad cA 0 yr nf no nt bd nb fl (va_up AI 1 (va_up (AI 1) nf c0)) AN AB AL) H := hP
      have hD : va_D A (mw ad cA 0 yr nf no nt bd nb fl (va_up AI 1 (va_up (AI 1) nf c0)) AN AB AL) := hD
      refine lv_aload_n hx hb d_Mo_fund_42 rfl (lv_at hl 0 rfl) ?_
      refine lv_dup hx hb d_Mo_fund_43 rfl ?_
      refine va_get (D := (dC, dI)) (ci := 7) (v := .int (nI nf)) (C := R_Mo) (T := F_Mo) (N := 31) hx hb hG iG_Mo hown hK hP 0 rfl rfl 2 (by decide) (hG _ k_525) (fun _ h9 => h9) rfl d_Mo_fund_44 ?_
      refine lv_iconst (v := 1) hx hb d_Mo_fund_47 (by decide) ?_
      refine lv_iadd hx hb d_Mo_fund_48 ?_
      refine lv_topI (y := nI (nf + 1)) (nI_add nf 1) ?_
      refine va_put (D := (dC, dI)) (ci := 7) (v := .int (nI (nf + 1))) (ty := .int) (C := R_Mo) (T := F_Mo) (N := 31) hx hb hG iG_Mo t_Mo t_Mo_ok n_Mo hown hK hP hD hS 0 rfl rfl 2 (by decide) (hG _ k_525) (fun _ h9 => h9) rfl (by decide +kernel) rfl rfl (Nat.le_of_ble_eq_true rfl) d_Mo_fund_49 (fun H locs hP hD hS => ?_)
      have hP : va_P (dC, dI) classes (mw ad cA 0 yr (nf + 1) no nt bd nb fl (va_up AI 1 (va_up (AI 1) nf c0)) AN AB AL) H := hP
      have hD : va_D A (mw ad cA 0 yr (nf + 1) no nt bd nb fl (va_up AI 1 (va_up (AI 1) nf c0)) AN AB AL) := hD
      refine lv_aload_n hx hb d_Mo_fund_52 rfl (lv_at hl 0 rfl) ?_
      refine va_get (D := (dC, dI)) (ci := 7) (v := .int (nI (nf + 1))) (C := R_Mo) (T := F_Mo) (N := 31) hx hb hG iG_Mo hown hK hP 0 rfl rfl 2 (by decide) (hG _ k_525) (fun _ h9 => h9) rfl d_Mo_fund_53 ?_
      refine lv_iconst (v := 1) hx hb d_Mo_fund_56 (by decide) ?_
      refine lv_isub hx hb d_Mo_fund_57 ?_
      refine lv_topI (y := nI nf) (nI_pred nf) ?_
      exact W.iret (v := (nI nf)) hx hb hr (fun t ht hW => ⟨⟨_, (0, yr, (nf + 1), no, nt, bd, nb, fl, va_up AI 1 (va_up (AI 1) nf c0), AN, AB, AL), rfl, (by simp [m_fund, ixn, bI, c_2, c_3] <;> (repeat' apply And.intro) <;> rfl), by rw [ht]; exact hP, va_K.moved hW.alike hK, hD⟩, hS.F ht⟩) hS.2.2 d_Mo_fund_58
    · rw [nI_30 hnf] at c_3
      refine lv_bipush (v := (-4)) hx hb d_Mo_fund_29 (by decide) ?_
      exact W.iret (v := (-4)) hx hb hr (fun t ht hW => ⟨⟨_, (0, yr, nf, no, nt, bd, nb, fl, AI, AN, AB, AL), rfl, (by simp [m_fund, ixn, bI, c_2, c_3] <;> (repeat' apply And.intro) <;> rfl), by rw [ht]; exact hP, va_K.moved hW.alike hK, hD⟩, hS.F ht⟩) hS.2.2 d_Mo_fund_31
  · refine lv_bipush (v := (-2)) hx hb d_Mo_fund_17 (by decide) ?_
    exact W.iret (v := (-2)) hx hb hr (fun t ht hW => ⟨⟨_, (0, yr, nf, no, nt, bd, nb, fl, AI, AN, AB, AL), rfl, (by simp [m_fund, ixn, bI, c_2] <;> (repeat' apply And.intro) <;> rfl), by rw [ht]; exact hP, va_K.moved hW.alike hK, hD⟩, hS.F ht⟩) hS.2.2 d_Mo_fund_19

theorem d_Mo_band_0 : decode b_Mo_band 0 = .ok (.aload_n 0, 1) := by decide +kernel
theorem d_Mo_band_1 : decode b_Mo_band 1 = .ok (.iconst 0, 1) := by decide +kernel
theorem d_Mo_band_2 : decode b_Mo_band 2 = .ok (.putfield 91, 3) := by decide +kernel
theorem d_Mo_band_5 : decode b_Mo_band 5 = .ok (.iload_n 1, 1) := by decide +kernel
theorem d_Mo_band_6 : decode b_Mo_band 6 = .ok (.i2l, 1) := by decide +kernel
theorem d_Mo_band_7 : decode b_Mo_band 7 = .ok (.lconst 0, 1) := by decide +kernel
theorem d_Mo_band_8 : decode b_Mo_band 8 = .ok (.ldc2_w 151, 3) := by decide +kernel
theorem d_Mo_band_11 : decode b_Mo_band 11 = .ok (.invokestatic 97, 3) := by decide +kernel
theorem d_Mo_band_14 : decode b_Mo_band 14 = .ok (.ifCond .ne 6, 3) := by decide +kernel
theorem d_Mo_band_17 : decode b_Mo_band 17 = .ok (.bipush (-2), 2) := by decide +kernel
theorem d_Mo_band_19 : decode b_Mo_band 19 = .ok (.ireturn, 1) := by decide +kernel
theorem d_Mo_band_20 : decode b_Mo_band 20 = .ok (.aload_n 0, 1) := by decide +kernel
theorem d_Mo_band_21 : decode b_Mo_band 21 = .ok (.iload_n 1, 1) := by decide +kernel
theorem d_Mo_band_22 : decode b_Mo_band 22 = .ok (.putfield 63, 3) := by decide +kernel
theorem d_Mo_band_25 : decode b_Mo_band 25 = .ok (.iconst 1, 1) := by decide +kernel
theorem d_Mo_band_26 : decode b_Mo_band 26 = .ok (.ireturn, 1) := by decide +kernel
set_option maxHeartbeats 4000000 in
set_option maxRecDepth 100000 in
theorem c_Mo_band (l : Launch) (dC : Nat → ClassId) (dI : Nat → Nat → Nat) (ad : Nat → Nat) (cA : Nat → ClassId) (th yr : Int32) (nf no nt : Nat) (bd : Int32) (nb : Nat) (fl : Int32) (AI : Nat → Nat → Int32) (AN : Nat → Nat → Nat) (AB : Nat → Nat → Bool) (AL : Nat → Nat → Int64) (sz : Nat) (b0 : Int32) (hI : InvM nf no nt nb AI AN) : Met l y_Mo_band w_Mo_band { frames := 1, cells := 0, slots := 0, locals := 25 } (mu_P (dC, dI) classes (mtys cA) (mw ad cA th yr nf no nt bd nb fl AI AN AB AL) sz [.ref (ad 0), .int b0]) (va_Qi (fun r u => (r, u) = m_band (th, yr, nf, no, nt, bd, nb, fl, AI, AN, AB, AL) b0) (mu_B (dC, dI) classes (mtys cA) (va_A (mw ad cA th yr nf no nt bd nb fl AI AN AB AL) sz) (mwS ad cA)) (va_A (mw ad cA th yr nf no nt bd nb fl AI AN AB AL) sz)) 0 0 (va_A (mw ad cA th yr nf no nt bd nb fl AI AN AB AL) sz) := by
  refine Met.ofW (cc := b_Mo_band) (maxL := 2) (ret := (some .int)) (by decide) rfl ?_
  intro p e s m args below meth c s₁ B hml hv
  obtain ⟨rfl, hsz, hP, hK, hD0, hN⟩ := hv
  have hx := B.exec
  have hb := B.bytes
  have hr := B.returns
  have hts := atoms_spec (ws := w_Mo_band) B.pre
  have hG := fun (w : Cond) (h : w ∈ wG) => hts w (List.mem_cons_of_mem _ h)
  have hown : s.vm.findClass R_Mo = some m.cls := findClass_of_methodNamed B.named
  have hlocks := B.notSynchronized
  subst hsz
  have hD := hD0.self (sz := s.heap.size)
  generalize hAe : va_A (mw ad cA th yr nf no nt bd nb fl AI AN AB AL) s.heap.size = A at hD ⊢
  have hA : ∀ q : Nat, s.heap.size ≤ q → A q := fun q h => by rw [← hAe]; exact Or.inr h
  have hS : va_S A s.heap s.heap [] := va_S.rf
  have hP : va_P (dC, dI) classes (mw ad cA th yr nf no nt bd nb fl AI AN AB AL) s.heap := hP
  have hl := lv_entry ([.ref (ad 0), .int b0]) (n := 2) (Nat.le_of_ble_eq_true rfl)
  rw [lg_entry_eq]
  generalize (lg_sl ([.ref (ad 0), .int b0]) ++ List.replicate (2 - (lg_sl ([.ref (ad 0), .int b0])).length) Slot.unset).toArray = ls at hl ⊢
  have hl : lv_has ls 2 [(0, .ref (ad 0)), (1, .int b0)] := hl
  obtain ⟨hnf, hno, hnt, hnb, hfu, hft, hbf, hrw, hce, hdn⟩ := id hI
  refine lv_aload_n hx hb d_Mo_band_0 rfl (lv_at hl 0 rfl) ?_
  refine lv_iconst (v := 0) hx hb d_Mo_band_1 (by decide) ?_
  refine va_put (D := (dC, dI)) (ci := 7) (v := .int 0) (ty := .int) (C := R_Mo) (T := F_Mo) (N := 31) hx hb hG iG_Mo t_Mo t_Mo_ok n_Mo hown hK hP hD hS 0 rfl rfl 0 (by decide) (hG _ k_523) (fun _ h9 => h9) rfl (by decide +kernel) rfl rfl (Nat.le_of_ble_eq_true rfl) d_Mo_band_2 (fun H locs hP hD hS => ?_)
  have hP : va_P (dC, dI) classes (mw ad cA 0 yr nf no nt bd nb fl AI AN AB AL) H := hP
  have hD : va_D A (mw ad cA 0 yr nf no nt bd nb fl AI AN AB AL) := hD
  refine lv_iload_n hx hb d_Mo_band_5 rfl (lv_at hl 1 rfl) ?_
  refine lv_i2l hx hb d_Mo_band_6 rfl ?_
  refine lv_lconst (v := 0) hx hb d_Mo_band_7 (by decide) ?_
  refine lv_ldc2 (own := R_Mo) (v := 1000) hx hb hown (hG _ k_682) d_Mo_band_8 ?_
  refine rd_calli (va_runS (As := [.long (b0.toInt64), .long 0, .long 1000]) (rest := []) ⟨hx, hb, hml, hown, hts⟩ (c_Mo_in l dC dI (mtys cA) (mw ad cA 0 yr nf no nt bd nb fl AI AN AB AL) (b0.toInt64) 0 1000) (cwS 3 hts (gd_S k_629 k_630 k_17 k_631) rfl rfl rfl (by decide +kernel) ⟨Nat.le_of_ble_eq_true rfl, Nat.le_of_ble_eq_true rfl⟩) (rd_preS hK hN hP) rfl rfl hl.1 rfl (lv_room (Nat.le_of_ble_eq_true rfl)) d_Mo_band_11 ⟨Nat.zero_le _, Nat.zero_le _⟩) (fun r_1 hr_1 => ?_)
  subst hr_1
  refine lb_if_ne (tgt := 20) hx hb d_Mo_band_14 (by decide) (fun c_2 => ?_) (fun c_2 => ?_)
  · refine lv_aload_n hx hb d_Mo_band_20 rfl (lv_at hl 0 rfl) ?_
    refine lv_iload_n hx hb d_Mo_band_21 rfl (lv_at hl 1 rfl) ?_
    refine va_put (D := (dC, dI)) (ci := 7) (v := .int b0) (ty := .int) (C := R_Mo) (T := F_Mo) (N := 31) hx hb hG iG_Mo t_Mo t_Mo_ok n_Mo hown hK hP hD hS 0 rfl rfl 22 (by decide) (hG _ k_545) (fun _ h9 => h9) rfl (by decide +kernel) rfl rfl (Nat.le_of_ble_eq_true rfl) d_Mo_band_22 (fun H locs hP hD hS => ?_)
    have hP : va_P (dC, dI) classes (mw ad cA 0 yr nf no nt b0 nb fl AI AN AB AL) H := hP
    have hD : va_D A (mw ad cA 0 yr nf no nt b0 nb fl AI AN AB AL) := hD
    refine lv_iconst (v := 1) hx hb d_Mo_band_25 (by decide) ?_
    exact W.iret (v := 1) hx hb hr (fun t ht hW => ⟨⟨_, (0, yr, nf, no, nt, b0, nb, fl, AI, AN, AB, AL), rfl, (by simp [m_band, ixn, bI, c_2] <;> (repeat' apply And.intro) <;> rfl), by rw [ht]; exact hP, va_K.moved hW.alike hK, hD⟩, hS.F ht⟩) hS.2.2 d_Mo_band_26
  · refine lv_bipush (v := (-2)) hx hb d_Mo_band_17 (by decide) ?_
    exact W.iret (v := (-2)) hx hb hr (fun t ht hW => ⟨⟨_, (0, yr, nf, no, nt, bd, nb, fl, AI, AN, AB, AL), rfl, (by simp [m_band, ixn, bI, c_2] <;> (repeat' apply And.intro) <;> rfl), by rw [ht]; exact hP, va_K.moved hW.alike hK, hD⟩, hS.F ht⟩) hS.2.2 d_Mo_band_19

theorem d_Mo_give_0 : decode b_Mo_give 0 = .ok (.aload_n 0, 1) := by decide +kernel
theorem d_Mo_give_1 : decode b_Mo_give 1 = .ok (.iconst 0, 1) := by decide +kernel
theorem d_Mo_give_2 : decode b_Mo_give 2 = .ok (.putfield 91, 3) := by decide +kernel
theorem d_Mo_give_5 : decode b_Mo_give 5 = .ok (.aload_n 0, 1) := by decide +kernel
theorem d_Mo_give_6 : decode b_Mo_give 6 = .ok (.iload_n 1, 1) := by decide +kernel
theorem d_Mo_give_7 : decode b_Mo_give 7 = .ok (.invokevirtual 118, 3) := by decide +kernel
theorem d_Mo_give_10 : decode b_Mo_give 10 = .ok (.ifCond .ne 5, 3) := by decide +kernel
theorem d_Mo_give_13 : decode b_Mo_give 13 = .ok (.iconst (-1), 1) := by decide +kernel
theorem d_Mo_give_14 : decode b_Mo_give 14 = .ok (.ireturn, 1) := by decide +kernel
theorem d_Mo_give_15 : decode b_Mo_give 15 = .ok (.lload_n 2, 1) := by decide +kernel
theorem d_Mo_give_16 : decode b_Mo_give 16 = .ok (.lconst 1, 1) := by decide +kernel
theorem d_Mo_give_17 : decode b_Mo_give 17 = .ok (.ldc2_w 122, 3) := by decide +kernel
theorem d_Mo_give_20 : decode b_Mo_give 20 = .ok (.invokestatic 97, 3) := by decide +kernel
theorem d_Mo_give_23 : decode b_Mo_give 23 = .ok (.ifCond .ne 6, 3) := by decide +kernel
theorem d_Mo_give_26 : decode b_Mo_give 26 = .ok (.bipush (-2), 2) := by decide +kernel
theorem d_Mo_give_28 : decode b_Mo_give 28 = .ok (.ireturn, 1) := by decide +kernel
theorem d_Mo_give_29 : decode b_Mo_give 29 = .ok (.aload_n 0, 1) := by decide +kernel
theorem d_Mo_give_30 : decode b_Mo_give 30 = .ok (.iload_n 1, 1) := by decide +kernel
theorem d_Mo_give_31 : decode b_Mo_give 31 = .ok (.lload_n 2, 1) := by decide +kernel
theorem d_Mo_give_32 : decode b_Mo_give 32 = .ok (.lconst 0, 1) := by decide +kernel
theorem d_Mo_give_33 : decode b_Mo_give 33 = .ok (.lconst 0, 1) := by decide +kernel
theorem d_Mo_give_34 : decode b_Mo_give 34 = .ok (.invokevirtual 124, 3) := by decide +kernel
theorem d_Mo_give_37 : decode b_Mo_give 37 = .ok (.ifCond .ne 6, 3) := by decide +kernel
theorem d_Mo_give_40 : decode b_Mo_give 40 = .ok (.bipush (-4), 2) := by decide +kernel
theorem d_Mo_give_42 : decode b_Mo_give 42 = .ok (.ireturn, 1) := by decide +kernel
theorem d_Mo_give_43 : decode b_Mo_give 43 = .ok (.aload_n 0, 1) := by decide +kernel
theorem d_Mo_give_44 : decode b_Mo_give 44 = .ok (.getfield 13, 3) := by decide +kernel
theorem d_Mo_give_47 : decode b_Mo_give 47 = .ok (.iload_n 1, 1) := by decide +kernel
theorem d_Mo_give_48 : decode b_Mo_give 48 = .ok (.dup2, 1) := by decide +kernel
theorem d_Mo_give_49 : decode b_Mo_give 49 = .ok (.laload, 1) := by decide +kernel
theorem d_Mo_give_50 : decode b_Mo_give 50 = .ok (.lload_n 2, 1) := by decide +kernel
theorem d_Mo_give_51 : decode b_Mo_give 51 = .ok (.ladd, 1) := by decide +kernel
theorem d_Mo_give_52 : decode b_Mo_give 52 = .ok (.lastore, 1) := by decide +kernel
theorem d_Mo_give_53 : decode b_Mo_give 53 = .ok (.iconst 1, 1) := by decide +kernel
theorem d_Mo_give_54 : decode b_Mo_give 54 = .ok (.ireturn, 1) := by decide +kernel
set_option maxHeartbeats 4000000 in
set_option maxRecDepth 100000 in
theorem c_Mo_give (l : Launch) (dC : Nat → ClassId) (dI : Nat → Nat → Nat) (ad : Nat → Nat) (cA : Nat → ClassId) (th yr : Int32) (nf no nt : Nat) (bd : Int32) (nb : Nat) (fl : Int32) (AI : Nat → Nat → Int32) (AN : Nat → Nat → Nat) (AB : Nat → Nat → Bool) (AL : Nat → Nat → Int64) (sz : Nat) (fd : Int32) (mr : Int64) (hI : InvM nf no nt nb AI AN) : Met l y_Mo_give w_Mo_give { frames := 3, cells := 0, slots := 0, locals := 79 } (mu_P (dC, dI) classes (mtys cA) (mw ad cA th yr nf no nt bd nb fl AI AN AB AL) sz [.ref (ad 0), .int fd, .long mr]) (va_Qi (fun r u => (r, u) = m_give (th, yr, nf, no, nt, bd, nb, fl, AI, AN, AB, AL) fd mr) (mu_B (dC, dI) classes (mtys cA) (va_A (mw ad cA th yr nf no nt bd nb fl AI AN AB AL) sz) (mwS ad cA)) (va_A (mw ad cA th yr nf no nt bd nb fl AI AN AB AL) sz)) 0 0 (va_A (mw ad cA th yr nf no nt bd nb fl AI AN AB AL) sz) := by
  refine Met.ofW (cc := b_Mo_give) (maxL := 4) (ret := (some .int)) (by decide) rfl ?_
  intro p e s m args below meth c s₁ B hml hv
  obtain ⟨rfl, hsz, hP, hK, hD0, hN⟩ := hv
  have hx := B.exec
  have hb := B.bytes
  have hr := B.returns
  have hts := atoms_spec (ws := w_Mo_give) B.pre
  have hG := fun (w : Cond) (h : w ∈ wG) => hts w (List.mem_cons_of_mem _ h)
  have hown : s.vm.findClass R_Mo = some m.cls := findClass_of_methodNamed B.named
  have hlocks := B.notSynchronized
  subst hsz
  have hD := hD0.self (sz := s.heap.size)
  generalize hAe : va_A (mw ad cA th yr nf no nt bd nb fl AI AN AB AL) s.heap.size = A at hD ⊢
  have hA : ∀ q : Nat, s.heap.size ≤ q → A q := fun q h => by rw [← hAe]; exact Or.inr h
  have hS : va_S A s.heap s.heap [] := va_S.rf
  have hP : va_P (dC, dI) classes (mw ad cA th yr nf no nt bd nb fl AI AN AB AL) s.heap := hP
  have hl := lv_entry ([.ref (ad 0), .int fd, .long mr]) (n := 4) (Nat.le_of_ble_eq_true rfl)
  rw [lg_entry_eq]
  generalize (lg_sl ([.ref (ad 0), .int fd, .long mr]) ++ List.replicate (4 - (lg_sl ([.ref (ad 0), .int fd, .long mr])).length) Slot.unset).toArray = ls at hl ⊢
  have hl : lv_has ls 4 [(0, .ref (ad 0)), (1, .int fd), (2, .long mr)] := hl
  obtain ⟨hnf, hno, hnt, hnb, hfu, hft, hbf, hrw, hce, hdn⟩ := id hI
  refine lv_aload_n hx hb d_Mo_give_0 rfl (lv_at hl 0 rfl) ?_
  refine lv_iconst (v := 0) hx hb d_Mo_give_1 (by decide) ?_
  refine va_put (D := (dC, dI)) (ci := 7) (v := .int 0) (ty := .int) (C := R_Mo) (T := F_Mo) (N := 31) hx hb hG iG_Mo t_Mo t_Mo_ok n_Mo hown hK hP hD hS 0 rfl rfl 0 (by decide) (hG _ k_523) (fun _ h9 => h9) rfl (by decide +kernel) rfl rfl (Nat.le_of_ble_eq_true rfl) d_Mo_give_2 (fun H locs hP hD hS => ?_)
  have hP : va_P (dC, dI) classes (mw ad cA 0 yr nf no nt bd nb fl AI AN AB AL) H := hP
  have hD : va_D A (mw ad cA 0 yr nf no nt bd nb fl AI AN AB AL) := hD
  refine lv_aload_n hx hb d_Mo_give_5 rfl (lv_at hl 0 rfl) ?_
  refine lv_iload_n hx hb d_Mo_give_6 rfl (lv_at hl 1 rfl) ?_
  refine rd_calli (va_runV (As := [.int fd]) (rest := []) ⟨hx, hb, hml, hown, hts⟩ (c_Mo_isFund l dC dI ad cA 0 yr nf no nt bd nb fl AI AN AB AL fd) (cwV 1 hts (gd_V k_636 k_638 k_7 k_17 k_639) rfl rfl rfl (by decide +kernel) ⟨Nat.le_of_ble_eq_true rfl, Nat.le_of_ble_eq_true rfl⟩) (rd_preV 0 hK hN hP rfl rfl) rfl rfl hl.1 rfl (lv_room (Nat.le_of_ble_eq_true rfl)) d_Mo_give_7 ⟨Nat.zero_le _, Nat.zero_le _⟩) (fun r_1 hr_1 => ?_)
  subst hr_1
  refine lb_if_ne (tgt := 15) hx hb d_Mo_give_10 (by decide) (fun c_2 => ?_) (fun c_2 => ?_)
  · obtain ⟨j, hj, rfl⟩ := inN_of (n := nf) (by omega) c_2
    have ej : (nI j).toNatClampNeg = j := nI_clamp (by omega)
    refine lv_lload_n hx hb d_Mo_give_15 rfl (lv_at hl 2 rfl) ?_
    refine lv_lconst (v := 1) hx hb d_Mo_give_16 (by decide) ?_
    refine lv_ldc2 (own := R_Mo) (v := 1000000000000) hx hb hown (hG _ k_640) d_Mo_give_17 ?_
    refine rd_calli (va_runS (As := [.long mr, .long 1, .long 1000000000000]) (rest := []) ⟨hx, hb, hml, hown, hts⟩ (c_Mo_in l dC dI (mtys cA) (mw ad cA 0 yr nf no nt bd nb fl AI AN AB AL) mr 1 1000000000000) (cwS 3 hts (gd_S k_629 k_630 k_17 k_631) rfl rfl rfl (by decide +kernel) ⟨Nat.le_of_ble_eq_true rfl, Nat.le_of_ble_eq_true rfl⟩) (rd_preS hK hN hP) rfl rfl hl.1 rfl (lv_room (Nat.le_of_ble_eq_true rfl)) d_Mo_give_20 ⟨Nat.zero_le _, Nat.zero_le _⟩) (fun r_3 hr_3 => ?_)
    subst hr_3
    refine lb_if_ne (tgt := 29) hx hb d_Mo_give_23 (by decide) (fun c_4 => ?_) (fun c_4 => ?_)
    · refine lv_aload_n hx hb d_Mo_give_29 rfl (lv_at hl 0 rfl) ?_
      refine lv_iload_n hx hb d_Mo_give_30 rfl (lv_at hl 1 rfl) ?_
      refine lv_lload_n hx hb d_Mo_give_31 rfl (lv_at hl 2 rfl) ?_
      refine lv_lconst (v := 0) hx hb d_Mo_give_32 (by decide) ?_
      refine lv_lconst (v := 0) hx hb d_Mo_give_33 (by decide) ?_
      refine rd_calli (va_runV (As := [.int (nI j), .long mr, .long 0, .long 0]) (rest := []) ⟨hx, hb, hml, hown, hts⟩ (c_Mo_fits l dC dI ad cA 0 yr nf no nt bd nb fl AI AN AB AL j mr 0 0 hno (by omega)) (cwV 4 hts (gd_V k_641 k_643 k_8 k_17 k_644) rfl rfl rfl (by decide +kernel) ⟨Nat.le_of_ble_eq_true rfl, Nat.le_of_ble_eq_true rfl⟩) (rd_preV 0 hK hN hP rfl rfl) rfl rfl hl.1 rfl (lv_room (Nat.le_of_ble_eq_true rfl)) d_Mo_give_34 ⟨Nat.zero_le _, Nat.zero_le _⟩) (fun r_5 hr_5 => ?_)
      subst hr_5
      refine lb_if_ne (tgt := 43) hx hb d_Mo_give_37 (by decide) (fun c_6 => ?_) (fun c_6 => ?_)
      · refine lv_aload_n hx hb d_Mo_give_43 rfl (lv_at hl 0 rfl) ?_
        refine va_get (D := (dC, dI)) (ci := 7) (v := .ref (ad 2)) (C := R_Mo) (T := F_Mo) (N := 31) hx hb hG iG_Mo hown hK hP 0 rfl rfl 4 (by decide) (hG _ k_527) (fun _ h9 => h9) rfl d_Mo_give_44 ?_
        refine lv_iload_n hx hb d_Mo_give_47 rfl (lv_at hl 1 rfl) ?_
        refine lv_dup2_11 hx hb d_Mo_give_48 rfl rfl ?_
        refine ra_lald (n := 30) (j := j) (f := AL 2) hx hb hK hP 2 1 rfl rfl (by omega) (by decide) d_Mo_give_49 ?_
        refine lv_lload_n hx hb d_Mo_give_50 rfl (lv_at hl 2 rfl) ?_
        refine lv_ladd hx hb d_Mo_give_51 ?_
        refine ra_last (n := 30) (j := j) (f := AL 2) hx hb hK hP hD hS 2 1 rfl rfl (by omega) (by decide) d_Mo_give_52 (fun H locs hP hD hS => ?_)
        have hP : va_P (dC, dI) classes (mw ad cA 0 yr nf no nt bd nb fl AI AN AB (va_up AL 2 (va_up (AL 2) j ((AL 2 j) + mr)))) H := hP
        have hD : va_D A (mw ad cA 0 yr nf no nt bd nb fl AI AN AB (va_up AL 2 (va_up (AL 2) j ((AL 2 j) + mr)))) := hD
        refine lv_iconst (v := 1) hx hb d_Mo_give_53 (by decide) ?_
        exact W.iret (v := 1) hx hb hr (fun t ht hW => ⟨⟨_, (0, yr, nf, no, nt, bd, nb, fl, AI, AN, AB, va_up AL 2 (va_up (AL 2) j ((AL 2 j) + mr))), rfl, (by simp [m_give, ixn, bI, ej, c_2, c_4, c_6] <;> (repeat' apply And.intro) <;> rfl), by rw [ht]; exact hP, va_K.moved hW.alike hK, hD⟩, hS.F ht⟩) hS.2.2 d_Mo_give_54
      · refine lv_bipush (v := (-4)) hx hb d_Mo_give_40 (by decide) ?_
        exact W.iret (v := (-4)) hx hb hr (fun t ht hW => ⟨⟨_, (0, yr, nf, no, nt, bd, nb, fl, AI, AN, AB, AL), rfl, (by simp [m_give, ixn, bI, ej, c_2, c_4, c_6] <;> (repeat' apply And.intro) <;> rfl), by rw [ht]; exact hP, va_K.moved hW.alike hK, hD⟩, hS.F ht⟩) hS.2.2 d_Mo_give_42
    · refine lv_bipush (v := (-2)) hx hb d_Mo_give_26 (by decide) ?_
      exact W.iret (v := (-2)) hx hb hr (fun t ht hW => ⟨⟨_, (0, yr, nf, no, nt, bd, nb, fl, AI, AN, AB, AL), rfl, (by simp [m_give, ixn, bI, ej, c_2, c_4] <;> (repeat' apply And.intro) <;> rfl), by rw [ht]; exact hP, va_K.moved hW.alike hK, hD⟩, hS.F ht⟩) hS.2.2 d_Mo_give_28
  · refine lv_iconst (v := (-1)) hx hb d_Mo_give_13 (by decide) ?_
    exact W.iret (v := (-1)) hx hb hr (fun t ht hW => ⟨⟨_, (0, yr, nf, no, nt, bd, nb, fl, AI, AN, AB, AL), rfl, (by simp [m_give, ixn, bI, c_2] <;> (repeat' apply And.intro) <;> rfl), by rw [ht]; exact hP, va_K.moved hW.alike hK, hD⟩, hS.F ht⟩) hS.2.2 d_Mo_give_14

theorem d_Mo_failing_0 : decode b_Mo_failing 0 = .ok (.aload_n 0, 1) := by decide +kernel
theorem d_Mo_failing_1 : decode b_Mo_failing 1 = .ok (.iconst 0, 1) := by decide +kernel
theorem d_Mo_failing_2 : decode b_Mo_failing 2 = .ok (.putfield 91, 3) := by decide +kernel
theorem d_Mo_failing_5 : decode b_Mo_failing 5 = .ok (.aload_n 0, 1) := by decide +kernel
theorem d_Mo_failing_6 : decode b_Mo_failing 6 = .ok (.getfield 85, 3) := by decide +kernel
theorem d_Mo_failing_9 : decode b_Mo_failing 9 = .ok (.ireturn, 1) := by decide +kernel
set_option maxHeartbeats 4000000 in
set_option maxRecDepth 100000 in
theorem c_Mo_failing (l : Launch) (dC : Nat → ClassId) (dI : Nat → Nat → Nat) (ad : Nat → Nat) (cA : Nat → ClassId) (th yr : Int32) (nf no nt : Nat) (bd : Int32) (nb : Nat) (fl : Int32) (AI : Nat → Nat → Int32) (AN : Nat → Nat → Nat) (AB : Nat → Nat → Bool) (AL : Nat → Nat → Int64) (sz : Nat) (hI : InvM nf no nt nb AI AN) : Met l y_Mo_failing w_Mo_failing { frames := 0, cells := 0, slots := 0, locals := 0 } (mu_P (dC, dI) classes (mtys cA) (mw ad cA th yr nf no nt bd nb fl AI AN AB AL) sz [.ref (ad 0)]) (va_Qi (fun r u => (r, u) = m_failing (th, yr, nf, no, nt, bd, nb, fl, AI, AN, AB, AL) ) (mu_B (dC, dI) classes (mtys cA) (va_A (mw ad cA th yr nf no nt bd nb fl AI AN AB AL) sz) (mwS ad cA)) (va_A (mw ad cA th yr nf no nt bd nb fl AI AN AB AL) sz)) 0 0 (va_A (mw ad cA th yr nf no nt bd nb fl AI AN AB AL) sz) := by
  refine Met.ofW (cc := b_Mo_failing) (maxL := 1) (ret := (some .int)) (by decide) rfl ?_
  intro p e s m args below meth c s₁ B hml hv
  obtain ⟨rfl, hsz, hP, hK, hD0, hN⟩ := hv
  have hx := B.exec
  have hb := B.bytes
  have hr := B.returns
  have hts := atoms_spec (ws := w_Mo_failing) B.pre
  have hG := fun (w : Cond) (h : w ∈ wG) => hts w (List.mem_cons_of_mem _ h)
  have hown : s.vm.findClass R_Mo = some m.cls := findClass_of_methodNamed B.named
  have hlocks := B.notSynchronized
  subst hsz
  have hD := hD0.self (sz := s.heap.size)
  generalize hAe : va_A (mw ad cA th yr nf no nt bd nb fl AI AN AB AL) s.heap.size = A at hD ⊢
  have hA : ∀ q : Nat, s.heap.size ≤ q → A q := fun q h => by rw [← hAe]; exact Or.inr h
  have hS : va_S A s.heap s.heap [] := va_S.rf
  have hP : va_P (dC, dI) classes (mw ad cA th yr nf no nt bd nb fl AI AN AB AL) s.heap := hP
  have hl := lv_entry ([.ref (ad 0)]) (n := 1) (Nat.le_of_ble_eq_true rfl)
  rw [lg_entry_eq]
  generalize (lg_sl ([.ref (ad 0)]) ++ List.replicate (1 - (lg_sl ([.ref (ad 0)])).length) Slot.unset).toArray = ls at hl ⊢
  have hl : lv_has ls 1 [(0, .ref (ad 0))] := hl
  obtain ⟨hnf, hno, hnt, hnb, hfu, hft, hbf, hrw, hce, hdn⟩ := id hI
  refine lv_aload_n hx hb d_Mo_failing_0 rfl (lv_at hl 0 rfl) ?_
  refine lv_iconst (v := 0) hx hb d_Mo_failing_1 (by decide) ?_
  refine va_put (D := (dC, dI)) (ci := 7) (v := .int 0) (ty := .int) (C := R_Mo) (T := F_Mo) (N := 31) hx hb hG iG_Mo t_Mo t_Mo_ok n_Mo hown hK hP hD hS 0 rfl rfl 0 (by decide) (hG _ k_523) (fun _ h9 => h9) rfl (by decide +kernel) rfl rfl (Nat.le_of_ble_eq_true rfl) d_Mo_failing_2 (fun H locs hP hD hS => ?_)
  have hP : va_P (dC, dI) classes (mw ad cA 0 yr nf no nt bd nb fl AI AN AB AL) H := hP
  have hD : va_D A (mw ad cA 0 yr nf no nt bd nb fl AI AN AB AL) := hD
  refine lv_aload_n hx hb d_Mo_failing_5 rfl (lv_at hl 0 rfl) ?_
  refine va_get (D := (dC, dI)) (ci := 7) (v := .int fl) (C := R_Mo) (T := F_Mo) (N := 31) hx hb hG iG_Mo hown hK hP 0 rfl rfl 30 (by decide) (hG _ k_553) (fun _ h9 => h9) rfl d_Mo_failing_6 ?_
  exact W.iret (v := fl) hx hb hr (fun t ht hW => ⟨⟨_, (0, yr, nf, no, nt, bd, nb, fl, AI, AN, AB, AL), rfl, (by simp [m_failing, ixn, bI] <;> (repeat' apply And.intro) <;> rfl), by rw [ht]; exact hP, va_K.moved hW.alike hK, hD⟩, hS.F ht⟩) hS.2.2 d_Mo_failing_9
