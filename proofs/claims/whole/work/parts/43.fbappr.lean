theorem d_FB_approve_0 : decode b_FB_approve 0 = .ok (.aload_n 0, 1) := by decide +kernel
theorem d_FB_approve_1 : decode b_FB_approve 1 = .ok (.iload_n 1, 1) := by decide +kernel
theorem d_FB_approve_2 : decode b_FB_approve 2 = .ok (.invokevirtual 99, 3) := by decide +kernel
theorem d_FB_approve_5 : decode b_FB_approve 5 = .ok (.astore_n 3, 1) := by decide +kernel
theorem d_FB_approve_6 : decode b_FB_approve 6 = .ok (.aload_n 3, 1) := by decide +kernel
theorem d_FB_approve_7 : decode b_FB_approve 7 = .ok (.ifnonnull 5, 3) := by decide +kernel
theorem d_FB_approve_10 : decode b_FB_approve 10 = .ok (.iconst (-1), 1) := by decide +kernel
theorem d_FB_approve_11 : decode b_FB_approve 11 = .ok (.ireturn, 1) := by decide +kernel
theorem d_FB_approve_12 : decode b_FB_approve 12 = .ok (.iload_n 2, 1) := by decide +kernel
theorem d_FB_approve_13 : decode b_FB_approve 13 = .ok (.i2l, 1) := by decide +kernel
theorem d_FB_approve_14 : decode b_FB_approve 14 = .ok (.lconst 0, 1) := by decide +kernel
theorem d_FB_approve_15 : decode b_FB_approve 15 = .ok (.ldc2_w 103, 3) := by decide +kernel
theorem d_FB_approve_18 : decode b_FB_approve 18 = .ok (.invokestatic 61, 3) := by decide +kernel
theorem d_FB_approve_21 : decode b_FB_approve 21 = .ok (.ifCond .ne 6, 3) := by decide +kernel
theorem d_FB_approve_24 : decode b_FB_approve 24 = .ok (.bipush (-2), 2) := by decide +kernel
theorem d_FB_approve_26 : decode b_FB_approve 26 = .ok (.ireturn, 1) := by decide +kernel
theorem d_FB_approve_27 : decode b_FB_approve 27 = .ok (.aload_n 3, 1) := by decide +kernel
theorem d_FB_approve_28 : decode b_FB_approve 28 = .ok (.getfield 105, 3) := by decide +kernel
theorem d_FB_approve_31 : decode b_FB_approve 31 = .ok (.ifCond .ne 14, 3) := by decide +kernel
theorem d_FB_approve_34 : decode b_FB_approve 34 = .ok (.aload_n 3, 1) := by decide +kernel
theorem d_FB_approve_35 : decode b_FB_approve 35 = .ok (.getfield 108, 3) := by decide +kernel
theorem d_FB_approve_38 : decode b_FB_approve 38 = .ok (.iload_n 2, 1) := by decide +kernel
theorem d_FB_approve_39 : decode b_FB_approve 39 = .ok (.invokevirtual 112, 3) := by decide +kernel
theorem d_FB_approve_42 : decode b_FB_approve 42 = .ok (.ifCond .eq 6, 3) := by decide +kernel
theorem d_FB_approve_45 : decode b_FB_approve 45 = .ok (.bipush (-3), 2) := by decide +kernel
theorem d_FB_approve_47 : decode b_FB_approve 47 = .ok (.ireturn, 1) := by decide +kernel
theorem d_FB_approve_48 : decode b_FB_approve 48 = .ok (.aload_n 3, 1) := by decide +kernel
theorem d_FB_approve_49 : decode b_FB_approve 49 = .ok (.getfield 108, 3) := by decide +kernel
theorem d_FB_approve_52 : decode b_FB_approve 52 = .ok (.iload_n 2, 1) := by decide +kernel
theorem d_FB_approve_53 : decode b_FB_approve 53 = .ok (.invokevirtual 118, 3) := by decide +kernel
theorem d_FB_approve_56 : decode b_FB_approve 56 = .ok (.aload_n 3, 1) := by decide +kernel
theorem d_FB_approve_57 : decode b_FB_approve 57 = .ok (.getfield 108, 3) := by decide +kernel
theorem d_FB_approve_60 : decode b_FB_approve 60 = .ok (.getfield 122, 3) := by decide +kernel
theorem d_FB_approve_63 : decode b_FB_approve 63 = .ok (.iconst 2, 1) := by decide +kernel
theorem d_FB_approve_64 : decode b_FB_approve 64 = .ok (.if_icmp .lt 7, 3) := by decide +kernel
theorem d_FB_approve_67 : decode b_FB_approve 67 = .ok (.aload_n 3, 1) := by decide +kernel
theorem d_FB_approve_68 : decode b_FB_approve 68 = .ok (.invokevirtual 96, 3) := by decide +kernel
theorem d_FB_approve_71 : decode b_FB_approve 71 = .ok (.aload_n 3, 1) := by decide +kernel
theorem d_FB_approve_72 : decode b_FB_approve 72 = .ok (.getfield 108, 3) := by decide +kernel
theorem d_FB_approve_75 : decode b_FB_approve 75 = .ok (.getfield 122, 3) := by decide +kernel
theorem d_FB_approve_78 : decode b_FB_approve 78 = .ok (.ireturn, 1) := by decide +kernel
set_option maxHeartbeats 4000000 in
set_option maxRecDepth 100000 in
theorem c_FB_approve (l : Launch) (dC : Nat → ClassId) (dI : Nat → Nat → Nat) (cs : Nat → ClassId) (o : Nat) (th yr : Int32) (nf no nt : Nat) (bd : Int32) (nb : Nat) (fl : Int32) (AI : Nat → Nat → Int32) (AN : Nat → Nat → Nat) (AB : Nat → Nat → Bool) (AL : Nat → Nat → Int64) (L : List Nat) (f : Nat → va_E) (sz : Nat) (i0 w0 : Int32) (hCS : CS cs o (th, yr, nf, no, nt, bd, nb, fl, AI, AN, AB, AL) L f) : Met l y_FB_approve w_FB_approve { frames := 2, cells := 0, slots := 0, locals := 46 } (mu_P (dC, dI) classes (ctys cs) (va_pl L f) sz [.ref o, .int i0, .int w0]) (va_Qi (fun r u => r = (m_approve (th, yr, nf, no, nt, bd, nb, fl, AI, AN, AB, AL) i0 w0).1 ∧ CS cs o (m_approve (th, yr, nf, no, nt, bd, nb, fl, AI, AN, AB, AL) i0 w0).2 u.1 u.2) (mu_B (dC, dI) classes (ctys cs) (va_A (va_pl L f) sz) fw_w) (va_A (va_pl L f) sz)) 0 0 (va_A (va_pl L f) sz) := by
  obtain ⟨n, ad, e0, bl, rx, rfl, hC, hR, hM, hB, hZ⟩ := hCS
  obtain ⟨⟨n0, n1, n2, n3, n4, n5⟩, e00, e01, e02, e03, e04, e05, e06, e1, e2, e3, e4, e5, e6⟩ := id hR
  obtain ⟨hnf, hno, hnt, hnb, hfu, hft, hbf, hrw, hce, hdn⟩ := id hM
  have hm00 : ad 0 0 ∈ L := (hC.1 0 0 (by rw [n0]; decide)).1
  have he00 : f (ad 0 0) = .inr (0, [.ref (ad 0 1), .ref (ad 0 2), .ref (ad 0 3), .ref (ad 0 4), .ref (ad 0 5), .int (nI nf), .int (nI no), .int (nI nt), .int yr, .int bd, .int fl]) := (hC.1 0 0 (by rw [n0]; decide)).2.trans e00
  have hm01 : ad 0 1 ∈ L := (hC.1 0 1 (by rw [n0]; decide)).1
  have he01 : f (ad 0 1) = .inl ((cs 0), 30, .inr (.inr (.inr (.inr (fun i => if i < nf then some (ad 1 i) else none))))) := (hC.1 0 1 (by rw [n0]; decide)).2.trans e01
  have hm02 : ad 0 2 ∈ L := (hC.1 0 2 (by rw [n0]; decide)).1
  have he02 : f (ad 0 2) = .inl ((cs 1), 300, .inr (.inr (.inr (.inr (fun i => if i < no then some (ad 2 i) else none))))) := (hC.1 0 2 (by rw [n0]; decide)).2.trans e02
  have hm03 : ad 0 3 ∈ L := (hC.1 0 3 (by rw [n0]; decide)).1
  have he03 : f (ad 0 3) = .inl ((cs 2), 100, .inr (.inr (.inr (.inr (fun i => if i < nt then some (ad 4 i) else none))))) := (hC.1 0 3 (by rw [n0]; decide)).2.trans e03
  have hm04 : ad 0 4 ∈ L := (hC.1 0 4 (by rw [n0]; decide)).1
  have he04 : f (ad 0 4) = .inl ((cs 3), 10, .inr (.inr (.inr (.inr (fun c => if AN 18 c = 0 then none else some (ad 6 (rx c (AN 18 c - 1)))))))) := (hC.1 0 4 (by rw [n0]; decide)).2.trans e04
  have hm05 : ad 0 5 ∈ L := (hC.1 0 5 (by rw [n0]; decide)).1
  have he05 : f (ad 0 5) = .inr (6, [.ref (ad 0 6), .int (nI nb), .long (m_tot AI nb)]) := (hC.1 0 5 (by rw [n0]; decide)).2.trans e05
  have hm06 : ad 0 6 ∈ L := (hC.1 0 6 (by rw [n0]; decide)).1
  have he06 : f (ad 0 6) = .inl ((cs 4), 20, .inr (.inr (.inr (.inr (fun r => if r < nb then some (ad 1 (AN 22 r)) else none))))) := (hC.1 0 6 (by rw [n0]; decide)).2.trans e06
  refine Met.ofW (cc := b_FB_approve) (maxL := 4) (ret := (some .int)) (by decide) rfl ?_
  intro p e s m args below meth c s₁ B hml hv
  obtain ⟨rfl, hsz, hP, hK, hD0, hN⟩ := hv
  have hx := B.exec
  have hb := B.bytes
  have hr := B.returns
  have hts := atoms_spec (ws := w_FB_approve) B.pre
  have hG := fun (w : Cond) (h : w ∈ wG) => hts w (List.mem_cons_of_mem _ h)
  have hown : s.vm.findClass R_FB = some m.cls := findClass_of_methodNamed B.named
  have hlocks := B.notSynchronized
  subst hsz
  have hD := hD0.self (sz := s.heap.size)
  generalize hAe : va_A (va_pl L f) s.heap.size = A at hD ⊢
  have hA : ∀ q : Nat, s.heap.size ≤ q → A q := fun q h => by rw [← hAe]; exact Or.inr h
  have hS : va_S A s.heap s.heap [] := va_S.rf
  have hP : va_P (dC, dI) classes (va_pl L f) s.heap := hP
  have hl := lv_entry ([.ref (ad 0 0), .int i0, .int w0]) (n := 4) (Nat.le_of_ble_eq_true rfl)
  rw [lg_entry_eq]
  generalize (lg_sl ([.ref (ad 0 0), .int i0, .int w0]) ++ List.replicate (4 - (lg_sl ([.ref (ad 0 0), .int i0, .int w0])).length) Slot.unset).toArray = ls at hl ⊢
  have hl : lv_has ls 4 [(0, .ref (ad 0 0)), (1, .int i0), (2, .int w0)] := hl
  refine lv_aload_n hx hb d_FB_approve_0 rfl (lv_at hl 0 rfl) ?_
  refine lv_iload_n hx hb d_FB_approve_1 rfl (lv_at hl 1 rfl) ?_
  refine rd_callq (va_runV (As := [.int i0]) (rest := []) ⟨hx, hb, hml, hown, hts⟩ (c_FB_purchaseAt l dC dI (ctys cs) L f (ad 0 0) (ad 0 2) (nI nf) (nI no) (nI nt) yr bd fl (ad 0 1) (ad 0 3) (ad 0 4) (ad 0 5) (cs 1) (fun i => if i < no then some (ad 2 i) else none) i0 hm00 he00 hm02 he02 rfl) (cwV 1 hts (gd_V k_231 k_233 k_1 k_14 k_234) rfl rfl rfl (by decide +kernel) ⟨Nat.le_of_ble_eq_true rfl, Nat.le_of_ble_eq_true rfl⟩) (fw_preV hK hN hP rfl hm00 he00) rfl rfl hl.1 rfl (lv_room (Nat.le_of_ble_eq_true rfl)) d_FB_approve_2 ⟨Nat.zero_le _, Nat.zero_le _⟩) (fun r_1 hr_1 => ?_)
  rcases at_cases hno (by decide) hr_1 with ⟨hq_i0, rfl⟩ | ⟨j, hj, rfl, rfl⟩
  · refine W.eq (g2 := F0 m 5 ls [.null]) rfl ?_
    refine lv_astore_nN (lv' := [(3, .null), (0, .ref (ad 0 0)), (1, .int i0), (2, .int w0)]) hx hb d_FB_approve_5 rfl hl (by decide) rfl (fun ls hl => ?_)
    refine lv_aload_nN hx hb d_FB_approve_6 rfl (lv_at hl 0 rfl) ?_
    refine lv_ifnonnullN hx hb d_FB_approve_7 ?_
    refine lv_iconst (v := (-1)) hx hb d_FB_approve_10 (by decide) ?_
    have hcall : m_approve (th, yr, nf, no, nt, bd, nb, fl, AI, AN, AB, AL) i0 w0 = ((-1), (0, yr, nf, no, nt, bd, nb, fl, AI, AN, AB, AL)) := (by simp [m_approve, ixn, bI, hq_i0] <;> (repeat' apply And.intro) <;> rfl)
    have hcs : CS cs (ad 0 0) (0, yr, nf, no, nt, bd, nb, fl, AI, AN, AB, AL) L f := ⟨n, ad, e0, bl, rx, rfl, hC, hR, hM, hB, hZ⟩
    exact W.iret (v := (-1)) hx hb hr (fun t ht hW => ⟨⟨_, (L, f), rfl, by rw [hcall]; exact ⟨rfl, hcs⟩, by rw [ht]; exact hP, va_K.moved hW.alike hK, hD⟩, hS.F ht⟩) hS.2.2 d_FB_approve_11
  · have ej : (nI j).toNatClampNeg = j := nI_clamp (by omega)
    have hi_j : inN (nI j) no = true := inN_yes (by omega) hj
    refine W.eq (g2 := F0 m 5 ls [.ref (ad 2 j)]) rfl ?_
    have hm_y_2 : ad 2 j ∈ L := (hC.1 2 j (by rw [n2]; exact hj)).1
    have he_y_2 : f (ad 2 j) = .inr (2, [.ref (ad 1 (AN 4 j)), .int (AI 5 j), .int (bI (AB 6 j)), .ref (ad 3 j), .int (AI 7 j), .int (AI 11 j), .int (AI 12 j), .long (AL 10 j)]) := (hC.1 2 j (by rw [n2]; exact hj)).2.trans (e2 j hj)
    have hm_y_3 : ad 3 j ∈ L := (hC.1 3 j (by rw [n3]; exact hj)).1
    have he_y_3 : f (ad 3 j) = .inr (4, [.long (bl 0 j), .long (bl 1 j), .int (AI 9 j)]) := (hC.1 3 j (by rw [n3]; exact hj)).2.trans (e3 j hj)
    have hm_y_4 : ad 1 (AN 4 j) ∈ L := (hC.1 1 (AN 4 j) (by rw [n1]; exact (hfu j hj))).1
    have he_y_4 : f (ad 1 (AN 4 j)) = .inr (1, [.int (nI (AN 4 j)), .int (AI 1 (AN 4 j)), .long (AL 2 (AN 4 j)), .long (m_enc AI AN no (nI (AN 4 j))), .long (AL 3 (AN 4 j)), .long (m_bat AI AN nb (nI (AN 4 j)))]) := (hC.1 1 (AN 4 j) (by rw [n1]; exact (hfu j hj))).2.trans (e1 (AN 4 j) (hfu j hj))
    refine lv_astore_n (lv' := [(3, .ref (ad 2 j)), (0, .ref (ad 0 0)), (1, .int (nI j)), (2, .int w0)]) hx hb d_FB_approve_5 rfl hl (by decide) rfl (fun ls hl => ?_)
    refine lv_aload_n hx hb d_FB_approve_6 rfl (lv_at hl 0 rfl) ?_
    refine lv_ifnonnull (tgt := 12) hx hb d_FB_approve_7 (by decide) ?_
    refine lv_iload_n hx hb d_FB_approve_12 rfl (lv_at hl 3 rfl) ?_
    refine lv_i2l hx hb d_FB_approve_13 rfl ?_
    refine lv_lconst (v := 0) hx hb d_FB_approve_14 (by decide) ?_
    refine lv_ldc2 (own := R_FB) (v := 99) hx hb hown (hG _ k_235) d_FB_approve_15 ?_
    refine rd_calli (va_runS (As := [.long (w0.toInt64), .long 0, .long 99]) (rest := []) ⟨hx, hb, hml, hown, hts⟩ (c_FB_isWithin l dC dI (ctys cs) (va_pl L f) (w0.toInt64) 0 99) (cwS 3 hts (gd_S k_106 k_107 k_14 k_108) rfl rfl rfl (by decide +kernel) ⟨Nat.le_of_ble_eq_true rfl, Nat.le_of_ble_eq_true rfl⟩) (rd_preS hK hN hP) rfl rfl hl.1 rfl (lv_room (Nat.le_of_ble_eq_true rfl)) d_FB_approve_18 ⟨Nat.zero_le _, Nat.zero_le _⟩) (fun r_5 hr_5 => ?_)
    subst hr_5
    refine lb_if_ne (tgt := 27) hx hb d_FB_approve_21 (by decide) (fun c_6 => ?_) (fun c_6 => ?_)
    · obtain ⟨wq, hwq, rfl⟩ := in99 c_6
      have ewq : (nI wq).toNatClampNeg = wq := nI_clamp (by omega)
      refine lv_aload_n hx hb d_FB_approve_27 rfl (lv_at hl 0 rfl) ?_
      refine fw_getN (D := (dC, dI)) (ci := 2) (v := .int (AI 7 j)) (C := R_Pu) (T := F_Pu) (N := 8) hx hb hG iG_Pu hown hK hP hm_y_2 he_y_2 rfl 4 (by decide) (hN.use k_199) (fun _ h9 => h9) rfl d_FB_approve_28 ?_
      refine lv_if_ne (tgt := 45) hx hb d_FB_approve_31 (by decide) (fun c_7 => ?_) (fun c_7 => ?_)
      · refine lv_bipush (v := (-3)) hx hb d_FB_approve_45 (by decide) ?_
        have hcall : m_approve (th, yr, nf, no, nt, bd, nb, fl, AI, AN, AB, AL) (nI j) (nI wq) = ((-3), (0, yr, nf, no, nt, bd, nb, fl, AI, AN, AB, AL)) := (by simp [m_approve, ixn, bI, ej, hi_j, ewq, c_6, c_7] <;> (repeat' apply And.intro) <;> rfl)
        have hcs : CS cs (ad 0 0) (0, yr, nf, no, nt, bd, nb, fl, AI, AN, AB, AL) L f := ⟨n, ad, e0, bl, rx, rfl, hC, hR, hM, hB, hZ⟩
        exact W.iret (v := (-3)) hx hb hr (fun t ht hW => ⟨⟨_, (L, f), rfl, by rw [hcall]; exact ⟨rfl, hcs⟩, by rw [ht]; exact hP, va_K.moved hW.alike hK, hD⟩, hS.F ht⟩) hS.2.2 d_FB_approve_47
      · refine lv_aload_n hx hb d_FB_approve_34 rfl (lv_at hl 0 rfl) ?_
        refine fw_getN (D := (dC, dI)) (ci := 2) (v := .ref (ad 3 j)) (C := R_Pu) (T := F_Pu) (N := 8) hx hb hG iG_Pu hown hK hP hm_y_2 he_y_2 rfl 3 (by decide) (hN.use k_197) (fun _ h9 => h9) rfl d_FB_approve_35 ?_
        refine lv_iload_n hx hb d_FB_approve_38 rfl (lv_at hl 3 rfl) ?_
        refine rd_calli (va_runV (As := [.int (nI wq)]) (rest := []) ⟨hx, hb, hml, hown, hts⟩ (c_Ap_include l dC dI (ctys cs) L f (ad 3 j) (AI 9 j) (bl 0 j) (bl 1 j) (nI wq) hm_y_3 he_y_3) (cwV 1 hts (gd_V k_236 k_237 k_238 k_20 k_239) rfl rfl rfl (by decide +kernel) ⟨Nat.le_of_ble_eq_true rfl, Nat.le_of_ble_eq_true rfl⟩) (fw_preV hK hN hP rfl hm_y_3 he_y_3) rfl rfl hl.1 rfl (lv_room (Nat.le_of_ble_eq_true rfl)) d_FB_approve_39 ⟨Nat.zero_le _, Nat.zero_le _⟩) (fun r_8 hr_8 => ?_)
        subst hr_8
        rw [incl_eq (bl 0 j) (bl 1 j) hwq]
        refine lb_if_eq (tgt := 48) hx hb d_FB_approve_42 (by decide) (fun c_9 => ?_) (fun c_9 => ?_)
        · have hno : ¬ (AI 9 j = 1 ∧ AI 8 j = nI wq) := fun q => by rw [((hB.1 j hj c_7).2 wq hwq).mpr q] at c_9; cases c_9
          rcases (hB.1 j hj c_7).1 with h9 | h9
          · refine lv_aload_n hx hb d_FB_approve_48 rfl (lv_at hl 0 rfl) ?_
            refine fw_getN (D := (dC, dI)) (ci := 2) (v := .ref (ad 3 j)) (C := R_Pu) (T := F_Pu) (N := 8) hx hb hG iG_Pu hown hK hP hm_y_2 he_y_2 rfl 3 (by decide) (hN.use k_197) (fun _ h9 => h9) rfl d_FB_approve_49 ?_
            refine lv_iload_n hx hb d_FB_approve_52 rfl (lv_at hl 3 rfl) ?_
            refine mu_callv (va_runV (As := [.int (nI wq)]) (rest := []) ⟨hx, hb, hml, hown, hts⟩ (c_Ap_add l dC dI (ctys cs) L f _ (ad 3 j) (AI 9 j) (bl 0 j) (bl 1 j) (nI wq) hm_y_3 he_y_3) (cwV 1 hts (gd_V k_243 k_244 k_245 k_20 k_246) rfl rfl rfl (by decide +kernel) ⟨Nat.le_of_ble_eq_true rfl, Nat.le_of_ble_eq_true rfl⟩) (fw_mreV hK hN hP hD rfl hm_y_3 he_y_3) rfl rfl hl.1 rfl (lv_room (Nat.le_of_ble_eq_true rfl)) d_FB_approve_53 ⟨Nat.zero_le _, Nat.zero_le _⟩) hD hS hA (fun ur_10 H locs hr_10 hP hD hS => ?_)
            subst hr_10
            obtain ⟨f_11, ef_11⟩ : ∃ z, z = va_up f (ad 3 j) (.inr (4, [.long (if 64 ≤ (nI wq) then (bl 0 j) else (bl 0 j) ||| bitO (nI wq)), .long (if 64 ≤ (nI wq) then (bl 1 j) ||| bitO (nI wq) else (bl 1 j)), .int ((AI 9 j) + 1)])) := ⟨_, rfl⟩
            have he_12 : f_11 (ad 0 0) = .inr (0, [.ref (ad 0 1), .ref (ad 0 2), .ref (ad 0 3), .ref (ad 0 4), .ref (ad 0 5), .int (nI nf), .int (nI no), .int (nI nt), .int yr, .int bd, .int fl]) := by rw [ef_11, va_up_ne _ _ (fw_ne he00 he_y_3 (show (1 : Nat) ≠ 5 by decide))]; exact he00
            have he_13 : f_11 (ad 0 1) = .inl ((cs 0), 30, .inr (.inr (.inr (.inr (fun i => if i < nf then some (ad 1 i) else none))))) := by rw [ef_11, va_up_ne _ _ (fw_ne he01 he_y_3 (show (0 : Nat) ≠ 5 by decide))]; exact he01
            have he_14 : f_11 (ad 0 2) = .inl ((cs 1), 300, .inr (.inr (.inr (.inr (fun i => if i < no then some (ad 2 i) else none))))) := by rw [ef_11, va_up_ne _ _ (fw_ne he02 he_y_3 (show (0 : Nat) ≠ 5 by decide))]; exact he02
            have he_15 : f_11 (ad 0 3) = .inl ((cs 2), 100, .inr (.inr (.inr (.inr (fun i => if i < nt then some (ad 4 i) else none))))) := by rw [ef_11, va_up_ne _ _ (fw_ne he03 he_y_3 (show (0 : Nat) ≠ 5 by decide))]; exact he03
            have he_16 : f_11 (ad 0 4) = .inl ((cs 3), 10, .inr (.inr (.inr (.inr (fun c => if AN 18 c = 0 then none else some (ad 6 (rx c (AN 18 c - 1)))))))) := by rw [ef_11, va_up_ne _ _ (fw_ne he04 he_y_3 (show (0 : Nat) ≠ 5 by decide))]; exact he04
            have he_17 : f_11 (ad 0 5) = .inr (6, [.ref (ad 0 6), .int (nI nb), .long (m_tot AI nb)]) := by rw [ef_11, va_up_ne _ _ (fw_ne he05 he_y_3 (show (7 : Nat) ≠ 5 by decide))]; exact he05
            have he_18 : f_11 (ad 0 6) = .inl ((cs 4), 20, .inr (.inr (.inr (.inr (fun r => if r < nb then some (ad 1 (AN 22 r)) else none))))) := by rw [ef_11, va_up_ne _ _ (fw_ne he06 he_y_3 (show (0 : Nat) ≠ 5 by decide))]; exact he06
            have he_19 : f_11 (ad 2 j) = .inr (2, [.ref (ad 1 (AN 4 j)), .int (AI 5 j), .int (bI (AB 6 j)), .ref (ad 3 j), .int (AI 7 j), .int (AI 11 j), .int (AI 12 j), .long (AL 10 j)]) := by rw [ef_11, va_up_ne _ _ (fw_ne he_y_2 he_y_3 (show (3 : Nat) ≠ 5 by decide))]; exact he_y_2
            have he_20 : f_11 (ad 3 j) = .inr (4, [.long (if 64 ≤ (nI wq) then (bl 0 j) else (bl 0 j) ||| bitO (nI wq)), .long (if 64 ≤ (nI wq) then (bl 1 j) ||| bitO (nI wq) else (bl 1 j)), .int ((AI 9 j) + 1)]) := by rw [ef_11]; exact va_up_self _ _ _
            have he_21 : f_11 (ad 1 (AN 4 j)) = .inr (1, [.int (nI (AN 4 j)), .int (AI 1 (AN 4 j)), .long (AL 2 (AN 4 j)), .long (m_enc AI AN no (nI (AN 4 j))), .long (AL 3 (AN 4 j)), .long (m_bat AI AN nb (nI (AN 4 j)))]) := by rw [ef_11, va_up_ne _ _ (fw_ne he_y_4 he_y_3 (show (2 : Nat) ≠ 5 by decide))]; exact he_y_4
            have hP : va_P (dC, dI) classes (va_pl L f_11) H := by rw [ef_11]; exact hP
            have hD : va_D A (va_pl L f_11) := by rw [ef_11]; exact hD
            refine lv_aload_n hx hb d_FB_approve_56 rfl (lv_at hl 0 rfl) ?_
            refine fw_getN (D := (dC, dI)) (ci := 2) (v := .ref (ad 3 j)) (C := R_Pu) (T := F_Pu) (N := 8) hx hb hG iG_Pu hown hK hP hm_y_2 he_19 rfl 3 (by decide) (hN.use k_197) (fun _ h9 => h9) rfl d_FB_approve_57 ?_
            refine fw_getN (D := (dC, dI)) (ci := 4) (v := .int ((AI 9 j) + 1)) (C := R_Ap) (T := F_Ap) (N := 3) hx hb hG iG_Ap hown hK hP hm_y_3 he_20 rfl 2 (by decide) (hN.use k_183) (fun _ h9 => h9) rfl d_FB_approve_60 ?_
            refine lv_iconst (v := 2) hx hb d_FB_approve_63 (by decide) ?_
            refine lv_icmp_lt (tgt := 71) hx hb d_FB_approve_64 (by decide) (fun c_22 => ?_) (fun c_22 => ?_)
            · refine lv_aload_n hx hb d_FB_approve_71 rfl (lv_at hl 0 rfl) ?_
              refine fw_getN (D := (dC, dI)) (ci := 2) (v := .ref (ad 3 j)) (C := R_Pu) (T := F_Pu) (N := 8) hx hb hG iG_Pu hown hK hP hm_y_2 he_19 rfl 3 (by decide) (hN.use k_197) (fun _ h9 => h9) rfl d_FB_approve_72 ?_
              refine fw_getN (D := (dC, dI)) (ci := 4) (v := .int ((AI 9 j) + 1)) (C := R_Ap) (T := F_Ap) (N := 3) hx hb hG iG_Ap hown hK hP hm_y_3 he_20 rfl 2 (by decide) (hN.use k_183) (fun _ h9 => h9) rfl d_FB_approve_75 ?_
              have hcall : m_approve (th, yr, nf, no, nt, bd, nb, fl, AI, AN, AB, AL) (nI j) (nI wq) = (((AI 9 j) + 1), (0, yr, nf, no, nt, bd, nb, fl, u2 (u2 AI 8 j (nI wq)) 9 j (AI 9 j + 1), AN, AB, AL)) := (by simp [m_approve, ixn, bI, ej, hi_j, ewq, c_6, c_7, hno, h9] <;> (repeat' apply And.intro) <;> rfl)
              have hcs : CS cs (ad 0 0) (0, yr, nf, no, nt, bd, nb, fl, u2 (u2 AI 8 j (nI wq)) 9 j (AI 9 j + 1), AN, AB, AL) L f_11 := ⟨n, ad, _, _, rx, rfl, (by rw [ef_11]; exact hC.put 3 j _ (by rw [n3]; exact hj) rfl), SR_appr hR j _ _ (nI wq), hM, InvB_ap1 hB hj hwq c_7 h9, hZ⟩
              exact W.iret (v := ((AI 9 j) + 1)) hx hb hr (fun t ht hW => ⟨⟨_, (L, f_11), rfl, by rw [hcall]; exact ⟨rfl, hcs⟩, by rw [ht]; exact hP, va_K.moved hW.alike hK, hD⟩, hS.F ht⟩) hS.2.2 d_FB_approve_78
            · exact absurd (by rw [h9]; decide) c_22
          · have hno8 : ¬ AI 8 j = nI wq := fun q => hno ⟨h9, q⟩
            refine lv_aload_n hx hb d_FB_approve_48 rfl (lv_at hl 0 rfl) ?_
            refine fw_getN (D := (dC, dI)) (ci := 2) (v := .ref (ad 3 j)) (C := R_Pu) (T := F_Pu) (N := 8) hx hb hG iG_Pu hown hK hP hm_y_2 he_y_2 rfl 3 (by decide) (hN.use k_197) (fun _ h9 => h9) rfl d_FB_approve_49 ?_
            refine lv_iload_n hx hb d_FB_approve_52 rfl (lv_at hl 3 rfl) ?_
            refine mu_callv (va_runV (As := [.int (nI wq)]) (rest := []) ⟨hx, hb, hml, hown, hts⟩ (c_Ap_add l dC dI (ctys cs) L f _ (ad 3 j) (AI 9 j) (bl 0 j) (bl 1 j) (nI wq) hm_y_3 he_y_3) (cwV 1 hts (gd_V k_243 k_244 k_245 k_20 k_246) rfl rfl rfl (by decide +kernel) ⟨Nat.le_of_ble_eq_true rfl, Nat.le_of_ble_eq_true rfl⟩) (fw_mreV hK hN hP hD rfl hm_y_3 he_y_3) rfl rfl hl.1 rfl (lv_room (Nat.le_of_ble_eq_true rfl)) d_FB_approve_53 ⟨Nat.zero_le _, Nat.zero_le _⟩) hD hS hA (fun ur_23 H locs hr_23 hP hD hS => ?_)
            subst hr_23
            obtain ⟨f_24, ef_24⟩ : ∃ z, z = va_up f (ad 3 j) (.inr (4, [.long (if 64 ≤ (nI wq) then (bl 0 j) else (bl 0 j) ||| bitO (nI wq)), .long (if 64 ≤ (nI wq) then (bl 1 j) ||| bitO (nI wq) else (bl 1 j)), .int ((AI 9 j) + 1)])) := ⟨_, rfl⟩
            have he_25 : f_24 (ad 0 0) = .inr (0, [.ref (ad 0 1), .ref (ad 0 2), .ref (ad 0 3), .ref (ad 0 4), .ref (ad 0 5), .int (nI nf), .int (nI no), .int (nI nt), .int yr, .int bd, .int fl]) := by rw [ef_24, va_up_ne _ _ (fw_ne he00 he_y_3 (show (1 : Nat) ≠ 5 by decide))]; exact he00
            have he_26 : f_24 (ad 0 1) = .inl ((cs 0), 30, .inr (.inr (.inr (.inr (fun i => if i < nf then some (ad 1 i) else none))))) := by rw [ef_24, va_up_ne _ _ (fw_ne he01 he_y_3 (show (0 : Nat) ≠ 5 by decide))]; exact he01
            have he_27 : f_24 (ad 0 2) = .inl ((cs 1), 300, .inr (.inr (.inr (.inr (fun i => if i < no then some (ad 2 i) else none))))) := by rw [ef_24, va_up_ne _ _ (fw_ne he02 he_y_3 (show (0 : Nat) ≠ 5 by decide))]; exact he02
            have he_28 : f_24 (ad 0 3) = .inl ((cs 2), 100, .inr (.inr (.inr (.inr (fun i => if i < nt then some (ad 4 i) else none))))) := by rw [ef_24, va_up_ne _ _ (fw_ne he03 he_y_3 (show (0 : Nat) ≠ 5 by decide))]; exact he03
            have he_29 : f_24 (ad 0 4) = .inl ((cs 3), 10, .inr (.inr (.inr (.inr (fun c => if AN 18 c = 0 then none else some (ad 6 (rx c (AN 18 c - 1)))))))) := by rw [ef_24, va_up_ne _ _ (fw_ne he04 he_y_3 (show (0 : Nat) ≠ 5 by decide))]; exact he04
            have he_30 : f_24 (ad 0 5) = .inr (6, [.ref (ad 0 6), .int (nI nb), .long (m_tot AI nb)]) := by rw [ef_24, va_up_ne _ _ (fw_ne he05 he_y_3 (show (7 : Nat) ≠ 5 by decide))]; exact he05
            have he_31 : f_24 (ad 0 6) = .inl ((cs 4), 20, .inr (.inr (.inr (.inr (fun r => if r < nb then some (ad 1 (AN 22 r)) else none))))) := by rw [ef_24, va_up_ne _ _ (fw_ne he06 he_y_3 (show (0 : Nat) ≠ 5 by decide))]; exact he06
            have he_32 : f_24 (ad 2 j) = .inr (2, [.ref (ad 1 (AN 4 j)), .int (AI 5 j), .int (bI (AB 6 j)), .ref (ad 3 j), .int (AI 7 j), .int (AI 11 j), .int (AI 12 j), .long (AL 10 j)]) := by rw [ef_24, va_up_ne _ _ (fw_ne he_y_2 he_y_3 (show (3 : Nat) ≠ 5 by decide))]; exact he_y_2
            have he_33 : f_24 (ad 3 j) = .inr (4, [.long (if 64 ≤ (nI wq) then (bl 0 j) else (bl 0 j) ||| bitO (nI wq)), .long (if 64 ≤ (nI wq) then (bl 1 j) ||| bitO (nI wq) else (bl 1 j)), .int ((AI 9 j) + 1)]) := by rw [ef_24]; exact va_up_self _ _ _
            have he_34 : f_24 (ad 1 (AN 4 j)) = .inr (1, [.int (nI (AN 4 j)), .int (AI 1 (AN 4 j)), .long (AL 2 (AN 4 j)), .long (m_enc AI AN no (nI (AN 4 j))), .long (AL 3 (AN 4 j)), .long (m_bat AI AN nb (nI (AN 4 j)))]) := by rw [ef_24, va_up_ne _ _ (fw_ne he_y_4 he_y_3 (show (2 : Nat) ≠ 5 by decide))]; exact he_y_4
            have hP : va_P (dC, dI) classes (va_pl L f_24) H := by rw [ef_24]; exact hP
            have hD : va_D A (va_pl L f_24) := by rw [ef_24]; exact hD
            refine lv_aload_n hx hb d_FB_approve_56 rfl (lv_at hl 0 rfl) ?_
            refine fw_getN (D := (dC, dI)) (ci := 2) (v := .ref (ad 3 j)) (C := R_Pu) (T := F_Pu) (N := 8) hx hb hG iG_Pu hown hK hP hm_y_2 he_32 rfl 3 (by decide) (hN.use k_197) (fun _ h9 => h9) rfl d_FB_approve_57 ?_
            refine fw_getN (D := (dC, dI)) (ci := 4) (v := .int ((AI 9 j) + 1)) (C := R_Ap) (T := F_Ap) (N := 3) hx hb hG iG_Ap hown hK hP hm_y_3 he_33 rfl 2 (by decide) (hN.use k_183) (fun _ h9 => h9) rfl d_FB_approve_60 ?_
            refine lv_iconst (v := 2) hx hb d_FB_approve_63 (by decide) ?_
            refine lv_icmp_lt (tgt := 71) hx hb d_FB_approve_64 (by decide) (fun c_35 => ?_) (fun c_35 => ?_)
            · exact absurd c_35 (by rw [h9]; decide)
            · refine lv_aload_n hx hb d_FB_approve_67 rfl (lv_at hl 0 rfl) ?_
              refine mu_callv (va_runV (As := []) (rest := []) ⟨hx, hb, hml, hown, hts⟩ (c_Pu_place l dC dI (ctys cs) L f_24 _ (ad 2 j) (ad 1 (AN 4 j)) (AI 5 j) (AI 7 j) (AI 11 j) (AI 12 j) (AL 10 j) (ad 3 j) (AB 6 j) (nI (AN 4 j)) (AI 1 (AN 4 j)) (AL 2 (AN 4 j)) (m_enc AI AN no (nI (AN 4 j))) (AL 3 (AN 4 j)) (m_bat AI AN nb (nI (AN 4 j))) hm_y_2 he_32 hm_y_4 he_34) (cwV 0 hts (gd_V k_223 k_224 k_225 k_19 k_226) rfl rfl rfl (by decide +kernel) ⟨Nat.le_of_ble_eq_true rfl, Nat.le_of_ble_eq_true rfl⟩) (fw_mreV hK hN hP hD rfl hm_y_2 he_32) rfl rfl hl.1 rfl (lv_room (Nat.le_of_ble_eq_true rfl)) d_FB_approve_68 ⟨Nat.zero_le _, Nat.zero_le _⟩) hD hS hA (fun ur_36 H locs hr_36 hP hD hS => ?_)
              subst hr_36
              obtain ⟨f_37, ef_37⟩ : ∃ z, z = va_up f_24 (ad 2 j) (.inr (2, [.ref (ad 1 (AN 4 j)), .int (AI 5 j), .int (bI (AB 6 j)), .ref (ad 3 j), .int 1, .int (AI 11 j), .int (AI 12 j), .long (AL 10 j)])) := ⟨_, rfl⟩
              have he_38 : f_37 (ad 0 0) = .inr (0, [.ref (ad 0 1), .ref (ad 0 2), .ref (ad 0 3), .ref (ad 0 4), .ref (ad 0 5), .int (nI nf), .int (nI no), .int (nI nt), .int yr, .int bd, .int fl]) := by rw [ef_37, va_up_ne _ _ (fw_ne he_25 he_32 (show (1 : Nat) ≠ 3 by decide))]; exact he_25
              have he_39 : f_37 (ad 0 1) = .inl ((cs 0), 30, .inr (.inr (.inr (.inr (fun i => if i < nf then some (ad 1 i) else none))))) := by rw [ef_37, va_up_ne _ _ (fw_ne he_26 he_32 (show (0 : Nat) ≠ 3 by decide))]; exact he_26
              have he_40 : f_37 (ad 0 2) = .inl ((cs 1), 300, .inr (.inr (.inr (.inr (fun i => if i < no then some (ad 2 i) else none))))) := by rw [ef_37, va_up_ne _ _ (fw_ne he_27 he_32 (show (0 : Nat) ≠ 3 by decide))]; exact he_27
              have he_41 : f_37 (ad 0 3) = .inl ((cs 2), 100, .inr (.inr (.inr (.inr (fun i => if i < nt then some (ad 4 i) else none))))) := by rw [ef_37, va_up_ne _ _ (fw_ne he_28 he_32 (show (0 : Nat) ≠ 3 by decide))]; exact he_28
              have he_42 : f_37 (ad 0 4) = .inl ((cs 3), 10, .inr (.inr (.inr (.inr (fun c => if AN 18 c = 0 then none else some (ad 6 (rx c (AN 18 c - 1)))))))) := by rw [ef_37, va_up_ne _ _ (fw_ne he_29 he_32 (show (0 : Nat) ≠ 3 by decide))]; exact he_29
              have he_43 : f_37 (ad 0 5) = .inr (6, [.ref (ad 0 6), .int (nI nb), .long (m_tot AI nb)]) := by rw [ef_37, va_up_ne _ _ (fw_ne he_30 he_32 (show (7 : Nat) ≠ 3 by decide))]; exact he_30
              have he_44 : f_37 (ad 0 6) = .inl ((cs 4), 20, .inr (.inr (.inr (.inr (fun r => if r < nb then some (ad 1 (AN 22 r)) else none))))) := by rw [ef_37, va_up_ne _ _ (fw_ne he_31 he_32 (show (0 : Nat) ≠ 3 by decide))]; exact he_31
              have he_45 : f_37 (ad 2 j) = .inr (2, [.ref (ad 1 (AN 4 j)), .int (AI 5 j), .int (bI (AB 6 j)), .ref (ad 3 j), .int 1, .int (AI 11 j), .int (AI 12 j), .long (AL 10 j)]) := by rw [ef_37]; exact va_up_self _ _ _
              have he_46 : f_37 (ad 3 j) = .inr (4, [.long (if 64 ≤ (nI wq) then (bl 0 j) else (bl 0 j) ||| bitO (nI wq)), .long (if 64 ≤ (nI wq) then (bl 1 j) ||| bitO (nI wq) else (bl 1 j)), .int ((AI 9 j) + 1)]) := by rw [ef_37, va_up_ne _ _ (fw_ne he_33 he_32 (show (5 : Nat) ≠ 3 by decide))]; exact he_33
              have he_47 : f_37 (ad 1 (AN 4 j)) = .inr (1, [.int (nI (AN 4 j)), .int (AI 1 (AN 4 j)), .long (AL 2 (AN 4 j)), .long (m_enc AI AN no (nI (AN 4 j))), .long (AL 3 (AN 4 j)), .long (m_bat AI AN nb (nI (AN 4 j)))]) := by rw [ef_37, va_up_ne _ _ (fw_ne he_34 he_32 (show (2 : Nat) ≠ 3 by decide))]; exact he_34
              obtain ⟨f_48, ef_48⟩ : ∃ z, z = va_up f_37 (ad 1 (AN 4 j)) (.inr (1, [.int (nI (AN 4 j)), .int (AI 1 (AN 4 j)), .long (AL 2 (AN 4 j)), .long ((m_enc AI AN no (nI (AN 4 j))) + (AI 5 j).toInt64), .long (AL 3 (AN 4 j)), .long (m_bat AI AN nb (nI (AN 4 j)))])) := ⟨_, rfl⟩
              have he_49 : f_48 (ad 0 0) = .inr (0, [.ref (ad 0 1), .ref (ad 0 2), .ref (ad 0 3), .ref (ad 0 4), .ref (ad 0 5), .int (nI nf), .int (nI no), .int (nI nt), .int yr, .int bd, .int fl]) := by rw [ef_48, va_up_ne _ _ (fw_ne he_38 he_47 (show (1 : Nat) ≠ 2 by decide))]; exact he_38
              have he_50 : f_48 (ad 0 1) = .inl ((cs 0), 30, .inr (.inr (.inr (.inr (fun i => if i < nf then some (ad 1 i) else none))))) := by rw [ef_48, va_up_ne _ _ (fw_ne he_39 he_47 (show (0 : Nat) ≠ 2 by decide))]; exact he_39
              have he_51 : f_48 (ad 0 2) = .inl ((cs 1), 300, .inr (.inr (.inr (.inr (fun i => if i < no then some (ad 2 i) else none))))) := by rw [ef_48, va_up_ne _ _ (fw_ne he_40 he_47 (show (0 : Nat) ≠ 2 by decide))]; exact he_40
              have he_52 : f_48 (ad 0 3) = .inl ((cs 2), 100, .inr (.inr (.inr (.inr (fun i => if i < nt then some (ad 4 i) else none))))) := by rw [ef_48, va_up_ne _ _ (fw_ne he_41 he_47 (show (0 : Nat) ≠ 2 by decide))]; exact he_41
              have he_53 : f_48 (ad 0 4) = .inl ((cs 3), 10, .inr (.inr (.inr (.inr (fun c => if AN 18 c = 0 then none else some (ad 6 (rx c (AN 18 c - 1)))))))) := by rw [ef_48, va_up_ne _ _ (fw_ne he_42 he_47 (show (0 : Nat) ≠ 2 by decide))]; exact he_42
              have he_54 : f_48 (ad 0 5) = .inr (6, [.ref (ad 0 6), .int (nI nb), .long (m_tot AI nb)]) := by rw [ef_48, va_up_ne _ _ (fw_ne he_43 he_47 (show (7 : Nat) ≠ 2 by decide))]; exact he_43
              have he_55 : f_48 (ad 0 6) = .inl ((cs 4), 20, .inr (.inr (.inr (.inr (fun r => if r < nb then some (ad 1 (AN 22 r)) else none))))) := by rw [ef_48, va_up_ne _ _ (fw_ne he_44 he_47 (show (0 : Nat) ≠ 2 by decide))]; exact he_44
              have he_56 : f_48 (ad 2 j) = .inr (2, [.ref (ad 1 (AN 4 j)), .int (AI 5 j), .int (bI (AB 6 j)), .ref (ad 3 j), .int 1, .int (AI 11 j), .int (AI 12 j), .long (AL 10 j)]) := by rw [ef_48, va_up_ne _ _ (fw_ne he_45 he_47 (show (3 : Nat) ≠ 2 by decide))]; exact he_45
              have he_57 : f_48 (ad 3 j) = .inr (4, [.long (if 64 ≤ (nI wq) then (bl 0 j) else (bl 0 j) ||| bitO (nI wq)), .long (if 64 ≤ (nI wq) then (bl 1 j) ||| bitO (nI wq) else (bl 1 j)), .int ((AI 9 j) + 1)]) := by rw [ef_48, va_up_ne _ _ (fw_ne he_46 he_47 (show (5 : Nat) ≠ 2 by decide))]; exact he_46
              have he_58 : f_48 (ad 1 (AN 4 j)) = .inr (1, [.int (nI (AN 4 j)), .int (AI 1 (AN 4 j)), .long (AL 2 (AN 4 j)), .long ((m_enc AI AN no (nI (AN 4 j))) + (AI 5 j).toInt64), .long (AL 3 (AN 4 j)), .long (m_bat AI AN nb (nI (AN 4 j)))]) := by rw [ef_48]; exact va_up_self _ _ _
              have hP : va_P (dC, dI) classes (va_pl L f_48) H := by rw [ef_48, ef_37]; exact hP
              have hD : va_D A (va_pl L f_48) := by rw [ef_48, ef_37]; exact hD
              refine lv_aload_n hx hb d_FB_approve_71 rfl (lv_at hl 0 rfl) ?_
              refine fw_getN (D := (dC, dI)) (ci := 2) (v := .ref (ad 3 j)) (C := R_Pu) (T := F_Pu) (N := 8) hx hb hG iG_Pu hown hK hP hm_y_2 he_56 rfl 3 (by decide) (hN.use k_197) (fun _ h9 => h9) rfl d_FB_approve_72 ?_
              refine fw_getN (D := (dC, dI)) (ci := 4) (v := .int ((AI 9 j) + 1)) (C := R_Ap) (T := F_Ap) (N := 3) hx hb hG iG_Ap hown hK hP hm_y_3 he_57 rfl 2 (by decide) (hN.use k_183) (fun _ h9 => h9) rfl d_FB_approve_75 ?_
              have hcall : m_approve (th, yr, nf, no, nt, bd, nb, fl, AI, AN, AB, AL) (nI j) (nI wq) = (((AI 9 j) + 1), (0, yr, nf, no, nt, bd, nb, fl, u2 (u2 (u2 AI 8 j (AI 8 j)) 9 j (AI 9 j + 1)) 7 j 1, AN, AB, AL)) := (by simp [m_approve, ixn, bI, ej, hi_j, ewq, c_6, c_7, h9, hno8] <;> (repeat' apply And.intro) <;> rfl)
              have hcs : CS cs (ad 0 0) (0, yr, nf, no, nt, bd, nb, fl, u2 (u2 (u2 AI 8 j (AI 8 j)) 9 j (AI 9 j + 1)) 7 j 1, AN, AB, AL) L f_48 := ⟨n, ad, _, _, rx, rfl, (by rw [ef_48, ef_37, ef_24]; exact ((hC.put 3 j _ (by rw [n3]; exact hj) rfl).put 2 j _ (by rw [n2]; exact hj) rfl).put 1 (AN 4 j) _ (by rw [n1]; exact hfu j hj) rfl), SR_place (SR_appr hR j _ _ (AI 8 j)) hnf hfu j hj c_7, hM, InvB_ap2 hB j _ _ _ _, InvS_st hZ j 1 (Or.inr (Or.inl rfl))⟩
              exact W.iret (v := ((AI 9 j) + 1)) hx hb hr (fun t ht hW => ⟨⟨_, (L, f_48), rfl, by rw [hcall]; exact ⟨rfl, hcs⟩, by rw [ht]; exact hP, va_K.moved hW.alike hK, hD⟩, hS.F ht⟩) hS.2.2 d_FB_approve_78
        · have hno := ((hB.1 j hj c_7).2 wq hwq).mp c_9
          refine lv_bipush (v := (-3)) hx hb d_FB_approve_45 (by decide) ?_
          have hcall : m_approve (th, yr, nf, no, nt, bd, nb, fl, AI, AN, AB, AL) (nI j) (nI wq) = ((-3), (0, yr, nf, no, nt, bd, nb, fl, AI, AN, AB, AL)) := (by simp [m_approve, ixn, bI, ej, hi_j, ewq, c_6, c_7, hno] <;> (repeat' apply And.intro) <;> rfl)
          have hcs : CS cs (ad 0 0) (0, yr, nf, no, nt, bd, nb, fl, AI, AN, AB, AL) L f := ⟨n, ad, e0, bl, rx, rfl, hC, hR, hM, hB, hZ⟩
          exact W.iret (v := (-3)) hx hb hr (fun t ht hW => ⟨⟨_, (L, f), rfl, by rw [hcall]; exact ⟨rfl, hcs⟩, by rw [ht]; exact hP, va_K.moved hW.alike hK, hD⟩, hS.F ht⟩) hS.2.2 d_FB_approve_47
    · refine lv_bipush (v := (-2)) hx hb d_FB_approve_24 (by decide) ?_
      have hcall : m_approve (th, yr, nf, no, nt, bd, nb, fl, AI, AN, AB, AL) (nI j) w0 = ((-2), (0, yr, nf, no, nt, bd, nb, fl, AI, AN, AB, AL)) := (by simp [m_approve, ixn, bI, ej, hi_j, c_6] <;> (repeat' apply And.intro) <;> rfl)
      have hcs : CS cs (ad 0 0) (0, yr, nf, no, nt, bd, nb, fl, AI, AN, AB, AL) L f := ⟨n, ad, e0, bl, rx, rfl, hC, hR, hM, hB, hZ⟩
      exact W.iret (v := (-2)) hx hb hr (fun t ht hW => ⟨⟨_, (L, f), rfl, by rw [hcall]; exact ⟨rfl, hcs⟩, by rw [ht]; exact hP, va_K.moved hW.alike hK, hD⟩, hS.F ht⟩) hS.2.2 d_FB_approve_26
