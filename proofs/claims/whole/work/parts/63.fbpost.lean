theorem d_FB_post_0 : decode b_FB_post 0 = .ok (.aload_n 0, 1) := by decide +kernel
theorem d_FB_post_1 : decode b_FB_post 1 = .ok (.getfield 36, 3) := by decide +kernel
theorem d_FB_post_4 : decode b_FB_post 4 = .ok (.getfield 221, 3) := by decide +kernel
theorem d_FB_post_7 : decode b_FB_post 7 = .ok (.istore_n 1, 1) := by decide +kernel
theorem d_FB_post_8 : decode b_FB_post 8 = .ok (.aload_n 0, 1) := by decide +kernel
theorem d_FB_post_9 : decode b_FB_post 9 = .ok (.getfield 36, 3) := by decide +kernel
theorem d_FB_post_12 : decode b_FB_post 12 = .ok (.invokevirtual 222, 3) := by decide +kernel
theorem d_FB_post_15 : decode b_FB_post 15 = .ok (.astore_n 2, 1) := by decide +kernel
theorem d_FB_post_16 : decode b_FB_post 16 = .ok (.aload_n 0, 1) := by decide +kernel
theorem d_FB_post_17 : decode b_FB_post 17 = .ok (.getfield 36, 3) := by decide +kernel
theorem d_FB_post_20 : decode b_FB_post 20 = .ok (.aload_n 2, 1) := by decide +kernel
theorem d_FB_post_21 : decode b_FB_post 21 = .ok (.ifnonnull 7, 3) := by decide +kernel
theorem d_FB_post_24 : decode b_FB_post 24 = .ok (.iconst 1, 1) := by decide +kernel
theorem d_FB_post_25 : decode b_FB_post 25 = .ok (.goto 4, 3) := by decide +kernel
theorem d_FB_post_28 : decode b_FB_post 28 = .ok (.iconst 0, 1) := by decide +kernel
theorem d_FB_post_29 : decode b_FB_post 29 = .ok (.invokevirtual 226, 3) := by decide +kernel
theorem d_FB_post_32 : decode b_FB_post 32 = .ok (.aload_n 2, 1) := by decide +kernel
theorem d_FB_post_33 : decode b_FB_post 33 = .ok (.ifnull 21, 3) := by decide +kernel
theorem d_FB_post_36 : decode b_FB_post 36 = .ok (.aload_n 0, 1) := by decide +kernel
theorem d_FB_post_37 : decode b_FB_post 37 = .ok (.aload_n 2, 1) := by decide +kernel
theorem d_FB_post_38 : decode b_FB_post 38 = .ok (.getfield 230, 3) := by decide +kernel
theorem d_FB_post_41 : decode b_FB_post 41 = .ok (.putfield 44, 3) := by decide +kernel
theorem d_FB_post_44 : decode b_FB_post 44 = .ok (.new 233, 3) := by decide +kernel
theorem d_FB_post_47 : decode b_FB_post 47 = .ok (.dup, 1) := by decide +kernel
theorem d_FB_post_48 : decode b_FB_post 48 = .ok (.ldc 235, 2) := by decide +kernel
theorem d_FB_post_50 : decode b_FB_post 50 = .ok (.invokespecial 237, 3) := by decide +kernel
theorem d_FB_post_53 : decode b_FB_post 53 = .ok (.athrow, 1) := by decide +kernel
theorem d_FB_post_54 : decode b_FB_post 54 = .ok (.iload_n 1, 1) := by decide +kernel
theorem d_FB_post_55 : decode b_FB_post 55 = .ok (.ireturn, 1) := by decide +kernel
set_option maxHeartbeats 4000000 in
set_option maxRecDepth 100000 in
theorem c_FB_post (l : Launch) (dC : Nat → ClassId) (dI : Nat → Nat → Nat) (cs : Nat → ClassId) (o : Nat) (th yr : Int32) (nf no nt : Nat) (bd : Int32) (nb : Nat) (fl : Int32) (AI : Nat → Nat → Int32) (AN : Nat → Nat → Nat) (AB : Nat → Nat → Bool) (AL : Nat → Nat → Int64) (L : List Nat) (f : Nat → va_E) (sz : Nat) (hfl : l.flags = pinnedFlags ++ [noTraceFlag]) (hCS : CS cs o (th, yr, nf, no, nt, bd, nb, fl, AI, AN, AB, AL) L f) : TMet l y_FB_post w_FB_post { frames := 6, cells := 1, slots := 6, locals := 82 } (po_P (dC, dI) classes (ctys cs) (va_pl L f) sz [.ref o]) (qP (dC, dI) classes (ctys cs) (va_A (va_pl L f) sz) cs o (m_post (th, yr, nf, no, nt, bd, nb, fl, AI, AN, AB, AL))) 1 6 (va_A (va_pl L f) sz) := by
  obtain ⟨n, ad, e0, bl, rx, rfl, hC, hR, hM, hB, hZ⟩ := hCS
  obtain ⟨⟨n0, n1, n2, n3, n4, n5⟩, e00, e01, e02, e03, e04, e05, e06, e1, e2, e3, e4, e5, e6⟩ := id hR
  obtain ⟨hnf, hno, hnt, hnb, hfu, hft, hbf, hrw, hce, hdn⟩ := id hM
  have hm00 : ad 0 0 ∈ L := (hC.1 0 0 (by rw [n0]; decide)).1
  have he00 : f (ad 0 0) = .inr (0, [.ref (ad 0 1), .ref (ad 0 2), .ref (ad 0 3), .ref (ad 0 4), .ref (ad 0 5), .int (nI nf), .int (nI no), .int (nI nt), .int yr, .int bd, .int fl]) := (hC.1 0 0 (by rw [n0]; decide)).2.trans e00
  have hm01 : ad 0 1 ∈ L := (hC.1 0 1 (by rw [n0]; decide)).1
  have he01 : f (ad 0 1) = .inl ((cs 0), 30, .inr (.inr (.inr (.inr (fun i => if i < nf then some (ad 1 i) else none))))) := (hC.1 0 1 (by rw [n0]; decide)).2.trans e01
  have hm02 : ad 0 2 ∈ L := (hC.1 0 2 (by rw [n0]; decide)).1
  have he02 : f (ad 0 2) = .inl ((cs 1), 300, .inr (.inr (.inr (.inr (fun i => if i < no then some (ad 2 i) else none))))) := (hC.1 0 2 (by rw [n0]; decide)).2.trans e02
  have hm03 : ad 0 3 ∈ L := (hC.1 0 3 (by rw [n0]; decide)).1
  have he03 : f (ad 0 3) = .inl ((cs 2), 100, .inr (.inr (.inr (.inr (fun i => if i < nt then some (ad 4 i) else none))))) := (hC.1 0 3 (by rw [n0]; decide)).2.trans e03
  have hm04 : ad 0 4 ∈ L := (hC.1 0 4 (by rw [n0]; decide)).1
  have he04 : f (ad 0 4) = .inl ((cs 3), 10, .inr (.inr (.inr (.inr (fun c => if AN 18 c = 0 then none else some (ad 6 (rx c (AN 18 c - 1)))))))) := (hC.1 0 4 (by rw [n0]; decide)).2.trans e04
  have hm05 : ad 0 5 ∈ L := (hC.1 0 5 (by rw [n0]; decide)).1
  have he05 : f (ad 0 5) = .inr (6, [.ref (ad 0 6), .int (nI nb), .long (m_tot AI nb)]) := (hC.1 0 5 (by rw [n0]; decide)).2.trans e05
  have hm06 : ad 0 6 ∈ L := (hC.1 0 6 (by rw [n0]; decide)).1
  have he06 : f (ad 0 6) = .inl ((cs 4), 20, .inr (.inr (.inr (.inr (fun r => if r < nb then some (ad 1 (AN 22 r)) else none))))) := (hC.1 0 6 (by rw [n0]; decide)).2.trans e06
  generalize hvv : m_post (th, yr, nf, no, nt, bd, nb, fl, AI, AN, AB, AL) = vv
  refine TMet.ofW (cc := b_FB_post) (maxL := 3) (ret := (some .int)) (by decide) rfl ?_
  intro p e s m args below meth c s₁ B hml hv
  obtain ⟨⟨rfl, hsz, hP, hK, hD0, hN⟩, hXK⟩ := hv
  have hx := B.exec
  have hb := B.bytes
  have hr := B.returns
  have hts := atoms_spec (ws := w_FB_post) B.pre
  have hG := fun (w : Cond) (h : w ∈ wG) => hts w (List.mem_cons_of_mem _ h)
  have hown : s.vm.findClass R_FB = some m.cls := findClass_of_methodNamed B.named
  have hlocks := B.notSynchronized
  subst hsz
  have hD := hD0.self (sz := s.heap.size)
  generalize hAe : va_A (va_pl L f) s.heap.size = A at hD ⊢
  have hA : ∀ q : Nat, s.heap.size ≤ q → A q := fun q h => by rw [← hAe]; exact Or.inr h
  have hS : va_S A s.heap s.heap [] := va_S.rf
  have hP : va_P (dC, dI) classes (va_pl L f) s.heap := hP
  have hl := lv_entry ([.ref (ad 0 0)]) (n := 3) (Nat.le_of_ble_eq_true rfl)
  rw [lg_entry_eq]
  generalize (lg_sl ([.ref (ad 0 0)]) ++ List.replicate (3 - (lg_sl ([.ref (ad 0 0)])).length) Slot.unset).toArray = ls at hl ⊢
  have hl : lv_has ls 3 [(0, .ref (ad 0 0))] := hl
  have hP0 := hP
  refine lv_aload_n hx hb d_FB_post_0 rfl (lv_at hl 0 rfl) ?_
  refine fw_get (D := (dC, dI)) (ci := 0) (v := .ref (ad 0 5)) (C := R_FB) (T := F_FB) (N := 11) hx hb hG iG_FB hown hK hP hm00 he00 rfl 4 (by decide) (hG _ k_71) (fun _ h9 => h9) rfl d_FB_post_1 ?_
  refine fw_getN (D := (dC, dI)) (ci := 6) (v := .int (nI nb)) (C := R_Ba) (T := F_Ba) (N := 3) hx hb hG iG_Ba hown hK hP hm05 he05 rfl 1 (by decide) (hN.use k_52) (fun _ h9 => h9) rfl d_FB_post_4 ?_
  refine lv_istore_n (lv' := [(1, .int (nI nb)), (0, .ref (ad 0 0))]) hx hb d_FB_post_7 rfl hl (by decide) rfl (fun ls hl => ?_)
  refine lv_aload_n hx hb d_FB_post_8 rfl (lv_at hl 1 rfl) ?_
  refine fw_get (D := (dC, dI)) (ci := 0) (v := .ref (ad 0 5)) (C := R_FB) (T := F_FB) (N := 11) hx hb hG iG_FB hown hK hP hm00 he00 rfl 4 (by decide) (hG _ k_71) (fun _ h9 => h9) rfl d_FB_post_9 ?_
  refine rd_callq (va_runV (As := []) (rest := []) ⟨hx, hb, hml, hown, hts⟩ (c_Ba_culprit l dC dI cs th yr nf no nt bd nb fl AI AN AB AL L f n ad e0 bl rx  hC hR hM hB hZ) (cwV 0 hts (gd_V k_442 k_443 k_444 k_15 k_445) rfl rfl rfl (by decide +kernel) ⟨Nat.le_of_ble_eq_true rfl, Nat.le_of_ble_eq_true rfl⟩) (fw_preV hK hN hP rfl hm05 he05) rfl rfl hl.1 rfl (lv_room (Nat.le_of_ble_eq_true rfl)) d_FB_post_12 ⟨Nat.zero_le _, Nat.zero_le _⟩) (fun r_1 hr_1 => ?_)
  rcases hbd : m_bad AI AN AL no nb with _ | r
  · rw [hbd] at hr_1
    subst hr_1
    refine W.eq (g2 := F0 m 15 ls [.null]) rfl ?_
    refine lv_astore_nN (lv' := [(2, .null), (1, .int (nI nb)), (0, .ref (ad 0 0))]) hx hb d_FB_post_15 rfl hl (by decide) rfl (fun ls hl => ?_)
    refine lv_aload_n hx hb d_FB_post_16 rfl (lv_at hl 2 rfl) ?_
    refine fw_get (D := (dC, dI)) (ci := 0) (v := .ref (ad 0 5)) (C := R_FB) (T := F_FB) (N := 11) hx hb hG iG_FB hown hK hP hm00 he00 rfl 4 (by decide) (hG _ k_71) (fun _ h9 => h9) rfl d_FB_post_17 ?_
    refine lv_aload_nN hx hb d_FB_post_20 rfl (lv_at hl 0 rfl) ?_
    refine lv_ifnonnullN hx hb d_FB_post_21 ?_
    refine lv_iconst (v := 1) hx hb d_FB_post_24 (by decide) ?_
    refine lv_goto (tgt := 29) hx hb d_FB_post_25 (by decide) ?_
    refine lv_topI (y := bI true) rfl ?_
    refine mu_callv (va_runV (As := [.int (bI true)]) (rest := []) ⟨hx, hb, hml, hown, hts⟩ (c_Ba_empty l dC dI cs th yr nf no nt bd nb fl AI AN AB AL L f n ad e0 bl rx _ true hC hR hM hB hZ) (cwV 1 hts (gd_V k_447 k_448 k_449 k_15 k_450) rfl rfl rfl (by decide +kernel) ⟨Nat.le_of_ble_eq_true rfl, Nat.le_of_ble_eq_true rfl⟩) (fw_mreV hK hN hP hD rfl hm05 he05) rfl rfl hl.1 rfl (lv_room (Nat.le_of_ble_eq_true rfl)) d_FB_post_29 ⟨Nat.zero_le _, Nat.zero_le _⟩) hD hS hA (fun ur_2 H locs hr_2 hP hD hS => ?_)
    obtain ⟨L1, f1⟩ := ur_2
    obtain ⟨e9, hLL, hX⟩ := hr_2
    dsimp only at hLL hX
    simp only [Bool.false_eq_true, if_false, if_true] at hX
    have hP : va_P (dC, dI) classes (va_pl L f1) H := by rw [← hLL]; exact hP
    have hD : va_D A (va_pl L f1) := by rw [← hLL]; exact hD
    have hmo : ad 0 0 ∈ L := (hX.1.1 0 0 (by rw [n0]; decide)).1
    have heo : f1 (ad 0 0) = .inr (0, [.ref (ad 0 1), .ref (ad 0 2), .ref (ad 0 3), .ref (ad 0 4), .ref (ad 0 5), .int (nI nf), .int (nI no), .int (nI nt), .int yr, .int bd, .int fl]) := (hX.1.1 0 0 (by rw [n0]; decide)).2.trans hX.2.1.2.1
    refine lv_aload_nN hx hb d_FB_post_32 rfl (lv_at hl 0 rfl) ?_
    refine lv_ifnullN (tgt := 54) hx hb d_FB_post_33 (by decide) ?_
    refine lv_iload_n hx hb d_FB_post_54 rfl (lv_at hl 1 rfl) ?_
    rw [post_none hbd] at hvv
    subst hvv
    refine th_mono (fun t h => th_of_MQ t h) ?_
    refine W.widen (k := 1) (n := 6) (Nat.le_of_ble_eq_true rfl) (Nat.le_of_ble_eq_true rfl) ?_
    exact W.iret (v := nI nb) hx hb hr (fun t ht hW => ⟨⟨(L, f1), ⟨n, ad, e9, bl, rx, rfl, hX⟩, Or.inl ⟨rfl, rfl⟩, by rw [ht]; exact hP, va_K.moved hW.alike hK, hD⟩, hS.F ht⟩) hS.2.2 d_FB_post_55
  · rw [hbd] at hr_1
    subst hr_1
    refine W.eq (g2 := F0 m 15 ls [.ref (ad 1 (AN 22 r))]) rfl ?_
    have hrb := bad_lt hbd
    have hrf := hbf r hrb
    refine lv_astore_n (lv' := [(2, .ref (ad 1 (AN 22 r))), (1, .int (nI nb)), (0, .ref (ad 0 0))]) hx hb d_FB_post_15 rfl hl (by decide) rfl (fun ls hl => ?_)
    refine lv_aload_n hx hb d_FB_post_16 rfl (lv_at hl 2 rfl) ?_
    refine fw_get (D := (dC, dI)) (ci := 0) (v := .ref (ad 0 5)) (C := R_FB) (T := F_FB) (N := 11) hx hb hG iG_FB hown hK hP hm00 he00 rfl 4 (by decide) (hG _ k_71) (fun _ h9 => h9) rfl d_FB_post_17 ?_
    refine lv_aload_n hx hb d_FB_post_20 rfl (lv_at hl 0 rfl) ?_
    refine lv_ifnonnull (tgt := 28) hx hb d_FB_post_21 (by decide) ?_
    refine lv_iconst (v := 0) hx hb d_FB_post_28 (by decide) ?_
    refine lv_topI (y := bI false) rfl ?_
    refine mu_callv (va_runV (As := [.int (bI false)]) (rest := []) ⟨hx, hb, hml, hown, hts⟩ (c_Ba_empty l dC dI cs th yr nf no nt bd nb fl AI AN AB AL L f n ad e0 bl rx _ false hC hR hM hB hZ) (cwV 1 hts (gd_V k_447 k_448 k_449 k_15 k_450) rfl rfl rfl (by decide +kernel) ⟨Nat.le_of_ble_eq_true rfl, Nat.le_of_ble_eq_true rfl⟩) (fw_mreV hK hN hP hD rfl hm05 he05) rfl rfl hl.1 rfl (lv_room (Nat.le_of_ble_eq_true rfl)) d_FB_post_29 ⟨Nat.zero_le _, Nat.zero_le _⟩) hD hS hA (fun ur_3 H locs hr_3 hP hD hS => ?_)
    obtain ⟨L1, f1⟩ := ur_3
    obtain ⟨e9, hLL, hX⟩ := hr_3
    dsimp only at hLL hX
    simp only [Bool.false_eq_true, if_false, if_true] at hX
    have hP : va_P (dC, dI) classes (va_pl L f1) H := by rw [← hLL]; exact hP
    have hD : va_D A (va_pl L f1) := by rw [← hLL]; exact hD
    have hmo : ad 0 0 ∈ L := (hX.1.1 0 0 (by rw [n0]; decide)).1
    have heo : f1 (ad 0 0) = .inr (0, [.ref (ad 0 1), .ref (ad 0 2), .ref (ad 0 3), .ref (ad 0 4), .ref (ad 0 5), .int (nI nf), .int (nI no), .int (nI nt), .int yr, .int bd, .int fl]) := (hX.1.1 0 0 (by rw [n0]; decide)).2.trans hX.2.1.2.1
    obtain ⟨-, -, -, -, -, -, -, -, e1X, -⟩ := id hX.2.1
    have hma : ad 1 (AN 22 r) ∈ L := (hX.1.1 1 (AN 22 r) (by rw [n1]; exact hrf)).1
    have hea : f1 (ad 1 (AN 22 r)) = .inr (1, [.int (nI (AN 22 r)), .int (AI 1 (AN 22 r)), .long (AL 2 (AN 22 r)), .long (m_enc AI AN no (nI (AN 22 r))), .long (AL 3 (AN 22 r)), .long (m_bat AI AN 0 (nI (AN 22 r)))]) := (hX.1.1 1 (AN 22 r) (by rw [n1]; exact hrf)).2.trans (e1X (AN 22 r) hrf)
    refine lv_aload_n hx hb d_FB_post_32 rfl (lv_at hl 0 rfl) ?_
    refine lv_ifnull hx hb d_FB_post_33 ?_
    refine lv_aload_n hx hb d_FB_post_36 rfl (lv_at hl 2 rfl) ?_
    refine lv_aload_n hx hb d_FB_post_37 rfl (lv_at hl 0 rfl) ?_
    refine fw_getN (D := (dC, dI)) (ci := 1) (v := .int (nI (AN 22 r))) (C := R_Ac) (T := F_Ac) (N := 6) hx hb hG iG_Ac hown hK hP hma hea rfl 0 (by decide) (hN.use k_115) (fun _ h9 => h9) rfl d_FB_post_38 ?_
    refine fw_put (D := (dC, dI)) (ci := 0) (v := .int (nI (AN 22 r))) (ty := .int) (C := R_FB) (T := F_FB) (N := 11) hx hb hG iG_FB t_FB t_FB_ok n_FB hown hK hP hD hS hmo heo rfl 10 (by decide) (hG _ k_77) (fun _ h9 => h9) rfl (by decide +kernel) rfl rfl (Nat.le_of_ble_eq_true rfl) d_FB_post_41 (fun H locs hP hD hS => ?_)
    obtain ⟨f_4, ef_4⟩ : ∃ z, z = va_up f1 (ad 0 0) (.inr (0, [.ref (ad 0 1), .ref (ad 0 2), .ref (ad 0 3), .ref (ad 0 4), .ref (ad 0 5), .int (nI nf), .int (nI no), .int (nI nt), .int yr, .int bd, .int (nI (AN 22 r))])) := ⟨_, rfl⟩
    have he_5 : f_4 (ad 0 0) = .inr (0, [.ref (ad 0 1), .ref (ad 0 2), .ref (ad 0 3), .ref (ad 0 4), .ref (ad 0 5), .int (nI nf), .int (nI no), .int (nI nt), .int yr, .int bd, .int (nI (AN 22 r))]) := by rw [ef_4]; exact va_up_self _ _ _
    have he_6 : f_4 (ad 1 (AN 22 r)) = .inr (1, [.int (nI (AN 22 r)), .int (AI 1 (AN 22 r)), .long (AL 2 (AN 22 r)), .long (m_enc AI AN no (nI (AN 22 r))), .long (AL 3 (AN 22 r)), .long (m_bat AI AN 0 (nI (AN 22 r)))]) := by rw [ef_4, va_up_ne _ _ (fw_ne hea heo (show (2 : Nat) ≠ 1 by decide))]; exact hea
    have hP : va_P (dC, dI) classes (va_pl L f_4) H := by rw [ef_4]; exact hP
    have hD : va_D A (va_pl L f_4) := by rw [ef_4]; exact hD
    intro T hT X
    obtain ⟨U, a, ce, hsteps, hrun, hend, hWU, hsame, hsz9, hkp, hce, hst9, hcl9, hasg⟩ := th_raise X hfl hx hb (by rw [hml]; exact hl.1) hown hlocks hG hXK (fun q x h1 h2 => by rw [hT]; exact pl_stat hP0 hAe hS q x h1 h2) (B.noHandlers (hts _ List.mem_cons_self)) d_FB_post_44 d_FB_post_47 d_FB_post_48 d_FB_post_50 d_FB_post_53 (Nat.le_of_ble_eq_true rfl) (Nat.le_of_ble_eq_true rfl) (Nat.le_of_ble_eq_true rfl) (Nat.le_of_ble_eq_true rfl)
    rw [hT] at hsz9 hkp
    rw [post_some hbd] at hvv
    subst hvv
    have hcs : CS cs (ad 0 0) (1, yr, nf, no, nt, bd, 0, nI (AN 22 r), AI, AN, AB, AL) L f_4 := ⟨n, ad, _, bl, rx, rfl, (by rw [ef_4]; exact hX.1.put 0 0 _ (by rw [n0]; decide) rfl), SR_fail hX.2.1 (nI (AN 22 r)), hX.2.2⟩
    refine ⟨U, hsteps, .threw a, hrun, hend, ⟨⟨(L, f_4), hcs, Or.inr ⟨a, ce, rfl, rfl, hce, hst9, by rw [hWU.alike.findClass]; exact hcl9, by rw [hWU.alike.assignable]; exact hasg⟩, fun k q hq => (hP k q hq).kept (hkp q.1 (hP k q hq).lt), va_K.moved hWU.alike hK, hD⟩, Nat.le_trans hS.1 hsz9, fun q h1 h2 => (hkp q (Nat.lt_of_lt_of_le h1 hS.1)).trans (hS.2.1 q h1 h2)⟩, hWU, locs, hsame, hS.2.2⟩
