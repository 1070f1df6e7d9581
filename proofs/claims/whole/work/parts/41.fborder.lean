theorem d_FB_order_0 : decode b_FB_order 0 = .ok (.aload_n 0, 1) := by decide +kernel
theorem d_FB_order_1 : decode b_FB_order 1 = .ok (.iload_n 1, 1) := by decide +kernel
theorem d_FB_order_2 : decode b_FB_order 2 = .ok (.invokevirtual 71, 3) := by decide +kernel
theorem d_FB_order_5 : decode b_FB_order 5 = .ok (.astore 4, 2) := by decide +kernel
theorem d_FB_order_7 : decode b_FB_order 7 = .ok (.aload 4, 2) := by decide +kernel
theorem d_FB_order_9 : decode b_FB_order 9 = .ok (.ifnonnull 5, 3) := by decide +kernel
theorem d_FB_order_12 : decode b_FB_order 12 = .ok (.iconst (-1), 1) := by decide +kernel
theorem d_FB_order_13 : decode b_FB_order 13 = .ok (.ireturn, 1) := by decide +kernel
theorem d_FB_order_14 : decode b_FB_order 14 = .ok (.iload_n 2, 1) := by decide +kernel
theorem d_FB_order_15 : decode b_FB_order 15 = .ok (.i2l, 1) := by decide +kernel
theorem d_FB_order_16 : decode b_FB_order 16 = .ok (.lconst 1, 1) := by decide +kernel
theorem d_FB_order_17 : decode b_FB_order 17 = .ok (.ldc2_w 84, 3) := by decide +kernel
theorem d_FB_order_20 : decode b_FB_order 20 = .ok (.invokestatic 61, 3) := by decide +kernel
theorem d_FB_order_23 : decode b_FB_order 23 = .ok (.ifCond .ne 6, 3) := by decide +kernel
theorem d_FB_order_26 : decode b_FB_order 26 = .ok (.bipush (-2), 2) := by decide +kernel
theorem d_FB_order_28 : decode b_FB_order 28 = .ok (.ireturn, 1) := by decide +kernel
theorem d_FB_order_29 : decode b_FB_order 29 = .ok (.aload_n 0, 1) := by decide +kernel
theorem d_FB_order_30 : decode b_FB_order 30 = .ok (.getfield 86, 3) := by decide +kernel
theorem d_FB_order_33 : decode b_FB_order 33 = .ok (.aload_n 0, 1) := by decide +kernel
theorem d_FB_order_34 : decode b_FB_order 34 = .ok (.getfield 17, 3) := by decide +kernel
theorem d_FB_order_37 : decode b_FB_order 37 = .ok (.arraylength, 1) := by decide +kernel
theorem d_FB_order_38 : decode b_FB_order 38 = .ok (.if_icmp .lt 6, 3) := by decide +kernel
theorem d_FB_order_41 : decode b_FB_order 41 = .ok (.bipush (-4), 2) := by decide +kernel
theorem d_FB_order_43 : decode b_FB_order 43 = .ok (.ireturn, 1) := by decide +kernel
theorem d_FB_order_44 : decode b_FB_order 44 = .ok (.aload_n 0, 1) := by decide +kernel
theorem d_FB_order_45 : decode b_FB_order 45 = .ok (.getfield 86, 3) := by decide +kernel
theorem d_FB_order_48 : decode b_FB_order 48 = .ok (.istore 5, 2) := by decide +kernel
theorem d_FB_order_50 : decode b_FB_order 50 = .ok (.new 15, 3) := by decide +kernel
theorem d_FB_order_53 : decode b_FB_order 53 = .ok (.dup, 1) := by decide +kernel
theorem d_FB_order_54 : decode b_FB_order 54 = .ok (.aload 4, 2) := by decide +kernel
theorem d_FB_order_56 : decode b_FB_order 56 = .ok (.iload_n 2, 1) := by decide +kernel
theorem d_FB_order_57 : decode b_FB_order 57 = .ok (.iload_n 3, 1) := by decide +kernel
theorem d_FB_order_58 : decode b_FB_order 58 = .ok (.invokespecial 89, 3) := by decide +kernel
theorem d_FB_order_61 : decode b_FB_order 61 = .ok (.astore 6, 2) := by decide +kernel
theorem d_FB_order_63 : decode b_FB_order 63 = .ok (.aload_n 0, 1) := by decide +kernel
theorem d_FB_order_64 : decode b_FB_order 64 = .ok (.getfield 17, 3) := by decide +kernel
theorem d_FB_order_67 : decode b_FB_order 67 = .ok (.iload 5, 2) := by decide +kernel
theorem d_FB_order_69 : decode b_FB_order 69 = .ok (.aload 6, 2) := by decide +kernel
theorem d_FB_order_71 : decode b_FB_order 71 = .ok (.aastore, 1) := by decide +kernel
theorem d_FB_order_72 : decode b_FB_order 72 = .ok (.aload_n 0, 1) := by decide +kernel
theorem d_FB_order_73 : decode b_FB_order 73 = .ok (.dup, 1) := by decide +kernel
theorem d_FB_order_74 : decode b_FB_order 74 = .ok (.getfield 86, 3) := by decide +kernel
theorem d_FB_order_77 : decode b_FB_order 77 = .ok (.iconst 1, 1) := by decide +kernel
theorem d_FB_order_78 : decode b_FB_order 78 = .ok (.iadd, 1) := by decide +kernel
theorem d_FB_order_79 : decode b_FB_order 79 = .ok (.putfield 86, 3) := by decide +kernel
theorem d_FB_order_82 : decode b_FB_order 82 = .ok (.iload_n 2, 1) := by decide +kernel
theorem d_FB_order_83 : decode b_FB_order 83 = .ok (.i2l, 1) := by decide +kernel
theorem d_FB_order_84 : decode b_FB_order 84 = .ok (.aload 4, 2) := by decide +kernel
theorem d_FB_order_86 : decode b_FB_order 86 = .ok (.invokevirtual 92, 3) := by decide +kernel
theorem d_FB_order_89 : decode b_FB_order 89 = .ok (.lcmp, 1) := by decide +kernel
theorem d_FB_order_90 : decode b_FB_order 90 = .ok (.ifCond .le 9, 3) := by decide +kernel
theorem d_FB_order_93 : decode b_FB_order 93 = .ok (.bipush (-10), 2) := by decide +kernel
theorem d_FB_order_95 : decode b_FB_order 95 = .ok (.iload 5, 2) := by decide +kernel
theorem d_FB_order_97 : decode b_FB_order 97 = .ok (.isub, 1) := by decide +kernel
theorem d_FB_order_98 : decode b_FB_order 98 = .ok (.ireturn, 1) := by decide +kernel
theorem d_FB_order_99 : decode b_FB_order 99 = .ok (.aload 6, 2) := by decide +kernel
theorem d_FB_order_101 : decode b_FB_order 101 = .ok (.invokevirtual 96, 3) := by decide +kernel
theorem d_FB_order_104 : decode b_FB_order 104 = .ok (.iload 5, 2) := by decide +kernel
theorem d_FB_order_106 : decode b_FB_order 106 = .ok (.ireturn, 1) := by decide +kernel
set_option maxHeartbeats 4000000 in
set_option maxRecDepth 100000 in
theorem c_FB_order (l : Launch) (dC : Nat → ClassId) (dI : Nat → Nat → Nat) (cs : Nat → ClassId) (o : Nat) (th yr : Int32) (nf no nt : Nat) (bd : Int32) (nb : Nat) (fl : Int32) (AI : Nat → Nat → Int32) (AN : Nat → Nat → Nat) (AB : Nat → Nat → Bool) (AL : Nat → Nat → Int64) (L : List Nat) (f : Nat → va_E) (sz : Nat) (fd c0 : Int32) (st : Bool) (hCS : CS cs o (th, yr, nf, no, nt, bd, nb, fl, AI, AN, AB, AL) L f) : Met l y_FB_order w_FB_order { frames := 3, cells := 2, slots := 11, locals := 55 } (mu_P (dC, dI) classes (ctys cs) (va_pl L f) sz [.ref o, .int fd, .int c0, .int (bI st)]) (va_Qi (fun r u => r = (m_order (th, yr, nf, no, nt, bd, nb, fl, AI, AN, AB, AL) fd c0 st).1 ∧ CS cs o (m_order (th, yr, nf, no, nt, bd, nb, fl, AI, AN, AB, AL) fd c0 st).2 u.1 u.2) (mu_B (dC, dI) classes (ctys cs) (va_A (va_pl L f) sz) fw_w) (va_A (va_pl L f) sz)) 2 11 (va_A (va_pl L f) sz) := by
  obtain ⟨n, ad, e0, bl, rx, rfl, hC, hR, hM, hB, hZ⟩ := hCS
  obtain ⟨⟨n0, n1, n2, n3, n4, n5⟩, e00, e01, e02, e03, e04, e05, e06, e1, e2, e3, e4, e5, e6⟩ := id hR
  obtain ⟨hnf, hno, hnt, hnb, hfu, hft, hbf, hrw, hce, hdn⟩ := id hM
  have hm00 : ad 0 0 ∈ L := (hC.1 0 0 (by rw [n0]; decide)).1
  have he00 : f (ad 0 0) = .inr (0, [.ref (ad 0 1), .ref (ad 0 2), .ref (ad 0 3), .ref (ad 0 4), .ref (ad 0 5), .int (nI nf), .int (nI no), .int (nI nt), .int yr, .int bd, .int fl]) := (hC.1 0 0 (by rw [n0]; decide)).2.trans e00
  have hm01 : ad 0 1 ∈ L := (hC.1 0 1 (by rw [n0]; decide)).1
  have he01 : f (ad 0 1) = .inl ((cs 0), 30, .inr (.inr (.inr (.inr (fun i => if i < nf then some (ad 1 i) else none))))) := (hC.1 0 1 (by rw [n0]; decide)).2.trans e01
  have hm02 : ad 0 2 ∈ L := (hC.1 0 2 (by rw [n0]; decide)).1
  have he02 : f (ad 0 2) = .inl ((cs 1), 300, .inr (.inr (.inr (.inr (fun i => if i < no then some (ad 2 i) else none))))) := (hC.1 0 2 (by rw [n0]; decide)).2.trans e02
  have hm03 : ad 0 3 ∈ L := (hC.1 0 3 (by rw [n0]; decide)).1
  have he03 : f (ad 0 3) = .inl ((cs 2), 100, .inr (.inr (.inr (.inr (fun i => if i < nt then some (ad 4 i) else none))))) := (hC.1 0 3 (by rw [n0]; decide)).2.trans e03
  have hm04 : ad 0 4 ∈ L := (hC.1 0 4 (by rw [n0]; decide)).1
  have he04 : f (ad 0 4) = .inl ((cs 3), 10, .inr (.inr (.inr (.inr (fun c => if AN 18 c = 0 then none else some (ad 6 (rx c (AN 18 c - 1)))))))) := (hC.1 0 4 (by rw [n0]; decide)).2.trans e04
  have hm05 : ad 0 5 ∈ L := (hC.1 0 5 (by rw [n0]; decide)).1
  have he05 : f (ad 0 5) = .inr (6, [.ref (ad 0 6), .int (nI nb), .long (m_tot AI nb)]) := (hC.1 0 5 (by rw [n0]; decide)).2.trans e05
  have hm06 : ad 0 6 ∈ L := (hC.1 0 6 (by rw [n0]; decide)).1
  have he06 : f (ad 0 6) = .inl ((cs 4), 20, .inr (.inr (.inr (.inr (fun r => if r < nb then some (ad 1 (AN 22 r)) else none))))) := (hC.1 0 6 (by rw [n0]; decide)).2.trans e06
  refine Met.ofW (cc := b_FB_order) (maxL := 7) (ret := (some .int)) (by decide) rfl ?_
  intro p e s m args below meth c s₁ B hml hv
  obtain ⟨rfl, hsz, hP, hK, hD0, hN⟩ := hv
  have hx := B.exec
  have hb := B.bytes
  have hr := B.returns
  have hts := atoms_spec (ws := w_FB_order) B.pre
  have hG := fun (w : Cond) (h : w ∈ wG) => hts w (List.mem_cons_of_mem _ h)
  have hown : s.vm.findClass R_FB = some m.cls := findClass_of_methodNamed B.named
  have hlocks := B.notSynchronized
  subst hsz
  have hD := hD0.self (sz := s.heap.size)
  generalize hAe : va_A (va_pl L f) s.heap.size = A at hD ⊢
  have hA : ∀ q : Nat, s.heap.size ≤ q → A q := fun q h => by rw [← hAe]; exact Or.inr h
  have hS : va_S A s.heap s.heap [] := va_S.rf
  have hP : va_P (dC, dI) classes (va_pl L f) s.heap := hP
  have hl := lv_entry ([.ref (ad 0 0), .int fd, .int c0, .int (bI st)]) (n := 7) (Nat.le_of_ble_eq_true rfl)
  rw [lg_entry_eq]
  generalize (lg_sl ([.ref (ad 0 0), .int fd, .int c0, .int (bI st)]) ++ List.replicate (7 - (lg_sl ([.ref (ad 0 0), .int fd, .int c0, .int (bI st)])).length) Slot.unset).toArray = ls at hl ⊢
  have hl : lv_has ls 7 [(0, .ref (ad 0 0)), (1, .int fd), (2, .int c0), (3, .int (bI st))] := hl
  refine lv_aload_n hx hb d_FB_order_0 rfl (lv_at hl 0 rfl) ?_
  refine lv_iload_n hx hb d_FB_order_1 rfl (lv_at hl 1 rfl) ?_
  refine rd_callq (va_runV (As := [.int fd]) (rest := []) ⟨hx, hb, hml, hown, hts⟩ (c_FB_accountAt l dC dI (ctys cs) L f (ad 0 0) (ad 0 1) (nI nf) (nI no) (nI nt) yr bd fl (ad 0 2) (ad 0 3) (ad 0 4) (ad 0 5) (cs 0) (fun i => if i < nf then some (ad 1 i) else none) fd hm00 he00 hm01 he01 rfl) (cwV 1 hts (gd_V k_145 k_147 k_0 k_14 k_148) rfl rfl rfl (by decide +kernel) ⟨Nat.le_of_ble_eq_true rfl, Nat.le_of_ble_eq_true rfl⟩) (fw_preV hK hN hP rfl hm00 he00) rfl rfl hl.1 rfl (lv_room (Nat.le_of_ble_eq_true rfl)) d_FB_order_2 ⟨Nat.zero_le _, Nat.zero_le _⟩) (fun r_1 hr_1 => ?_)
  rcases at_cases hnf (by decide) hr_1 with ⟨hq_fd, rfl⟩ | ⟨j, hj, rfl, rfl⟩
  · refine W.eq (g2 := F0 m 5 ls [.null]) rfl ?_
    refine lv_astoreN (lv' := [(4, .null), (0, .ref (ad 0 0)), (1, .int fd), (2, .int c0), (3, .int (bI st))]) hx hb d_FB_order_5 hl (by decide) rfl (fun ls hl => ?_)
    refine lv_aloadN hx hb d_FB_order_7 (lv_at hl 0 rfl) ?_
    refine lv_ifnonnullN hx hb d_FB_order_9 ?_
    refine lv_iconst (v := (-1)) hx hb d_FB_order_12 (by decide) ?_
    have hcall : m_order (th, yr, nf, no, nt, bd, nb, fl, AI, AN, AB, AL) fd c0 st = ((-1), (0, yr, nf, no, nt, bd, nb, fl, AI, AN, AB, AL)) := (by simp [m_order, ixn, bI, hq_fd] <;> (repeat' apply And.intro) <;> rfl)
    have hcs : CS cs (ad 0 0) (0, yr, nf, no, nt, bd, nb, fl, AI, AN, AB, AL) L f := ⟨n, ad, e0, bl, rx, rfl, hC, hR, hM, hB, hZ⟩
    refine W.widen (k := 2) (n := 11) (Nat.le_of_ble_eq_true rfl) (Nat.le_of_ble_eq_true rfl) ?_
    exact W.iret (v := (-1)) hx hb hr (fun t ht hW => ⟨⟨_, (L, f), rfl, by rw [hcall]; exact ⟨rfl, hcs⟩, by rw [ht]; exact hP, va_K.moved hW.alike hK, hD⟩, hS.F ht⟩) hS.2.2 d_FB_order_13
  · have ej : (nI j).toNatClampNeg = j := nI_clamp (by omega)
    have hi_j : inN (nI j) nf = true := inN_yes (by omega) hj
    refine W.eq (g2 := F0 m 5 ls [.ref (ad 1 j)]) rfl ?_
    have hm_y_2 : ad 1 j ∈ L := (hC.1 1 j (by rw [n1]; exact hj)).1
    have he_y_2 : f (ad 1 j) = .inr (1, [.int (nI j), .int (AI 1 j), .long (AL 2 j), .long (m_enc AI AN no (nI j)), .long (AL 3 j), .long (m_bat AI AN nb (nI j))]) := (hC.1 1 j (by rw [n1]; exact hj)).2.trans (e1 j hj)
    refine lv_astore (lv' := [(4, .ref (ad 1 j)), (0, .ref (ad 0 0)), (1, .int (nI j)), (2, .int c0), (3, .int (bI st))]) hx hb d_FB_order_5 hl (by decide) rfl (fun ls hl => ?_)
    refine lv_aload hx hb d_FB_order_7 (lv_at hl 0 rfl) ?_
    refine lv_ifnonnull (tgt := 14) hx hb d_FB_order_9 (by decide) ?_
    refine lv_iload_n hx hb d_FB_order_14 rfl (lv_at hl 3 rfl) ?_
    refine lv_i2l hx hb d_FB_order_15 rfl ?_
    refine lv_lconst (v := 1) hx hb d_FB_order_16 (by decide) ?_
    refine lv_ldc2 (own := R_FB) (v := 1000000000) hx hb hown (hG _ k_167) d_FB_order_17 ?_
    refine rd_calli (va_runS (As := [.long (c0.toInt64), .long 1, .long 1000000000]) (rest := []) ⟨hx, hb, hml, hown, hts⟩ (c_FB_isWithin l dC dI (ctys cs) (va_pl L f) (c0.toInt64) 1 1000000000) (cwS 3 hts (gd_S k_106 k_107 k_14 k_108) rfl rfl rfl (by decide +kernel) ⟨Nat.le_of_ble_eq_true rfl, Nat.le_of_ble_eq_true rfl⟩) (rd_preS hK hN hP) rfl rfl hl.1 rfl (lv_room (Nat.le_of_ble_eq_true rfl)) d_FB_order_20 ⟨Nat.zero_le _, Nat.zero_le _⟩) (fun r_3 hr_3 => ?_)
    subst hr_3
    refine lb_if_ne (tgt := 29) hx hb d_FB_order_23 (by decide) (fun c_4 => ?_) (fun c_4 => ?_)
    · refine lv_aload_n hx hb d_FB_order_29 rfl (lv_at hl 1 rfl) ?_
      refine fw_get (D := (dC, dI)) (ci := 0) (v := .int (nI no)) (C := R_FB) (T := F_FB) (N := 11) hx hb hG iG_FB hown hK hP hm00 he00 rfl 6 (by decide) (hG _ k_73) (fun _ h9 => h9) rfl d_FB_order_30 ?_
      refine lv_aload_n hx hb d_FB_order_33 rfl (lv_at hl 1 rfl) ?_
      refine fw_get (D := (dC, dI)) (ci := 0) (v := .ref (ad 0 2)) (C := R_FB) (T := F_FB) (N := 11) hx hb hG iG_FB hown hK hP hm00 he00 rfl 1 (by decide) (hG _ k_68) (fun _ h9 => h9) rfl d_FB_order_34 ?_
      refine fw_alen (D := (dC, dI)) (v := nI 300) hx hb hK hP hm02 1 he02 rfl rfl d_FB_order_37 ?_
      refine lv_icmp_lt (tgt := 44) hx hb d_FB_order_38 (by decide) (fun c_5 => ?_) (fun c_5 => ?_)
      · have hlt : no < 300 := (nI_ltI (a := no) (b := 300) (by omega) (by decide)).mp c_5
        have hz : ¬ no = 300 := by omega
        refine lv_aload_n hx hb d_FB_order_44 rfl (lv_at hl 1 rfl) ?_
        refine fw_get (D := (dC, dI)) (ci := 0) (v := .int (nI no)) (C := R_FB) (T := F_FB) (N := 11) hx hb hG iG_FB hown hK hP hm00 he00 rfl 6 (by decide) (hG _ k_73) (fun _ h9 => h9) rfl d_FB_order_45 ?_
        refine lv_istore (lv' := [(5, .int (nI no)), (4, .ref (ad 1 j)), (0, .ref (ad 0 0)), (1, .int (nI j)), (2, .int c0), (3, .int (bI st))]) hx hb d_FB_order_48 hl (by decide) rfl (fun ls hl => ?_)
        refine fw_new (D := (dC, dI)) (ci := 2) (fs := [.null, .int 0, .int (bI false), .null, .int 0, .int 0, .int 0, .long 0]) (C := R_Pu) (T := F_Pu) (N := 8) hx hb hG iG_Pu t_Pu t_Pu_ok hown (hG _ k_37) (hG _ k_168) (hG _ k_19) hK hP hD hS hA rfl (fun j hj => by rcases (show j = 0 ∨ j = 1 ∨ j = 2 ∨ j = 3 ∨ j = 4 ∨ j = 5 ∨ j = 6 ∨ j = 7 by omega) with rfl | rfl | rfl | rfl | rfl | rfl | rfl | rfl <;> rfl) (Nat.le_of_ble_eq_true rfl) (Nat.le_of_ble_eq_true rfl) d_FB_order_50 (fun q_6 H hq_q_6 hP hD hS => ?_)
        obtain ⟨L_8, eL_8⟩ : ∃ z, z = L ++ [q_6] := ⟨_, rfl⟩
        obtain ⟨f_7, ef_7⟩ : ∃ z, z = va_up f q_6 (.inr (2, [.null, .int 0, .int (bI false), .null, .int 0, .int 0, .int 0, .long 0])) := ⟨_, rfl⟩
        have hP : va_P (dC, dI) classes (va_pl L_8 f_7) H := by rw [eL_8, ef_7]; exact hP
        have hD : va_D A (va_pl L_8 f_7) := by rw [eL_8, ef_7]; exact hD
        have ne_11 : (ad 0 0) ≠ q_6 := fun z => hq_q_6 (z ▸ hm00)
        have hm_10 : (ad 0 0) ∈ L_8 := by rw [eL_8]; exact List.mem_append_left _ hm00
        have he_9 : f_7 (ad 0 0) = .inr (0, [.ref (ad 0 1), .ref (ad 0 2), .ref (ad 0 3), .ref (ad 0 4), .ref (ad 0 5), .int (nI nf), .int (nI no), .int (nI nt), .int yr, .int bd, .int fl]) := by rw [ef_7, va_up_ne _ _ ne_11]; exact he00
        have ne_14 : (ad 0 1) ≠ q_6 := fun z => hq_q_6 (z ▸ hm01)
        have hm_13 : (ad 0 1) ∈ L_8 := by rw [eL_8]; exact List.mem_append_left _ hm01
        have he_12 : f_7 (ad 0 1) = .inl ((cs 0), 30, .inr (.inr (.inr (.inr (fun i => if i < nf then some (ad 1 i) else none))))) := by rw [ef_7, va_up_ne _ _ ne_14]; exact he01
        have ne_17 : (ad 0 2) ≠ q_6 := fun z => hq_q_6 (z ▸ hm02)
        have hm_16 : (ad 0 2) ∈ L_8 := by rw [eL_8]; exact List.mem_append_left _ hm02
        have he_15 : f_7 (ad 0 2) = .inl ((cs 1), 300, .inr (.inr (.inr (.inr (fun i => if i < no then some (ad 2 i) else none))))) := by rw [ef_7, va_up_ne _ _ ne_17]; exact he02
        have ne_20 : (ad 0 3) ≠ q_6 := fun z => hq_q_6 (z ▸ hm03)
        have hm_19 : (ad 0 3) ∈ L_8 := by rw [eL_8]; exact List.mem_append_left _ hm03
        have he_18 : f_7 (ad 0 3) = .inl ((cs 2), 100, .inr (.inr (.inr (.inr (fun i => if i < nt then some (ad 4 i) else none))))) := by rw [ef_7, va_up_ne _ _ ne_20]; exact he03
        have ne_23 : (ad 0 4) ≠ q_6 := fun z => hq_q_6 (z ▸ hm04)
        have hm_22 : (ad 0 4) ∈ L_8 := by rw [eL_8]; exact List.mem_append_left _ hm04
        have he_21 : f_7 (ad 0 4) = .inl ((cs 3), 10, .inr (.inr (.inr (.inr (fun c => if AN 18 c = 0 then none else some (ad 6 (rx c (AN 18 c - 1)))))))) := by rw [ef_7, va_up_ne _ _ ne_23]; exact he04
        have ne_26 : (ad 0 5) ≠ q_6 := fun z => hq_q_6 (z ▸ hm05)
        have hm_25 : (ad 0 5) ∈ L_8 := by rw [eL_8]; exact List.mem_append_left _ hm05
        have he_24 : f_7 (ad 0 5) = .inr (6, [.ref (ad 0 6), .int (nI nb), .long (m_tot AI nb)]) := by rw [ef_7, va_up_ne _ _ ne_26]; exact he05
        have ne_29 : (ad 0 6) ≠ q_6 := fun z => hq_q_6 (z ▸ hm06)
        have hm_28 : (ad 0 6) ∈ L_8 := by rw [eL_8]; exact List.mem_append_left _ hm06
        have he_27 : f_7 (ad 0 6) = .inl ((cs 4), 20, .inr (.inr (.inr (.inr (fun r => if r < nb then some (ad 1 (AN 22 r)) else none))))) := by rw [ef_7, va_up_ne _ _ ne_29]; exact he06
        have ne_32 : (ad 1 j) ≠ q_6 := fun z => hq_q_6 (z ▸ hm_y_2)
        have hm_31 : (ad 1 j) ∈ L_8 := by rw [eL_8]; exact List.mem_append_left _ hm_y_2
        have he_30 : f_7 (ad 1 j) = .inr (1, [.int (nI j), .int (AI 1 j), .long (AL 2 j), .long (m_enc AI AN no (nI j)), .long (AL 3 j), .long (m_bat AI AN nb (nI j))]) := by rw [ef_7, va_up_ne _ _ ne_32]; exact he_y_2
        have hm_34 : q_6 ∈ L_8 := by rw [eL_8]; exact List.mem_append_right _ (List.mem_singleton.mpr rfl)
        have he_33 : f_7 q_6 = .inr (2, [.null, .int 0, .int (bI false), .null, .int 0, .int 0, .int 0, .long 0]) := by rw [ef_7]; exact va_up_self _ _ _
        refine lv_dup hx hb d_FB_order_53 rfl ?_
        refine lv_aload hx hb d_FB_order_54 (lv_at hl 1 rfl) ?_
        refine lv_iload_n hx hb d_FB_order_56 rfl (lv_at hl 4 rfl) ?_
        refine lv_iload_n hx hb d_FB_order_57 rfl (lv_at hl 5 rfl) ?_
        refine mu_callv (va_runI (As := [.ref (ad 1 j), .int c0, .int (bI st)]) (rest := [.ref q_6]) ⟨hx, hb, hml, hown, hts⟩ (c_Pu_init l dC dI (ctys cs) L_8 f_7 _ q_6 0 0 0 0 0 false (ad 1 j) c0 st hm_34 he_33) (cwI 3 hts (gd_c k_171) rfl rfl rfl (hG _ k_19) (hG _ k_169) (hG _ k_170) rfl (by decide +kernel) ⟨Nat.le_of_ble_eq_true rfl, Nat.le_of_ble_eq_true rfl⟩) (mu_preS hK hN hP hD) rfl rfl hl.1 rfl (lv_room (Nat.le_of_ble_eq_true rfl)) d_FB_order_58 ⟨Nat.le_of_ble_eq_true rfl, Nat.le_of_ble_eq_true rfl⟩) hD hS hA (fun ur_35 H locs hr_35 hP hD hS => ?_)
        obtain ⟨q_36, hq_q_36, hr_35⟩ := hr_35
        subst hr_35
        obtain ⟨f_37, ef_37⟩ : ∃ z, z = va_up f_7 q_6 (.inr (2, [.ref (ad 1 j), .int c0, .int (bI st), .ref q_36, .int 0, .int 0, .int (-1), .long 0])) := ⟨_, rfl⟩
        have he_38 : f_37 (ad 0 0) = .inr (0, [.ref (ad 0 1), .ref (ad 0 2), .ref (ad 0 3), .ref (ad 0 4), .ref (ad 0 5), .int (nI nf), .int (nI no), .int (nI nt), .int yr, .int bd, .int fl]) := by rw [ef_37, va_up_ne _ _ ne_11]; exact he_9
        have he_39 : f_37 (ad 0 1) = .inl ((cs 0), 30, .inr (.inr (.inr (.inr (fun i => if i < nf then some (ad 1 i) else none))))) := by rw [ef_37, va_up_ne _ _ ne_14]; exact he_12
        have he_40 : f_37 (ad 0 2) = .inl ((cs 1), 300, .inr (.inr (.inr (.inr (fun i => if i < no then some (ad 2 i) else none))))) := by rw [ef_37, va_up_ne _ _ ne_17]; exact he_15
        have he_41 : f_37 (ad 0 3) = .inl ((cs 2), 100, .inr (.inr (.inr (.inr (fun i => if i < nt then some (ad 4 i) else none))))) := by rw [ef_37, va_up_ne _ _ ne_20]; exact he_18
        have he_42 : f_37 (ad 0 4) = .inl ((cs 3), 10, .inr (.inr (.inr (.inr (fun c => if AN 18 c = 0 then none else some (ad 6 (rx c (AN 18 c - 1)))))))) := by rw [ef_37, va_up_ne _ _ ne_23]; exact he_21
        have he_43 : f_37 (ad 0 5) = .inr (6, [.ref (ad 0 6), .int (nI nb), .long (m_tot AI nb)]) := by rw [ef_37, va_up_ne _ _ ne_26]; exact he_24
        have he_44 : f_37 (ad 0 6) = .inl ((cs 4), 20, .inr (.inr (.inr (.inr (fun r => if r < nb then some (ad 1 (AN 22 r)) else none))))) := by rw [ef_37, va_up_ne _ _ ne_29]; exact he_27
        have he_45 : f_37 (ad 1 j) = .inr (1, [.int (nI j), .int (AI 1 j), .long (AL 2 j), .long (m_enc AI AN no (nI j)), .long (AL 3 j), .long (m_bat AI AN nb (nI j))]) := by rw [ef_37, va_up_ne _ _ ne_32]; exact he_30
        have he_46 : f_37 q_6 = .inr (2, [.ref (ad 1 j), .int c0, .int (bI st), .ref q_36, .int 0, .int 0, .int (-1), .long 0]) := by rw [ef_37]; exact va_up_self _ _ _
        obtain ⟨L_48, eL_48⟩ : ∃ z, z = L_8 ++ [q_36] := ⟨_, rfl⟩
        obtain ⟨f_47, ef_47⟩ : ∃ z, z = va_up f_37 q_36 (.inr (4, [.long 0, .long 0, .int 0])) := ⟨_, rfl⟩
        have ne_51 : (ad 0 0) ≠ q_36 := fun z => hq_q_36 (z ▸ hm_10)
        have hm_50 : (ad 0 0) ∈ L_48 := by rw [eL_48]; exact List.mem_append_left _ hm_10
        have he_49 : f_47 (ad 0 0) = .inr (0, [.ref (ad 0 1), .ref (ad 0 2), .ref (ad 0 3), .ref (ad 0 4), .ref (ad 0 5), .int (nI nf), .int (nI no), .int (nI nt), .int yr, .int bd, .int fl]) := by rw [ef_47, va_up_ne _ _ ne_51]; exact he_38
        have ne_54 : (ad 0 1) ≠ q_36 := fun z => hq_q_36 (z ▸ hm_13)
        have hm_53 : (ad 0 1) ∈ L_48 := by rw [eL_48]; exact List.mem_append_left _ hm_13
        have he_52 : f_47 (ad 0 1) = .inl ((cs 0), 30, .inr (.inr (.inr (.inr (fun i => if i < nf then some (ad 1 i) else none))))) := by rw [ef_47, va_up_ne _ _ ne_54]; exact he_39
        have ne_57 : (ad 0 2) ≠ q_36 := fun z => hq_q_36 (z ▸ hm_16)
        have hm_56 : (ad 0 2) ∈ L_48 := by rw [eL_48]; exact List.mem_append_left _ hm_16
        have he_55 : f_47 (ad 0 2) = .inl ((cs 1), 300, .inr (.inr (.inr (.inr (fun i => if i < no then some (ad 2 i) else none))))) := by rw [ef_47, va_up_ne _ _ ne_57]; exact he_40
        have ne_60 : (ad 0 3) ≠ q_36 := fun z => hq_q_36 (z ▸ hm_19)
        have hm_59 : (ad 0 3) ∈ L_48 := by rw [eL_48]; exact List.mem_append_left _ hm_19
        have he_58 : f_47 (ad 0 3) = .inl ((cs 2), 100, .inr (.inr (.inr (.inr (fun i => if i < nt then some (ad 4 i) else none))))) := by rw [ef_47, va_up_ne _ _ ne_60]; exact he_41
        have ne_63 : (ad 0 4) ≠ q_36 := fun z => hq_q_36 (z ▸ hm_22)
        have hm_62 : (ad 0 4) ∈ L_48 := by rw [eL_48]; exact List.mem_append_left _ hm_22
        have he_61 : f_47 (ad 0 4) = .inl ((cs 3), 10, .inr (.inr (.inr (.inr (fun c => if AN 18 c = 0 then none else some (ad 6 (rx c (AN 18 c - 1)))))))) := by rw [ef_47, va_up_ne _ _ ne_63]; exact he_42
        have ne_66 : (ad 0 5) ≠ q_36 := fun z => hq_q_36 (z ▸ hm_25)
        have hm_65 : (ad 0 5) ∈ L_48 := by rw [eL_48]; exact List.mem_append_left _ hm_25
        have he_64 : f_47 (ad 0 5) = .inr (6, [.ref (ad 0 6), .int (nI nb), .long (m_tot AI nb)]) := by rw [ef_47, va_up_ne _ _ ne_66]; exact he_43
        have ne_69 : (ad 0 6) ≠ q_36 := fun z => hq_q_36 (z ▸ hm_28)
        have hm_68 : (ad 0 6) ∈ L_48 := by rw [eL_48]; exact List.mem_append_left _ hm_28
        have he_67 : f_47 (ad 0 6) = .inl ((cs 4), 20, .inr (.inr (.inr (.inr (fun r => if r < nb then some (ad 1 (AN 22 r)) else none))))) := by rw [ef_47, va_up_ne _ _ ne_69]; exact he_44
        have ne_72 : (ad 1 j) ≠ q_36 := fun z => hq_q_36 (z ▸ hm_31)
        have hm_71 : (ad 1 j) ∈ L_48 := by rw [eL_48]; exact List.mem_append_left _ hm_31
        have he_70 : f_47 (ad 1 j) = .inr (1, [.int (nI j), .int (AI 1 j), .long (AL 2 j), .long (m_enc AI AN no (nI j)), .long (AL 3 j), .long (m_bat AI AN nb (nI j))]) := by rw [ef_47, va_up_ne _ _ ne_72]; exact he_45
        have ne_75 : q_6 ≠ q_36 := fun z => hq_q_36 (z ▸ hm_34)
        have hm_74 : q_6 ∈ L_48 := by rw [eL_48]; exact List.mem_append_left _ hm_34
        have he_73 : f_47 q_6 = .inr (2, [.ref (ad 1 j), .int c0, .int (bI st), .ref q_36, .int 0, .int 0, .int (-1), .long 0]) := by rw [ef_47, va_up_ne _ _ ne_75]; exact he_46
        have hm_77 : q_36 ∈ L_48 := by rw [eL_48]; exact List.mem_append_right _ (List.mem_singleton.mpr rfl)
        have he_76 : f_47 q_36 = .inr (4, [.long 0, .long 0, .int 0]) := by rw [ef_47]; exact va_up_self _ _ _
        have hP : va_P (dC, dI) classes (va_pl L_48 f_47) H := by rw [ef_47, eL_48, ef_37]; exact hP
        have hD : va_D A (va_pl L_48 f_47) := by rw [ef_47, eL_48, ef_37]; exact hD
        refine lv_astore (lv' := [(6, .ref q_6), (5, .int (nI no)), (4, .ref (ad 1 j)), (0, .ref (ad 0 0)), (1, .int (nI j)), (2, .int c0), (3, .int (bI st))]) hx hb d_FB_order_61 hl (by decide) rfl (fun ls hl => ?_)
        refine lv_aload_n hx hb d_FB_order_63 rfl (lv_at hl 3 rfl) ?_
        refine fw_get (D := (dC, dI)) (ci := 0) (v := .ref (ad 0 2)) (C := R_FB) (T := F_FB) (N := 11) hx hb hG iG_FB hown hK hP hm_50 he_49 rfl 1 (by decide) (hG _ k_68) (fun _ h9 => h9) rfl d_FB_order_64 ?_
        refine lv_iload hx hb d_FB_order_67 (lv_at hl 1 rfl) ?_
        refine lv_aload hx hb d_FB_order_69 (lv_at hl 0 rfl) ?_
        refine fw_ast (D := (dC, dI)) (r := (R_Pu, F_Pu, 8)) (ci := 2) (n := 300) (g := (fun i => if i < no then some (ad 2 i) else none)) hx hb hK hP hD hS hm_56 1 he_55 rfl hm_74 he_73 rfl (vp_in_nI (by omega) (by omega)) d_FB_order_71 (fun H locs hP hD hS => ?_)
        rw [nI_clamp (by omega)] at hP hD
        obtain ⟨f_78, ef_78⟩ : ∃ z, z = va_up f_47 (ad 0 2) (.inl ((cs 1), 300, .inr (.inr (.inr (.inr (va_up (fun i => if i < no then some (ad 2 i) else none) no (some q_6))))))) := ⟨_, rfl⟩
        have he_79 : f_78 (ad 0 0) = .inr (0, [.ref (ad 0 1), .ref (ad 0 2), .ref (ad 0 3), .ref (ad 0 4), .ref (ad 0 5), .int (nI nf), .int (nI no), .int (nI nt), .int yr, .int bd, .int fl]) := by rw [ef_78, va_up_ne _ _ (CP.ne hC 0 0 0 2 (by rw [n0]; decide) (by rw [n0]; decide) (by decide))]; exact he_49
        have he_80 : f_78 (ad 0 1) = .inl ((cs 0), 30, .inr (.inr (.inr (.inr (fun i => if i < nf then some (ad 1 i) else none))))) := by rw [ef_78, va_up_ne _ _ (CP.ne hC 0 1 0 2 (by rw [n0]; decide) (by rw [n0]; decide) (by decide))]; exact he_52
        have he_81 : f_78 (ad 0 2) = .inl ((cs 1), 300, .inr (.inr (.inr (.inr (va_up (fun i => if i < no then some (ad 2 i) else none) no (some q_6)))))) := by rw [ef_78]; exact va_up_self _ _ _
        have he_82 : f_78 (ad 0 3) = .inl ((cs 2), 100, .inr (.inr (.inr (.inr (fun i => if i < nt then some (ad 4 i) else none))))) := by rw [ef_78, va_up_ne _ _ (Ne.symm (CP.ne hC 0 2 0 3 (by rw [n0]; decide) (by rw [n0]; decide) (by decide)))]; exact he_58
        have he_83 : f_78 (ad 0 4) = .inl ((cs 3), 10, .inr (.inr (.inr (.inr (fun c => if AN 18 c = 0 then none else some (ad 6 (rx c (AN 18 c - 1)))))))) := by rw [ef_78, va_up_ne _ _ (Ne.symm (CP.ne hC 0 2 0 4 (by rw [n0]; decide) (by rw [n0]; decide) (by decide)))]; exact he_61
        have he_84 : f_78 (ad 0 5) = .inr (6, [.ref (ad 0 6), .int (nI nb), .long (m_tot AI nb)]) := by rw [ef_78, va_up_ne _ _ (Ne.symm (CP.ne hC 0 2 0 5 (by rw [n0]; decide) (by rw [n0]; decide) (by decide)))]; exact he_64
        have he_85 : f_78 (ad 0 6) = .inl ((cs 4), 20, .inr (.inr (.inr (.inr (fun r => if r < nb then some (ad 1 (AN 22 r)) else none))))) := by rw [ef_78, va_up_ne _ _ (Ne.symm (CP.ne hC 0 2 0 6 (by rw [n0]; decide) (by rw [n0]; decide) (by decide)))]; exact he_67
        have he_86 : f_78 (ad 1 j) = .inr (1, [.int (nI j), .int (AI 1 j), .long (AL 2 j), .long (m_enc AI AN no (nI j)), .long (AL 3 j), .long (m_bat AI AN nb (nI j))]) := by rw [ef_78, va_up_ne _ _ (fw_ne he_70 he_55 (show (2 : Nat) ≠ 0 by decide))]; exact he_70
        have he_87 : f_78 q_6 = .inr (2, [.ref (ad 1 j), .int c0, .int (bI st), .ref q_36, .int 0, .int 0, .int (-1), .long 0]) := by rw [ef_78, va_up_ne _ _ (Ne.symm ne_17)]; exact he_73
        have he_88 : f_78 q_36 = .inr (4, [.long 0, .long 0, .int 0]) := by rw [ef_78, va_up_ne _ _ (Ne.symm ne_57)]; exact he_76
        have hP : va_P (dC, dI) classes (va_pl L_48 f_78) H := by rw [ef_78]; exact hP
        have hD : va_D A (va_pl L_48 f_78) := by rw [ef_78]; exact hD
        refine lv_aload_n hx hb d_FB_order_72 rfl (lv_at hl 3 rfl) ?_
        refine lv_dup hx hb d_FB_order_73 rfl ?_
        refine fw_get (D := (dC, dI)) (ci := 0) (v := .int (nI no)) (C := R_FB) (T := F_FB) (N := 11) hx hb hG iG_FB hown hK hP hm_50 he_79 rfl 6 (by decide) (hG _ k_73) (fun _ h9 => h9) rfl d_FB_order_74 ?_
        refine lv_iconst (v := 1) hx hb d_FB_order_77 (by decide) ?_
        refine lv_iadd hx hb d_FB_order_78 ?_
        refine lv_topI (y := nI (no + 1)) (nI_add no 1) ?_
        refine fw_put (D := (dC, dI)) (ci := 0) (v := .int (nI (no + 1))) (ty := .int) (C := R_FB) (T := F_FB) (N := 11) hx hb hG iG_FB t_FB t_FB_ok n_FB hown hK hP hD hS hm_50 he_79 rfl 6 (by decide) (hG _ k_73) (fun _ h9 => h9) rfl (by decide +kernel) rfl rfl (Nat.le_of_ble_eq_true rfl) d_FB_order_79 (fun H locs hP hD hS => ?_)
        obtain ⟨f_89, ef_89⟩ : ∃ z, z = va_up f_78 (ad 0 0) (.inr (0, [.ref (ad 0 1), .ref (ad 0 2), .ref (ad 0 3), .ref (ad 0 4), .ref (ad 0 5), .int (nI nf), .int (nI (no + 1)), .int (nI nt), .int yr, .int bd, .int fl])) := ⟨_, rfl⟩
        have he_90 : f_89 (ad 0 0) = .inr (0, [.ref (ad 0 1), .ref (ad 0 2), .ref (ad 0 3), .ref (ad 0 4), .ref (ad 0 5), .int (nI nf), .int (nI (no + 1)), .int (nI nt), .int yr, .int bd, .int fl]) := by rw [ef_89]; exact va_up_self _ _ _
        have he_91 : f_89 (ad 0 1) = .inl ((cs 0), 30, .inr (.inr (.inr (.inr (fun i => if i < nf then some (ad 1 i) else none))))) := by rw [ef_89, va_up_ne _ _ (Ne.symm (CP.ne hC 0 0 0 1 (by rw [n0]; decide) (by rw [n0]; decide) (by decide)))]; exact he_80
        have he_92 : f_89 (ad 0 2) = .inl ((cs 1), 300, .inr (.inr (.inr (.inr (va_up (fun i => if i < no then some (ad 2 i) else none) no (some q_6)))))) := by rw [ef_89, va_up_ne _ _ (Ne.symm (CP.ne hC 0 0 0 2 (by rw [n0]; decide) (by rw [n0]; decide) (by decide)))]; exact he_81
        have he_93 : f_89 (ad 0 3) = .inl ((cs 2), 100, .inr (.inr (.inr (.inr (fun i => if i < nt then some (ad 4 i) else none))))) := by rw [ef_89, va_up_ne _ _ (Ne.symm (CP.ne hC 0 0 0 3 (by rw [n0]; decide) (by rw [n0]; decide) (by decide)))]; exact he_82
        have he_94 : f_89 (ad 0 4) = .inl ((cs 3), 10, .inr (.inr (.inr (.inr (fun c => if AN 18 c = 0 then none else some (ad 6 (rx c (AN 18 c - 1)))))))) := by rw [ef_89, va_up_ne _ _ (Ne.symm (CP.ne hC 0 0 0 4 (by rw [n0]; decide) (by rw [n0]; decide) (by decide)))]; exact he_83
        have he_95 : f_89 (ad 0 5) = .inr (6, [.ref (ad 0 6), .int (nI nb), .long (m_tot AI nb)]) := by rw [ef_89, va_up_ne _ _ (Ne.symm (CP.ne hC 0 0 0 5 (by rw [n0]; decide) (by rw [n0]; decide) (by decide)))]; exact he_84
        have he_96 : f_89 (ad 0 6) = .inl ((cs 4), 20, .inr (.inr (.inr (.inr (fun r => if r < nb then some (ad 1 (AN 22 r)) else none))))) := by rw [ef_89, va_up_ne _ _ (Ne.symm (CP.ne hC 0 0 0 6 (by rw [n0]; decide) (by rw [n0]; decide) (by decide)))]; exact he_85
        have he_97 : f_89 (ad 1 j) = .inr (1, [.int (nI j), .int (AI 1 j), .long (AL 2 j), .long (m_enc AI AN no (nI j)), .long (AL 3 j), .long (m_bat AI AN nb (nI j))]) := by rw [ef_89, va_up_ne _ _ (fw_ne he_86 he_79 (show (2 : Nat) ≠ 1 by decide))]; exact he_86
        have he_98 : f_89 q_6 = .inr (2, [.ref (ad 1 j), .int c0, .int (bI st), .ref q_36, .int 0, .int 0, .int (-1), .long 0]) := by rw [ef_89, va_up_ne _ _ (Ne.symm ne_11)]; exact he_87
        have he_99 : f_89 q_36 = .inr (4, [.long 0, .long 0, .int 0]) := by rw [ef_89, va_up_ne _ _ (Ne.symm ne_51)]; exact he_88
        have hP : va_P (dC, dI) classes (va_pl L_48 f_89) H := by rw [ef_89]; exact hP
        have hD : va_D A (va_pl L_48 f_89) := by rw [ef_89]; exact hD
        refine lv_iload_n hx hb d_FB_order_82 rfl (lv_at hl 5 rfl) ?_
        refine lv_i2l hx hb d_FB_order_83 rfl ?_
        refine lv_aload hx hb d_FB_order_84 (lv_at hl 2 rfl) ?_
        refine rd_calll (va_runV (As := []) (rest := [.long (c0.toInt64)]) ⟨hx, hb, hml, hown, hts⟩ (c_Ac_free l dC dI (ctys cs) L_48 f_89 (ad 1 j) (nI j) (AI 1 j) (AL 2 j) (m_enc AI AN no (nI j)) (AL 3 j) (m_bat AI AN nb (nI j)) hm_71 he_97) (cwV 0 hts (gd_V k_222 k_160 k_161 k_18 k_162) rfl rfl rfl (by decide +kernel) ⟨Nat.le_of_ble_eq_true rfl, Nat.le_of_ble_eq_true rfl⟩) (fw_preV hK hN hP rfl hm_71 he_97) rfl rfl hl.1 rfl (lv_room (Nat.le_of_ble_eq_true rfl)) d_FB_order_86 ⟨Nat.le_of_ble_eq_true rfl, Nat.le_of_ble_eq_true rfl⟩) (fun r_100 hr_100 => ?_)
        subst hr_100
        refine lc_le (tgt := 99) hx hb d_FB_order_89 d_FB_order_90 (by decide) (fun c_101 => ?_) (fun c_101 => ?_)
        · have hle : c0.toInt64 ≤ m_free AI AN AL no j := c_101
          refine lv_aload hx hb d_FB_order_99 (lv_at hl 0 rfl) ?_
          refine mu_callv (va_runV (As := []) (rest := []) ⟨hx, hb, hml, hown, hts⟩ (c_Pu_place l dC dI (ctys cs) L_48 f_89 _ q_6 (ad 1 j) c0 0 0 (-1) 0 q_36 st (nI j) (AI 1 j) (AL 2 j) (m_enc AI AN no (nI j)) (AL 3 j) (m_bat AI AN nb (nI j)) hm_74 he_98 hm_71 he_97) (cwV 0 hts (gd_V k_223 k_224 k_225 k_19 k_226) rfl rfl rfl (by decide +kernel) ⟨Nat.le_of_ble_eq_true rfl, Nat.le_of_ble_eq_true rfl⟩) (fw_mreV hK hN hP hD rfl hm_74 he_98) rfl rfl hl.1 rfl (lv_room (Nat.le_of_ble_eq_true rfl)) d_FB_order_101 ⟨Nat.le_of_ble_eq_true rfl, Nat.le_of_ble_eq_true rfl⟩) hD hS hA (fun ur_102 H locs hr_102 hP hD hS => ?_)
          subst hr_102
          obtain ⟨f_103, ef_103⟩ : ∃ z, z = va_up f_89 q_6 (.inr (2, [.ref (ad 1 j), .int c0, .int (bI st), .ref q_36, .int 1, .int 0, .int (-1), .long 0])) := ⟨_, rfl⟩
          have he_104 : f_103 (ad 0 0) = .inr (0, [.ref (ad 0 1), .ref (ad 0 2), .ref (ad 0 3), .ref (ad 0 4), .ref (ad 0 5), .int (nI nf), .int (nI (no + 1)), .int (nI nt), .int yr, .int bd, .int fl]) := by rw [ef_103, va_up_ne _ _ ne_11]; exact he_90
          have he_105 : f_103 (ad 0 1) = .inl ((cs 0), 30, .inr (.inr (.inr (.inr (fun i => if i < nf then some (ad 1 i) else none))))) := by rw [ef_103, va_up_ne _ _ ne_14]; exact he_91
          have he_106 : f_103 (ad 0 2) = .inl ((cs 1), 300, .inr (.inr (.inr (.inr (va_up (fun i => if i < no then some (ad 2 i) else none) no (some q_6)))))) := by rw [ef_103, va_up_ne _ _ ne_17]; exact he_92
          have he_107 : f_103 (ad 0 3) = .inl ((cs 2), 100, .inr (.inr (.inr (.inr (fun i => if i < nt then some (ad 4 i) else none))))) := by rw [ef_103, va_up_ne _ _ ne_20]; exact he_93
          have he_108 : f_103 (ad 0 4) = .inl ((cs 3), 10, .inr (.inr (.inr (.inr (fun c => if AN 18 c = 0 then none else some (ad 6 (rx c (AN 18 c - 1)))))))) := by rw [ef_103, va_up_ne _ _ ne_23]; exact he_94
          have he_109 : f_103 (ad 0 5) = .inr (6, [.ref (ad 0 6), .int (nI nb), .long (m_tot AI nb)]) := by rw [ef_103, va_up_ne _ _ ne_26]; exact he_95
          have he_110 : f_103 (ad 0 6) = .inl ((cs 4), 20, .inr (.inr (.inr (.inr (fun r => if r < nb then some (ad 1 (AN 22 r)) else none))))) := by rw [ef_103, va_up_ne _ _ ne_29]; exact he_96
          have he_111 : f_103 (ad 1 j) = .inr (1, [.int (nI j), .int (AI 1 j), .long (AL 2 j), .long (m_enc AI AN no (nI j)), .long (AL 3 j), .long (m_bat AI AN nb (nI j))]) := by rw [ef_103, va_up_ne _ _ ne_32]; exact he_97
          have he_112 : f_103 q_6 = .inr (2, [.ref (ad 1 j), .int c0, .int (bI st), .ref q_36, .int 1, .int 0, .int (-1), .long 0]) := by rw [ef_103]; exact va_up_self _ _ _
          have he_113 : f_103 q_36 = .inr (4, [.long 0, .long 0, .int 0]) := by rw [ef_103, va_up_ne _ _ (Ne.symm ne_75)]; exact he_99
          obtain ⟨f_114, ef_114⟩ : ∃ z, z = va_up f_103 (ad 1 j) (.inr (1, [.int (nI j), .int (AI 1 j), .long (AL 2 j), .long ((m_enc AI AN no (nI j)) + c0.toInt64), .long (AL 3 j), .long (m_bat AI AN nb (nI j))])) := ⟨_, rfl⟩
          have he_115 : f_114 (ad 0 0) = .inr (0, [.ref (ad 0 1), .ref (ad 0 2), .ref (ad 0 3), .ref (ad 0 4), .ref (ad 0 5), .int (nI nf), .int (nI (no + 1)), .int (nI nt), .int yr, .int bd, .int fl]) := by rw [ef_114, va_up_ne _ _ (fw_ne he_104 he_111 (show (1 : Nat) ≠ 2 by decide))]; exact he_104
          have he_116 : f_114 (ad 0 1) = .inl ((cs 0), 30, .inr (.inr (.inr (.inr (fun i => if i < nf then some (ad 1 i) else none))))) := by rw [ef_114, va_up_ne _ _ (fw_ne he_105 he_111 (show (0 : Nat) ≠ 2 by decide))]; exact he_105
          have he_117 : f_114 (ad 0 2) = .inl ((cs 1), 300, .inr (.inr (.inr (.inr (va_up (fun i => if i < no then some (ad 2 i) else none) no (some q_6)))))) := by rw [ef_114, va_up_ne _ _ (fw_ne he_106 he_111 (show (0 : Nat) ≠ 2 by decide))]; exact he_106
          have he_118 : f_114 (ad 0 3) = .inl ((cs 2), 100, .inr (.inr (.inr (.inr (fun i => if i < nt then some (ad 4 i) else none))))) := by rw [ef_114, va_up_ne _ _ (fw_ne he_107 he_111 (show (0 : Nat) ≠ 2 by decide))]; exact he_107
          have he_119 : f_114 (ad 0 4) = .inl ((cs 3), 10, .inr (.inr (.inr (.inr (fun c => if AN 18 c = 0 then none else some (ad 6 (rx c (AN 18 c - 1)))))))) := by rw [ef_114, va_up_ne _ _ (fw_ne he_108 he_111 (show (0 : Nat) ≠ 2 by decide))]; exact he_108
          have he_120 : f_114 (ad 0 5) = .inr (6, [.ref (ad 0 6), .int (nI nb), .long (m_tot AI nb)]) := by rw [ef_114, va_up_ne _ _ (fw_ne he_109 he_111 (show (7 : Nat) ≠ 2 by decide))]; exact he_109
          have he_121 : f_114 (ad 0 6) = .inl ((cs 4), 20, .inr (.inr (.inr (.inr (fun r => if r < nb then some (ad 1 (AN 22 r)) else none))))) := by rw [ef_114, va_up_ne _ _ (fw_ne he_110 he_111 (show (0 : Nat) ≠ 2 by decide))]; exact he_110
          have he_122 : f_114 (ad 1 j) = .inr (1, [.int (nI j), .int (AI 1 j), .long (AL 2 j), .long ((m_enc AI AN no (nI j)) + c0.toInt64), .long (AL 3 j), .long (m_bat AI AN nb (nI j))]) := by rw [ef_114]; exact va_up_self _ _ _
          have he_123 : f_114 q_6 = .inr (2, [.ref (ad 1 j), .int c0, .int (bI st), .ref q_36, .int 1, .int 0, .int (-1), .long 0]) := by rw [ef_114, va_up_ne _ _ (Ne.symm ne_32)]; exact he_112
          have he_124 : f_114 q_36 = .inr (4, [.long 0, .long 0, .int 0]) := by rw [ef_114, va_up_ne _ _ (Ne.symm ne_72)]; exact he_113
          have hP : va_P (dC, dI) classes (va_pl L_48 f_114) H := by rw [ef_114, ef_103]; exact hP
          have hD : va_D A (va_pl L_48 f_114) := by rw [ef_114, ef_103]; exact hD
          refine lv_iload hx hb d_FB_order_104 (lv_at hl 1 rfl) ?_
          rw [eL_8] at hq_q_36
          have hx0 := CX_order hC hR hM hB hZ hlt hq_q_6 hq_q_36 hj c0 c_4 st (.inr (2, [.null, .int 0, .int (bI false), .null, .int 0, .int 0, .int 0, .long 0]))
          obtain ⟨e9, hx0⟩ := hx0
          have hen := enc_order AI AN no j c0 (nI j)
          obtain ⟨e10, hx1⟩ := CX_place hx0 (j := no) (by omega) (by simp [u2, va_up]) (p1 := q_6) (a1 := ad 1 j) (by rw [up2_k _ _ _ _ (by decide), up2_self]) (by simp [up2, u2, va_up]) (v1 := oPur (ad 1 j) c0 (bI st) q_36 1 0 (-1) 0) (v2 := oAcc (nI j) (AI 1 j) (AL 2 j) (m_enc AI AN no (nI j) + c0.toInt64) (AL 3 j) (m_bat AI AN nb (nI j))) (by simp [up2, u2, va_up]) (by rw [show (u2 AN 4 no j) 4 no = j by simp [u2, va_up], hen]; simp [u2, va_up, m_bat])
          rw [ord_A] at hx1
          have hcall : m_order (th, yr, nf, no, nt, bd, nb, fl, AI, AN, AB, AL) (nI j) c0 st = ((nI no), (0, yr, nf, no + 1, nt, bd, nb, fl, u2 (u2 (u2 (u2 (u2 AI 5 no c0) 7 no 1) 9 no 0) 11 no 0) 12 no (-1), u2 AN 4 no j, u2 AB 6 no st, u2 AL 10 no 0)) := (by simp [m_order, ixn, bI, ej, hi_j, c_4, hz, hle] <;> (repeat' apply And.intro) <;> rfl)
          have hcs : CS cs (ad 0 0) (0, yr, nf, no + 1, nt, bd, nb, fl, u2 (u2 (u2 (u2 (u2 AI 5 no c0) 7 no 1) 9 no 0) 11 no 0) 12 no (-1), u2 AN 4 no j, u2 AB 6 no st, u2 AL 10 no 0) L_48 f_114 := (by rw [ef_114, ef_103, ef_89, ef_78, ef_47, eL_48, ef_37, ef_7, eL_8]; exact hx1.cs (by rw [up2_k _ _ _ _ (by decide), up2_k _ _ _ _ (by decide)]))
          refine W.widen (k := 2) (n := 11) (Nat.le_of_ble_eq_true rfl) (Nat.le_of_ble_eq_true rfl) ?_
          exact W.iret (v := (nI no)) hx hb hr (fun t ht hW => ⟨⟨_, (L_48, f_114), rfl, by rw [hcall]; exact ⟨rfl, hcs⟩, by rw [ht]; exact hP, va_K.moved hW.alike hK, hD⟩, hS.F ht⟩) hS.2.2 d_FB_order_106
        · have hle : ¬ c0.toInt64 ≤ m_free AI AN AL no j := c_101
          refine lv_bipush (v := (-10)) hx hb d_FB_order_93 (by decide) ?_
          refine lv_iload hx hb d_FB_order_95 (lv_at hl 1 rfl) ?_
          refine lv_isub hx hb d_FB_order_97 ?_
          rw [eL_8] at hq_q_36
          have hx0 := CX_order hC hR hM hB hZ hlt hq_q_6 hq_q_36 hj c0 c_4 st (.inr (2, [.null, .int 0, .int (bI false), .null, .int 0, .int 0, .int 0, .long 0]))
          obtain ⟨e9, hx0⟩ := hx0
          have hcall : m_order (th, yr, nf, no, nt, bd, nb, fl, AI, AN, AB, AL) (nI j) c0 st = (((-10) - nI no), (0, yr, nf, no + 1, nt, bd, nb, fl, u2 (u2 (u2 (u2 (u2 AI 5 no c0) 7 no 0) 9 no 0) 11 no 0) 12 no (-1), u2 AN 4 no j, u2 AB 6 no st, u2 AL 10 no 0)) := (by simp [m_order, ixn, bI, ej, hi_j, c_4, hz, hle] <;> (repeat' apply And.intro) <;> rfl)
          have hcs : CS cs (ad 0 0) (0, yr, nf, no + 1, nt, bd, nb, fl, u2 (u2 (u2 (u2 (u2 AI 5 no c0) 7 no 0) 9 no 0) 11 no 0) 12 no (-1), u2 AN 4 no j, u2 AB 6 no st, u2 AL 10 no 0) L_48 f_89 := (by rw [ef_89, ef_78, ef_47, eL_48, ef_37, ef_7, eL_8]; exact hx0.cs (by rw [up2_k _ _ _ _ (by decide), up2_k _ _ _ _ (by decide)]))
          refine W.widen (k := 2) (n := 11) (Nat.le_of_ble_eq_true rfl) (Nat.le_of_ble_eq_true rfl) ?_
          exact W.iret (v := ((-10) - nI no)) hx hb hr (fun t ht hW => ⟨⟨_, (L_48, f_89), rfl, by rw [hcall]; exact ⟨rfl, hcs⟩, by rw [ht]; exact hP, va_K.moved hW.alike hK, hD⟩, hS.F ht⟩) hS.2.2 d_FB_order_98
      · have hz : no = 300 := by have h9 := (not_congr (nI_ltI (a := no) (b := 300) (by omega) (by decide))).mp c_5; omega
        refine lv_bipush (v := (-4)) hx hb d_FB_order_41 (by decide) ?_
        have hcall : m_order (th, yr, nf, no, nt, bd, nb, fl, AI, AN, AB, AL) (nI j) c0 st = ((-4), (0, yr, nf, no, nt, bd, nb, fl, AI, AN, AB, AL)) := (by simp [m_order, ixn, bI, ej, hi_j, c_4, hz] <;> (repeat' apply And.intro) <;> rfl)
        have hcs : CS cs (ad 0 0) (0, yr, nf, no, nt, bd, nb, fl, AI, AN, AB, AL) L f := ⟨n, ad, e0, bl, rx, rfl, hC, hR, hM, hB, hZ⟩
        refine W.widen (k := 2) (n := 11) (Nat.le_of_ble_eq_true rfl) (Nat.le_of_ble_eq_true rfl) ?_
        exact W.iret (v := (-4)) hx hb hr (fun t ht hW => ⟨⟨_, (L, f), rfl, by rw [hcall]; exact ⟨rfl, hcs⟩, by rw [ht]; exact hP, va_K.moved hW.alike hK, hD⟩, hS.F ht⟩) hS.2.2 d_FB_order_43
    · refine lv_bipush (v := (-2)) hx hb d_FB_order_26 (by decide) ?_
      have hcall : m_order (th, yr, nf, no, nt, bd, nb, fl, AI, AN, AB, AL) (nI j) c0 st = ((-2), (0, yr, nf, no, nt, bd, nb, fl, AI, AN, AB, AL)) := (by simp [m_order, ixn, bI, ej, hi_j, c_4] <;> (repeat' apply And.intro) <;> rfl)
      have hcs : CS cs (ad 0 0) (0, yr, nf, no, nt, bd, nb, fl, AI, AN, AB, AL) L f := ⟨n, ad, e0, bl, rx, rfl, hC, hR, hM, hB, hZ⟩
      refine W.widen (k := 2) (n := 11) (Nat.le_of_ble_eq_true rfl) (Nat.le_of_ble_eq_true rfl) ?_
      exact W.iret (v := (-2)) hx hb hr (fun t ht hW => ⟨⟨_, (L, f), rfl, by rw [hcall]; exact ⟨rfl, hcs⟩, by rw [ht]; exact hP, va_K.moved hW.alike hK, hD⟩, hS.F ht⟩) hS.2.2 d_FB_order_28
