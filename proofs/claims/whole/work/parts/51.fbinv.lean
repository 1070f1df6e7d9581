theorem d_FB_invoice_0 : decode b_FB_invoice 0 = .ok (.aload_n 0, 1) := by decide +kernel
theorem d_FB_invoice_1 : decode b_FB_invoice 1 = .ok (.iload_n 1, 1) := by decide +kernel
theorem d_FB_invoice_2 : decode b_FB_invoice 2 = .ok (.invokevirtual 99, 3) := by decide +kernel
theorem d_FB_invoice_5 : decode b_FB_invoice 5 = .ok (.astore 5, 2) := by decide +kernel
theorem d_FB_invoice_7 : decode b_FB_invoice 7 = .ok (.aload 5, 2) := by decide +kernel
theorem d_FB_invoice_9 : decode b_FB_invoice 9 = .ok (.ifnonnull 7, 3) := by decide +kernel
theorem d_FB_invoice_12 : decode b_FB_invoice 12 = .ok (.ldc2_w 125, 3) := by decide +kernel
theorem d_FB_invoice_15 : decode b_FB_invoice 15 = .ok (.lreturn, 1) := by decide +kernel
theorem d_FB_invoice_16 : decode b_FB_invoice 16 = .ok (.iload_n 2, 1) := by decide +kernel
theorem d_FB_invoice_17 : decode b_FB_invoice 17 = .ok (.i2l, 1) := by decide +kernel
theorem d_FB_invoice_18 : decode b_FB_invoice 18 = .ok (.lconst 1, 1) := by decide +kernel
theorem d_FB_invoice_19 : decode b_FB_invoice 19 = .ok (.ldc2_w 84, 3) := by decide +kernel
theorem d_FB_invoice_22 : decode b_FB_invoice 22 = .ok (.invokestatic 61, 3) := by decide +kernel
theorem d_FB_invoice_25 : decode b_FB_invoice 25 = .ok (.ifCond .eq 24, 3) := by decide +kernel
theorem d_FB_invoice_28 : decode b_FB_invoice 28 = .ok (.aload_n 0, 1) := by decide +kernel
theorem d_FB_invoice_29 : decode b_FB_invoice 29 = .ok (.iload_n 3, 1) := by decide +kernel
theorem d_FB_invoice_30 : decode b_FB_invoice 30 = .ok (.invokevirtual 127, 3) := by decide +kernel
theorem d_FB_invoice_33 : decode b_FB_invoice 33 = .ok (.ifCond .eq 16, 3) := by decide +kernel
theorem d_FB_invoice_36 : decode b_FB_invoice 36 = .ok (.iload 4, 2) := by decide +kernel
theorem d_FB_invoice_38 : decode b_FB_invoice 38 = .ok (.i2l, 1) := by decide +kernel
theorem d_FB_invoice_39 : decode b_FB_invoice 39 = .ok (.lconst 0, 1) := by decide +kernel
theorem d_FB_invoice_40 : decode b_FB_invoice 40 = .ok (.ldc2_w 130, 3) := by decide +kernel
theorem d_FB_invoice_43 : decode b_FB_invoice 43 = .ok (.invokestatic 61, 3) := by decide +kernel
theorem d_FB_invoice_46 : decode b_FB_invoice 46 = .ok (.ifCond .ne 7, 3) := by decide +kernel
theorem d_FB_invoice_49 : decode b_FB_invoice 49 = .ok (.ldc2_w 132, 3) := by decide +kernel
theorem d_FB_invoice_52 : decode b_FB_invoice 52 = .ok (.lreturn, 1) := by decide +kernel
theorem d_FB_invoice_53 : decode b_FB_invoice 53 = .ok (.iload 4, 2) := by decide +kernel
theorem d_FB_invoice_55 : decode b_FB_invoice 55 = .ok (.bipush 30, 2) := by decide +kernel
theorem d_FB_invoice_57 : decode b_FB_invoice 57 = .ok (.idiv, 1) := by decide +kernel
theorem d_FB_invoice_58 : decode b_FB_invoice 58 = .ok (.istore 6, 2) := by decide +kernel
theorem d_FB_invoice_60 : decode b_FB_invoice 60 = .ok (.aload 5, 2) := by decide +kernel
theorem d_FB_invoice_62 : decode b_FB_invoice 62 = .ok (.iload 6, 2) := by decide +kernel
theorem d_FB_invoice_64 : decode b_FB_invoice 64 = .ok (.invokevirtual 134, 3) := by decide +kernel
theorem d_FB_invoice_67 : decode b_FB_invoice 67 = .ok (.ifCond .ne 7, 3) := by decide +kernel
theorem d_FB_invoice_70 : decode b_FB_invoice 70 = .ok (.ldc2_w 137, 3) := by decide +kernel
theorem d_FB_invoice_73 : decode b_FB_invoice 73 = .ok (.lreturn, 1) := by decide +kernel
theorem d_FB_invoice_74 : decode b_FB_invoice 74 = .ok (.aload_n 0, 1) := by decide +kernel
theorem d_FB_invoice_75 : decode b_FB_invoice 75 = .ok (.iload_n 3, 1) := by decide +kernel
theorem d_FB_invoice_76 : decode b_FB_invoice 76 = .ok (.iload 4, 2) := by decide +kernel
theorem d_FB_invoice_78 : decode b_FB_invoice 78 = .ok (.invokevirtual 139, 3) := by decide +kernel
theorem d_FB_invoice_81 : decode b_FB_invoice 81 = .ok (.astore 7, 2) := by decide +kernel
theorem d_FB_invoice_83 : decode b_FB_invoice 83 = .ok (.aload 7, 2) := by decide +kernel
theorem d_FB_invoice_85 : decode b_FB_invoice 85 = .ok (.ifnonnull 11, 3) := by decide +kernel
theorem d_FB_invoice_88 : decode b_FB_invoice 88 = .ok (.iload_n 3, 1) := by decide +kernel
theorem d_FB_invoice_89 : decode b_FB_invoice 89 = .ok (.ifCond .eq 7, 3) := by decide +kernel
theorem d_FB_invoice_92 : decode b_FB_invoice 92 = .ok (.ldc2_w 143, 3) := by decide +kernel
theorem d_FB_invoice_95 : decode b_FB_invoice 95 = .ok (.lreturn, 1) := by decide +kernel
theorem d_FB_invoice_96 : decode b_FB_invoice 96 = .ok (.aload 7, 2) := by decide +kernel
theorem d_FB_invoice_98 : decode b_FB_invoice 98 = .ok (.ifnonnull 8, 3) := by decide +kernel
theorem d_FB_invoice_101 : decode b_FB_invoice 101 = .ok (.iload_n 2, 1) := by decide +kernel
theorem d_FB_invoice_102 : decode b_FB_invoice 102 = .ok (.i2l, 1) := by decide +kernel
theorem d_FB_invoice_103 : decode b_FB_invoice 103 = .ok (.goto 9, 3) := by decide +kernel
theorem d_FB_invoice_106 : decode b_FB_invoice 106 = .ok (.aload 7, 2) := by decide +kernel
theorem d_FB_invoice_108 : decode b_FB_invoice 108 = .ok (.iload_n 2, 1) := by decide +kernel
theorem d_FB_invoice_109 : decode b_FB_invoice 109 = .ok (.invokevirtual 145, 3) := by decide +kernel
theorem d_FB_invoice_112 : decode b_FB_invoice 112 = .ok (.lstore 8, 2) := by decide +kernel
theorem d_FB_invoice_114 : decode b_FB_invoice 114 = .ok (.aload 5, 2) := by decide +kernel
theorem d_FB_invoice_116 : decode b_FB_invoice 116 = .ok (.lload 8, 2) := by decide +kernel
theorem d_FB_invoice_118 : decode b_FB_invoice 118 = .ok (.aload_n 0, 1) := by decide +kernel
theorem d_FB_invoice_119 : decode b_FB_invoice 119 = .ok (.getfield 40, 3) := by decide +kernel
theorem d_FB_invoice_122 : decode b_FB_invoice 122 = .ok (.invokevirtual 149, 3) := by decide +kernel
theorem d_FB_invoice_125 : decode b_FB_invoice 125 = .ok (.ifCond .ne 7, 3) := by decide +kernel
theorem d_FB_invoice_128 : decode b_FB_invoice 128 = .ok (.ldc2_w 153, 3) := by decide +kernel
theorem d_FB_invoice_131 : decode b_FB_invoice 131 = .ok (.lreturn, 1) := by decide +kernel
theorem d_FB_invoice_132 : decode b_FB_invoice 132 = .ok (.aload 5, 2) := by decide +kernel
theorem d_FB_invoice_134 : decode b_FB_invoice 134 = .ok (.lload 8, 2) := by decide +kernel
theorem d_FB_invoice_136 : decode b_FB_invoice 136 = .ok (.invokevirtual 155, 3) := by decide +kernel
theorem d_FB_invoice_139 : decode b_FB_invoice 139 = .ok (.ifCond .ne 7, 3) := by decide +kernel
theorem d_FB_invoice_142 : decode b_FB_invoice 142 = .ok (.ldc2_w 159, 3) := by decide +kernel
theorem d_FB_invoice_145 : decode b_FB_invoice 145 = .ok (.lreturn, 1) := by decide +kernel
theorem d_FB_invoice_146 : decode b_FB_invoice 146 = .ok (.aload 5, 2) := by decide +kernel
theorem d_FB_invoice_148 : decode b_FB_invoice 148 = .ok (.lload 8, 2) := by decide +kernel
theorem d_FB_invoice_150 : decode b_FB_invoice 150 = .ok (.iload 6, 2) := by decide +kernel
theorem d_FB_invoice_152 : decode b_FB_invoice 152 = .ok (.invokevirtual 161, 3) := by decide +kernel
theorem d_FB_invoice_155 : decode b_FB_invoice 155 = .ok (.lload 8, 2) := by decide +kernel
theorem d_FB_invoice_157 : decode b_FB_invoice 157 = .ok (.lreturn, 1) := by decide +kernel
set_option maxHeartbeats 4000000 in
set_option maxRecDepth 100000 in
theorem c_FB_invoice (l : Launch) (dC : Nat → ClassId) (dI : Nat → Nat → Nat) (cs : Nat → ClassId) (o : Nat) (th yr : Int32) (nf no nt : Nat) (bd : Int32) (nb : Nat) (fl : Int32) (AI : Nat → Nat → Int32) (AN : Nat → Nat → Nat) (AB : Nat → Nat → Bool) (AL : Nat → Nat → Int64) (L : List Nat) (f : Nat → va_E) (sz : Nat) (i0 c0 cu on : Int32) (hCS : CS cs o (th, yr, nf, no, nt, bd, nb, fl, AI, AN, AB, AL) L f) : Met l y_FB_invoice w_FB_invoice { frames := 4, cells := 0, slots := 0, locals := 94 } (mu_P (dC, dI) classes (ctys cs) (va_pl L f) sz [.ref o, .int i0, .int c0, .int cu, .int on]) (va_Ql (fun r u => r = (m_invoice (th, yr, nf, no, nt, bd, nb, fl, AI, AN, AB, AL) i0 c0 cu on).1 ∧ CS cs o (m_invoice (th, yr, nf, no, nt, bd, nb, fl, AI, AN, AB, AL) i0 c0 cu on).2 u.1 u.2) (mu_B (dC, dI) classes (ctys cs) (va_A (va_pl L f) sz) fw_w) (va_A (va_pl L f) sz)) 0 0 (va_A (va_pl L f) sz) := by
  obtain ⟨n, ad, e0, bl, rx, rfl, hC, hR, hM, hB, hZ⟩ := hCS
  obtain ⟨⟨n0, n1, n2, n3, n4, n5⟩, e00, e01, e02, e03, e04, e05, e06, e1, e2, e3, e4, e5, e6⟩ := id hR
  obtain ⟨hnf, hno, hnt, hnb, hfu, hft, hbf, hrw, hce, hdn⟩ := id hM
  have hm00 : ad 0 0 ∈ L := (hC.1 0 0 (by rw [n0]; decide)).1
  have he00 : f (ad 0 0) = .inr (0, [.ref (ad 0 1), .ref (ad 0 2), .ref (ad 0 3), .ref (ad 0 4), .ref (ad 0 5), .int (nI nf), .int (nI no), .int (nI nt), .int yr, .int bd, .int fl]) := (hC.1 0 0 (by rw [n0]; decide)).2.trans e00
  have hm01 : ad 0 1 ∈ L := (hC.1 0 1 (by rw [n0]; decide)).1
  have he01 : f (ad 0 1) = .inl ((cs 0), 30, .inr (.inr (.inr (.inr (fun i => if i < nf then some (ad 1 i) else none))))) := (hC.1 0 1 (by rw [n0]; decide)).2.trans e01
  have hm02 : ad 0 2 ∈ L := (hC.1 0 2 (by rw [n0]; decide)).1
  have he02 : f (ad 0 2) = .inl ((cs 1), 300, .inr (.inr (.inr (.inr (fun i => if i < no then some (ad 2 i) else none))))) := (hC.1 0 2 (by rw [n0]; decide)).2.trans e02
  have hm03 : ad 0 3 ∈ L := (hC.1 0 3 (by rw [n0]; decide)).1
  have he03 : f (ad 0 3) = .inl ((cs 2), 100, .inr (.inr (.inr (.inr (fun i => if i < nt then some (ad 4 i) else none))))) := (hC.1 0 3 (by rw [n0]; decide)).2.trans e03
  have hm04 : ad 0 4 ∈ L := (hC.1 0 4 (by rw [n0]; decide)).1
  have he04 : f (ad 0 4) = .inl ((cs 3), 10, .inr (.inr (.inr (.inr (fun c => if AN 18 c = 0 then none else some (ad 6 (rx c (AN 18 c - 1)))))))) := (hC.1 0 4 (by rw [n0]; decide)).2.trans e04
  have hm05 : ad 0 5 ∈ L := (hC.1 0 5 (by rw [n0]; decide)).1
  have he05 : f (ad 0 5) = .inr (6, [.ref (ad 0 6), .int (nI nb), .long (m_tot AI nb)]) := (hC.1 0 5 (by rw [n0]; decide)).2.trans e05
  have hm06 : ad 0 6 ∈ L := (hC.1 0 6 (by rw [n0]; decide)).1
  have he06 : f (ad 0 6) = .inl ((cs 4), 20, .inr (.inr (.inr (.inr (fun r => if r < nb then some (ad 1 (AN 22 r)) else none))))) := (hC.1 0 6 (by rw [n0]; decide)).2.trans e06
  refine Met.ofW (cc := b_FB_invoice) (maxL := 10) (ret := (some .long)) (by decide) rfl ?_
  intro p e s m args below meth c s₁ B hml hv
  obtain ⟨rfl, hsz, hP, hK, hD0, hN⟩ := hv
  have hx := B.exec
  have hb := B.bytes
  have hr := B.returns
  have hts := atoms_spec (ws := w_FB_invoice) B.pre
  have hG := fun (w : Cond) (h : w ∈ wG) => hts w (List.mem_cons_of_mem _ h)
  have hown : s.vm.findClass R_FB = some m.cls := findClass_of_methodNamed B.named
  have hlocks := B.notSynchronized
  subst hsz
  have hD := hD0.self (sz := s.heap.size)
  generalize hAe : va_A (va_pl L f) s.heap.size = A at hD ⊢
  have hA : ∀ q : Nat, s.heap.size ≤ q → A q := fun q h => by rw [← hAe]; exact Or.inr h
  have hS : va_S A s.heap s.heap [] := va_S.rf
  have hP : va_P (dC, dI) classes (va_pl L f) s.heap := hP
  have hl := lv_entry ([.ref (ad 0 0), .int i0, .int c0, .int cu, .int on]) (n := 10) (Nat.le_of_ble_eq_true rfl)
  rw [lg_entry_eq]
  generalize (lg_sl ([.ref (ad 0 0), .int i0, .int c0, .int cu, .int on]) ++ List.replicate (10 - (lg_sl ([.ref (ad 0 0), .int i0, .int c0, .int cu, .int on])).length) Slot.unset).toArray = ls at hl ⊢
  have hl : lv_has ls 10 [(0, .ref (ad 0 0)), (1, .int i0), (2, .int c0), (3, .int cu), (4, .int on)] := hl
  refine lv_aload_n hx hb d_FB_invoice_0 rfl (lv_at hl 0 rfl) ?_
  refine lv_iload_n hx hb d_FB_invoice_1 rfl (lv_at hl 1 rfl) ?_
  refine rd_callq (va_runV (As := [.int i0]) (rest := []) ⟨hx, hb, hml, hown, hts⟩ (c_FB_purchaseAt l dC dI (ctys cs) L f (ad 0 0) (ad 0 2) (nI nf) (nI no) (nI nt) yr bd fl (ad 0 1) (ad 0 3) (ad 0 4) (ad 0 5) (cs 1) (fun i => if i < no then some (ad 2 i) else none) i0 hm00 he00 hm02 he02 rfl) (cwV 1 hts (gd_V k_231 k_233 k_1 k_14 k_234) rfl rfl rfl (by decide +kernel) ⟨Nat.le_of_ble_eq_true rfl, Nat.le_of_ble_eq_true rfl⟩) (fw_preV hK hN hP rfl hm00 he00) rfl rfl hl.1 rfl (lv_room (Nat.le_of_ble_eq_true rfl)) d_FB_invoice_2 ⟨Nat.zero_le _, Nat.zero_le _⟩) (fun r_1 hr_1 => ?_)
  rcases at_cases hno (by decide) hr_1 with ⟨hq_i0, rfl⟩ | ⟨j, hj, rfl, rfl⟩
  · refine W.eq (g2 := F0 m 5 ls [.null]) rfl ?_
    refine lv_astoreN (lv' := [(5, .null), (0, .ref (ad 0 0)), (1, .int i0), (2, .int c0), (3, .int cu), (4, .int on)]) hx hb d_FB_invoice_5 hl (by decide) rfl (fun ls hl => ?_)
    refine lv_aloadN hx hb d_FB_invoice_7 (lv_at hl 0 rfl) ?_
    refine lv_ifnonnullN hx hb d_FB_invoice_9 ?_
    refine lv_ldc2 (own := R_FB) (v := (-1)) hx hb hown (hG _ k_251) d_FB_invoice_12 ?_
    have hcall : m_invoice (th, yr, nf, no, nt, bd, nb, fl, AI, AN, AB, AL) i0 c0 cu on = ((-1), (0, yr, nf, no, nt, bd, nb, fl, AI, AN, AB, AL)) := (by simp [m_invoice, ixn, bI, hq_i0] <;> (repeat' apply And.intro) <;> rfl)
    have hcs : CS cs (ad 0 0) (0, yr, nf, no, nt, bd, nb, fl, AI, AN, AB, AL) L f := ⟨n, ad, e0, bl, rx, rfl, hC, hR, hM, hB, hZ⟩
    exact W.lret (v := (-1)) hx hb hr (fun t ht hW => ⟨⟨_, (L, f), rfl, by rw [hcall]; exact ⟨rfl, hcs⟩, by rw [ht]; exact hP, va_K.moved hW.alike hK, hD⟩, hS.F ht⟩) hS.2.2 d_FB_invoice_15
  · have ej : (nI j).toNatClampNeg = j := nI_clamp (by omega)
    have hi_j : inN (nI j) no = true := inN_yes (by omega) hj
    refine W.eq (g2 := F0 m 5 ls [.ref (ad 2 j)]) rfl ?_
    have hm_y_2 : ad 2 j ∈ L := (hC.1 2 j (by rw [n2]; exact hj)).1
    have he_y_2 : f (ad 2 j) = .inr (2, [.ref (ad 1 (AN 4 j)), .int (AI 5 j), .int (bI (AB 6 j)), .ref (ad 3 j), .int (AI 7 j), .int (AI 11 j), .int (AI 12 j), .long (AL 10 j)]) := (hC.1 2 j (by rw [n2]; exact hj)).2.trans (e2 j hj)
    have hm_y_3 : ad 3 j ∈ L := (hC.1 3 j (by rw [n3]; exact hj)).1
    have he_y_3 : f (ad 3 j) = .inr (4, [.long (bl 0 j), .long (bl 1 j), .int (AI 9 j)]) := (hC.1 3 j (by rw [n3]; exact hj)).2.trans (e3 j hj)
    have hm_y_4 : ad 1 (AN 4 j) ∈ L := (hC.1 1 (AN 4 j) (by rw [n1]; exact (hfu j hj))).1
    have he_y_4 : f (ad 1 (AN 4 j)) = .inr (1, [.int (nI (AN 4 j)), .int (AI 1 (AN 4 j)), .long (AL 2 (AN 4 j)), .long (m_enc AI AN no (nI (AN 4 j))), .long (AL 3 (AN 4 j)), .long (m_bat AI AN nb (nI (AN 4 j)))]) := (hC.1 1 (AN 4 j) (by rw [n1]; exact (hfu j hj))).2.trans (e1 (AN 4 j) (hfu j hj))
    refine lv_astore (lv' := [(5, .ref (ad 2 j)), (0, .ref (ad 0 0)), (1, .int (nI j)), (2, .int c0), (3, .int cu), (4, .int on)]) hx hb d_FB_invoice_5 hl (by decide) rfl (fun ls hl => ?_)
    refine lv_aload hx hb d_FB_invoice_7 (lv_at hl 0 rfl) ?_
    refine lv_ifnonnull (tgt := 16) hx hb d_FB_invoice_9 (by decide) ?_
    refine lv_iload_n hx hb d_FB_invoice_16 rfl (lv_at hl 3 rfl) ?_
    refine lv_i2l hx hb d_FB_invoice_17 rfl ?_
    refine lv_lconst (v := 1) hx hb d_FB_invoice_18 (by decide) ?_
    refine lv_ldc2 (own := R_FB) (v := 1000000000) hx hb hown (hG _ k_167) d_FB_invoice_19 ?_
    refine rd_calli (va_runS (As := [.long (c0.toInt64), .long 1, .long 1000000000]) (rest := []) ⟨hx, hb, hml, hown, hts⟩ (c_FB_isWithin l dC dI (ctys cs) (va_pl L f) (c0.toInt64) 1 1000000000) (cwS 3 hts (gd_S k_106 k_107 k_14 k_108) rfl rfl rfl (by decide +kernel) ⟨Nat.le_of_ble_eq_true rfl, Nat.le_of_ble_eq_true rfl⟩) (rd_preS hK hN hP) rfl rfl hl.1 rfl (lv_room (Nat.le_of_ble_eq_true rfl)) d_FB_invoice_22 ⟨Nat.zero_le _, Nat.zero_le _⟩) (fun r_5 hr_5 => ?_)
    subst hr_5
    refine lb_if_eq (tgt := 49) hx hb d_FB_invoice_25 (by decide) (fun c_6 => ?_) (fun c_6 => ?_)
    · refine lv_ldc2 (own := R_FB) (v := (-2)) hx hb hown (hG _ k_257) d_FB_invoice_49 ?_
      have hcall : m_invoice (th, yr, nf, no, nt, bd, nb, fl, AI, AN, AB, AL) (nI j) c0 cu on = ((-2), (0, yr, nf, no, nt, bd, nb, fl, AI, AN, AB, AL)) := (by simp [m_invoice, ixn, bI, ej, hi_j, c_6] <;> (repeat' apply And.intro) <;> rfl)
      have hcs : CS cs (ad 0 0) (0, yr, nf, no, nt, bd, nb, fl, AI, AN, AB, AL) L f := ⟨n, ad, e0, bl, rx, rfl, hC, hR, hM, hB, hZ⟩
      exact W.lret (v := (-2)) hx hb hr (fun t ht hW => ⟨⟨_, (L, f), rfl, by rw [hcall]; exact ⟨rfl, hcs⟩, by rw [ht]; exact hP, va_K.moved hW.alike hK, hD⟩, hS.F ht⟩) hS.2.2 d_FB_invoice_52
    · refine lv_aload_n hx hb d_FB_invoice_28 rfl (lv_at hl 1 rfl) ?_
      refine lv_iload_n hx hb d_FB_invoice_29 rfl (lv_at hl 4 rfl) ?_
      refine rd_calli (va_runV (As := [.int cu]) (rest := []) ⟨hx, hb, hml, hown, hts⟩ (c_FB_isCurrency l dC dI (ctys cs) L f (ad 0 0) (ad 0 4) (nI nf) (nI no) (nI nt) yr bd fl (ad 0 1) (ad 0 2) (ad 0 3) (ad 0 5) (cs 3) (fun c => if AN 18 c = 0 then none else some (ad 6 (rx c (AN 18 c - 1)))) cu hm00 he00 hm04 he04 rfl) (cwV 1 hts (gd_V k_252 k_254 k_2 k_14 k_255) rfl rfl rfl (by decide +kernel) ⟨Nat.le_of_ble_eq_true rfl, Nat.le_of_ble_eq_true rfl⟩) (fw_preV hK hN hP rfl hm00 he00) rfl rfl hl.1 rfl (lv_room (Nat.le_of_ble_eq_true rfl)) d_FB_invoice_30 ⟨Nat.zero_le _, Nat.zero_le _⟩) (fun r_7 hr_7 => ?_)
      subst hr_7
      rw [in10_eq]
      refine lb_if_eq (tgt := 49) hx hb d_FB_invoice_33 (by decide) (fun c_8 => ?_) (fun c_8 => ?_)
      · refine lv_ldc2 (own := R_FB) (v := (-2)) hx hb hown (hG _ k_257) d_FB_invoice_49 ?_
        have hcall : m_invoice (th, yr, nf, no, nt, bd, nb, fl, AI, AN, AB, AL) (nI j) c0 cu on = ((-2), (0, yr, nf, no, nt, bd, nb, fl, AI, AN, AB, AL)) := (by simp [m_invoice, ixn, bI, ej, hi_j, c_6, c_8] <;> (repeat' apply And.intro) <;> rfl)
        have hcs : CS cs (ad 0 0) (0, yr, nf, no, nt, bd, nb, fl, AI, AN, AB, AL) L f := ⟨n, ad, e0, bl, rx, rfl, hC, hR, hM, hB, hZ⟩
        exact W.lret (v := (-2)) hx hb hr (fun t ht hW => ⟨⟨_, (L, f), rfl, by rw [hcall]; exact ⟨rfl, hcs⟩, by rw [ht]; exact hP, va_K.moved hW.alike hK, hD⟩, hS.F ht⟩) hS.2.2 d_FB_invoice_52
      · refine lv_iload hx hb d_FB_invoice_36 (lv_at hl 5 rfl) ?_
        refine lv_i2l hx hb d_FB_invoice_38 rfl ?_
        refine lv_lconst (v := 0) hx hb d_FB_invoice_39 (by decide) ?_
        refine lv_ldc2 (own := R_FB) (v := 100000) hx hb hown (hG _ k_256) d_FB_invoice_40 ?_
        refine rd_calli (va_runS (As := [.long (on.toInt64), .long 0, .long 100000]) (rest := []) ⟨hx, hb, hml, hown, hts⟩ (c_FB_isWithin l dC dI (ctys cs) (va_pl L f) (on.toInt64) 0 100000) (cwS 3 hts (gd_S k_106 k_107 k_14 k_108) rfl rfl rfl (by decide +kernel) ⟨Nat.le_of_ble_eq_true rfl, Nat.le_of_ble_eq_true rfl⟩) (rd_preS hK hN hP) rfl rfl hl.1 rfl (lv_room (Nat.le_of_ble_eq_true rfl)) d_FB_invoice_43 ⟨Nat.zero_le _, Nat.zero_le _⟩) (fun r_9 hr_9 => ?_)
        subst hr_9
        refine lb_if_ne (tgt := 53) hx hb d_FB_invoice_46 (by decide) (fun c_10 => ?_) (fun c_10 => ?_)
        · obtain ⟨k, hk, rfl⟩ := in9 c_8
          have ek : (nI k).toNatClampNeg = k := nI_clamp (by omega)
          have hfj := hfu j hj
          refine lv_iload hx hb d_FB_invoice_53 (lv_at hl 5 rfl) ?_
          refine lv_bipush (v := 30) hx hb d_FB_invoice_55 (by decide) ?_
          refine lv_idiv hx hb d_FB_invoice_57 (by decide) ?_
          refine lv_istore (lv' := [(6, .int (on / 30)), (5, .ref (ad 2 j)), (0, .ref (ad 0 0)), (1, .int (nI j)), (2, .int c0), (3, .int (nI k)), (4, .int on)]) hx hb d_FB_invoice_58 hl (by decide) rfl (fun ls hl => ?_)
          refine lv_aload hx hb d_FB_invoice_60 (lv_at hl 1 rfl) ?_
          refine lv_iload hx hb d_FB_invoice_62 (lv_at hl 0 rfl) ?_
          refine rd_calli (va_runV (As := [.int (on / 30)]) (rest := []) ⟨hx, hb, hml, hown, hts⟩ (c_Pu_awaitsInvoiceIn l dC dI (ctys cs) L f (ad 2 j) (AI 5 j) (AI 7 j) (AI 11 j) (AI 12 j) (AL 10 j) (ad 1 (AN 4 j)) (ad 3 j) (AB 6 j) (on / 30) hm_y_2 he_y_2) (cwV 1 hts (gd_V k_258 k_259 k_260 k_19 k_261) rfl rfl rfl (by decide +kernel) ⟨Nat.le_of_ble_eq_true rfl, Nat.le_of_ble_eq_true rfl⟩) (fw_preV hK hN hP rfl hm_y_2 he_y_2) rfl rfl hl.1 rfl (lv_room (Nat.le_of_ble_eq_true rfl)) d_FB_invoice_64 ⟨Nat.zero_le _, Nat.zero_le _⟩) (fun r_11 hr_11 => ?_)
          subst hr_11
          refine lb_if_ne (tgt := 74) hx hb d_FB_invoice_67 (by decide) (fun c_12 => ?_) (fun c_12 => ?_)
          · have hst := aw_t c_12
            have h7 : AI 7 j = 1 := Decidable.not_not.mp (fun q => hst (Or.inl q))
            refine lv_aload_n hx hb d_FB_invoice_74 rfl (lv_at hl 2 rfl) ?_
            refine lv_iload_n hx hb d_FB_invoice_75 rfl (lv_at hl 5 rfl) ?_
            refine lv_iload hx hb d_FB_invoice_76 (lv_at hl 6 rfl) ?_
            refine rd_callq (va_runV (As := [.int (nI k), .int on]) (rest := []) ⟨hx, hb, hml, hown, hts⟩ (c_FB_rateOn l dC dI cs th yr nf no nt bd nb fl AI AN AB AL L f n ad e0 bl rx k on hk hC hR hM hB hZ) (cwV 2 hts (gd_V k_263 k_265 k_3 k_14 k_266) rfl rfl rfl (by decide +kernel) ⟨Nat.le_of_ble_eq_true rfl, Nat.le_of_ble_eq_true rfl⟩) (fw_preV hK hN hP rfl hm00 he00) rfl rfl hl.1 rfl (lv_room (Nat.le_of_ble_eq_true rfl)) d_FB_invoice_78 ⟨Nat.zero_le _, Nat.zero_le _⟩) (fun r_13 hr_13 => ?_)
            rcases hro : m_rowOn AI AN k on with _ | r9
            · rw [hro] at hr_13
              subst hr_13
              refine W.eq (g2 := F0 m 81 ls [.null]) rfl ?_
              refine lv_astoreN (lv' := [(7, .null), (6, .int (on / 30)), (5, .ref (ad 2 j)), (0, .ref (ad 0 0)), (1, .int (nI j)), (2, .int c0), (3, .int (nI k)), (4, .int on)]) hx hb d_FB_invoice_81 hl (by decide) rfl (fun ls hl => ?_)
              refine lv_aloadN hx hb d_FB_invoice_83 (lv_at hl 0 rfl) ?_
              refine lv_ifnonnullN hx hb d_FB_invoice_85 ?_
              refine lv_iload_n hx hb d_FB_invoice_88 rfl (lv_at hl 6 rfl) ?_
              refine lv_if_eq (tgt := 96) hx hb d_FB_invoice_89 (by decide) (fun c_14 => ?_) (fun c_14 => ?_)
              · have hnn : ¬ (m_rowOn AI AN k on = none ∧ 0 < nI k) := fun q => by have h9 := q.2; rw [c_14] at h9; exact absurd h9 (by decide)
                refine lv_aloadN hx hb d_FB_invoice_96 (lv_at hl 0 rfl) ?_
                refine lv_ifnonnullN hx hb d_FB_invoice_98 ?_
                refine lv_iload_n hx hb d_FB_invoice_101 rfl (lv_at hl 5 rfl) ?_
                refine lv_i2l hx hb d_FB_invoice_102 rfl ?_
                refine lv_goto (tgt := 112) hx hb d_FB_invoice_103 (by decide) ?_
                refine lv_topL (y := (m_house AI k c0 (m_rowOn AI AN k on))) (by rw [hro]; rfl) ?_
                refine lv_lstore (lv' := [(8, .long (m_house AI k c0 (m_rowOn AI AN k on))), (7, .null), (6, .int (on / 30)), (5, .ref (ad 2 j)), (0, .ref (ad 0 0)), (1, .int (nI j)), (2, .int c0), (3, .int (nI k)), (4, .int on)]) hx hb d_FB_invoice_112 hl (by decide) rfl (fun ls hl => ?_)
                refine lv_aload hx hb d_FB_invoice_114 (lv_at hl 3 rfl) ?_
                refine lv_lload hx hb d_FB_invoice_116 (lv_at hl 0 rfl) ?_
                refine lv_aload_n hx hb d_FB_invoice_118 rfl (lv_at hl 4 rfl) ?_
                refine fw_get (D := (dC, dI)) (ci := 0) (v := .int bd) (C := R_FB) (T := F_FB) (N := 11) hx hb hG iG_FB hown hK hP hm00 he00 rfl 9 (by decide) (hG _ k_76) (fun _ h9 => h9) rfl d_FB_invoice_119 ?_
                refine rd_calli (va_runV (As := [.long (m_house AI k c0 (m_rowOn AI AN k on)), .int bd]) (rest := []) ⟨hx, hb, hml, hown, hts⟩ (c_Pu_isInBand l dC dI (ctys cs) L f (ad 2 j) (AI 5 j) (AI 7 j) (AI 11 j) (AI 12 j) (AL 10 j) (ad 1 (AN 4 j)) (ad 3 j) (AB 6 j) (m_house AI k c0 (m_rowOn AI AN k on)) bd hm_y_2 he_y_2) (cwV 2 hts (gd_V k_272 k_273 k_274 k_19 k_275) rfl rfl rfl (by decide +kernel) ⟨Nat.le_of_ble_eq_true rfl, Nat.le_of_ble_eq_true rfl⟩) (fw_preV hK hN hP rfl hm_y_2 he_y_2) rfl rfl hl.1 rfl (lv_room (Nat.le_of_ble_eq_true rfl)) d_FB_invoice_122 ⟨Nat.zero_le _, Nat.zero_le _⟩) (fun r_15 hr_15 => ?_)
                subst hr_15
                refine lb_if_ne (tgt := 132) hx hb d_FB_invoice_125 (by decide) (fun c_16 => ?_) (fun c_16 => ?_)
                · refine lv_aload hx hb d_FB_invoice_132 (lv_at hl 3 rfl) ?_
                  refine lv_lload hx hb d_FB_invoice_134 (lv_at hl 0 rfl) ?_
                  refine rd_calli (va_runV (As := [.long (m_house AI k c0 (m_rowOn AI AN k on))]) (rest := []) ⟨hx, hb, hml, hown, hts⟩ (c_Pu_hasRoomToPay l dC dI (ctys cs) L f (ad 2 j) (ad 1 (AN 4 j)) (AI 5 j) (AI 7 j) (AI 11 j) (AI 12 j) (AL 10 j) (ad 3 j) (AB 6 j) (nI (AN 4 j)) (AI 1 (AN 4 j)) (AL 2 (AN 4 j)) (m_enc AI AN no (nI (AN 4 j))) (AL 3 (AN 4 j)) (m_bat AI AN nb (nI (AN 4 j))) (m_house AI k c0 (m_rowOn AI AN k on)) hm_y_2 he_y_2 hm_y_4 he_y_4) (cwV 1 hts (gd_V k_279 k_280 k_281 k_19 k_282) rfl rfl rfl (by decide +kernel) ⟨Nat.le_of_ble_eq_true rfl, Nat.le_of_ble_eq_true rfl⟩) (fw_preV hK hN hP rfl hm_y_2 he_y_2) rfl rfl hl.1 rfl (lv_room (Nat.le_of_ble_eq_true rfl)) d_FB_invoice_136 ⟨Nat.zero_le _, Nat.zero_le _⟩) (fun r_17 hr_17 => ?_)
                  subst hr_17
                  rw [fits_eq (pay_bnd hM _ (hce j hj)) (rel_neg (hce j hj))]
                  refine lb_if_ne (tgt := 146) hx hb d_FB_invoice_139 (by decide) (fun c_18 => ?_) (fun c_18 => ?_)
                  · refine lv_aload hx hb d_FB_invoice_146 (lv_at hl 3 rfl) ?_
                    refine lv_lload hx hb d_FB_invoice_148 (lv_at hl 0 rfl) ?_
                    refine lv_iload hx hb d_FB_invoice_150 (lv_at hl 2 rfl) ?_
                    refine mu_callv (va_runV (As := [.long (m_house AI k c0 (m_rowOn AI AN k on)), .int (on / 30)]) (rest := []) ⟨hx, hb, hml, hown, hts⟩ (c_Pu_pay l dC dI (ctys cs) L f _ (ad 2 j) (ad 1 (AN 4 j)) (AI 5 j) (AI 7 j) (AI 11 j) (AI 12 j) (AL 10 j) (ad 3 j) (AB 6 j) (nI (AN 4 j)) (AI 1 (AN 4 j)) (AL 2 (AN 4 j)) (m_enc AI AN no (nI (AN 4 j))) (AL 3 (AN 4 j)) (m_bat AI AN nb (nI (AN 4 j))) (m_house AI k c0 (m_rowOn AI AN k on)) (on / 30) hm_y_2 he_y_2 hm_y_4 he_y_4) (cwV 2 hts (gd_V k_289 k_290 k_291 k_19 k_292) rfl rfl rfl (by decide +kernel) ⟨Nat.le_of_ble_eq_true rfl, Nat.le_of_ble_eq_true rfl⟩) (fw_mreV hK hN hP hD rfl hm_y_2 he_y_2) rfl rfl hl.1 rfl (lv_room (Nat.le_of_ble_eq_true rfl)) d_FB_invoice_152 ⟨Nat.zero_le _, Nat.zero_le _⟩) hD hS hA (fun ur_19 H locs hr_19 hP hD hS => ?_)
                    subst hr_19
                    obtain ⟨f_20, ef_20⟩ : ∃ z, z = va_up f (ad 1 (AN 4 j)) (.inr (1, [.int (nI (AN 4 j)), .int (AI 1 (AN 4 j)), .long (AL 2 (AN 4 j)), .long ((m_enc AI AN no (nI (AN 4 j))) - (if (AB 6 j) = true then 0 else (AI 5 j)).toInt64), .long ((AL 3 (AN 4 j)) + (m_house AI k c0 (m_rowOn AI AN k on))), .long (m_bat AI AN nb (nI (AN 4 j)))])) := ⟨_, rfl⟩
                    have he_21 : f_20 (ad 0 0) = .inr (0, [.ref (ad 0 1), .ref (ad 0 2), .ref (ad 0 3), .ref (ad 0 4), .ref (ad 0 5), .int (nI nf), .int (nI no), .int (nI nt), .int yr, .int bd, .int fl]) := by rw [ef_20, va_up_ne _ _ (fw_ne he00 he_y_4 (show (1 : Nat) ≠ 2 by decide))]; exact he00
                    have he_22 : f_20 (ad 0 1) = .inl ((cs 0), 30, .inr (.inr (.inr (.inr (fun i => if i < nf then some (ad 1 i) else none))))) := by rw [ef_20, va_up_ne _ _ (fw_ne he01 he_y_4 (show (0 : Nat) ≠ 2 by decide))]; exact he01
                    have he_23 : f_20 (ad 0 2) = .inl ((cs 1), 300, .inr (.inr (.inr (.inr (fun i => if i < no then some (ad 2 i) else none))))) := by rw [ef_20, va_up_ne _ _ (fw_ne he02 he_y_4 (show (0 : Nat) ≠ 2 by decide))]; exact he02
                    have he_24 : f_20 (ad 0 3) = .inl ((cs 2), 100, .inr (.inr (.inr (.inr (fun i => if i < nt then some (ad 4 i) else none))))) := by rw [ef_20, va_up_ne _ _ (fw_ne he03 he_y_4 (show (0 : Nat) ≠ 2 by decide))]; exact he03
                    have he_25 : f_20 (ad 0 4) = .inl ((cs 3), 10, .inr (.inr (.inr (.inr (fun c => if AN 18 c = 0 then none else some (ad 6 (rx c (AN 18 c - 1)))))))) := by rw [ef_20, va_up_ne _ _ (fw_ne he04 he_y_4 (show (0 : Nat) ≠ 2 by decide))]; exact he04
                    have he_26 : f_20 (ad 0 5) = .inr (6, [.ref (ad 0 6), .int (nI nb), .long (m_tot AI nb)]) := by rw [ef_20, va_up_ne _ _ (fw_ne he05 he_y_4 (show (7 : Nat) ≠ 2 by decide))]; exact he05
                    have he_27 : f_20 (ad 0 6) = .inl ((cs 4), 20, .inr (.inr (.inr (.inr (fun r => if r < nb then some (ad 1 (AN 22 r)) else none))))) := by rw [ef_20, va_up_ne _ _ (fw_ne he06 he_y_4 (show (0 : Nat) ≠ 2 by decide))]; exact he06
                    have he_28 : f_20 (ad 2 j) = .inr (2, [.ref (ad 1 (AN 4 j)), .int (AI 5 j), .int (bI (AB 6 j)), .ref (ad 3 j), .int (AI 7 j), .int (AI 11 j), .int (AI 12 j), .long (AL 10 j)]) := by rw [ef_20, va_up_ne _ _ (fw_ne he_y_2 he_y_4 (show (3 : Nat) ≠ 2 by decide))]; exact he_y_2
                    have he_29 : f_20 (ad 3 j) = .inr (4, [.long (bl 0 j), .long (bl 1 j), .int (AI 9 j)]) := by rw [ef_20, va_up_ne _ _ (fw_ne he_y_3 he_y_4 (show (5 : Nat) ≠ 2 by decide))]; exact he_y_3
                    have he_30 : f_20 (ad 1 (AN 4 j)) = .inr (1, [.int (nI (AN 4 j)), .int (AI 1 (AN 4 j)), .long (AL 2 (AN 4 j)), .long ((m_enc AI AN no (nI (AN 4 j))) - (if (AB 6 j) = true then 0 else (AI 5 j)).toInt64), .long ((AL 3 (AN 4 j)) + (m_house AI k c0 (m_rowOn AI AN k on))), .long (m_bat AI AN nb (nI (AN 4 j)))]) := by rw [ef_20]; exact va_up_self _ _ _
                    obtain ⟨f_31, ef_31⟩ : ∃ z, z = va_up f_20 (ad 2 j) (.inr (2, [.ref (ad 1 (AN 4 j)), .int (AI 5 j), .int (bI (AB 6 j)), .ref (ad 3 j), .int (if (AB 6 j) = true then (AI 7 j) else 2), .int ((AI 11 j) + 1), .int (on / 30), .long ((m_house AI k c0 (m_rowOn AI AN k on)) - (AI 5 j).toInt64)])) := ⟨_, rfl⟩
                    have he_32 : f_31 (ad 0 0) = .inr (0, [.ref (ad 0 1), .ref (ad 0 2), .ref (ad 0 3), .ref (ad 0 4), .ref (ad 0 5), .int (nI nf), .int (nI no), .int (nI nt), .int yr, .int bd, .int fl]) := by rw [ef_31, va_up_ne _ _ (fw_ne he_21 he_28 (show (1 : Nat) ≠ 3 by decide))]; exact he_21
                    have he_33 : f_31 (ad 0 1) = .inl ((cs 0), 30, .inr (.inr (.inr (.inr (fun i => if i < nf then some (ad 1 i) else none))))) := by rw [ef_31, va_up_ne _ _ (fw_ne he_22 he_28 (show (0 : Nat) ≠ 3 by decide))]; exact he_22
                    have he_34 : f_31 (ad 0 2) = .inl ((cs 1), 300, .inr (.inr (.inr (.inr (fun i => if i < no then some (ad 2 i) else none))))) := by rw [ef_31, va_up_ne _ _ (fw_ne he_23 he_28 (show (0 : Nat) ≠ 3 by decide))]; exact he_23
                    have he_35 : f_31 (ad 0 3) = .inl ((cs 2), 100, .inr (.inr (.inr (.inr (fun i => if i < nt then some (ad 4 i) else none))))) := by rw [ef_31, va_up_ne _ _ (fw_ne he_24 he_28 (show (0 : Nat) ≠ 3 by decide))]; exact he_24
                    have he_36 : f_31 (ad 0 4) = .inl ((cs 3), 10, .inr (.inr (.inr (.inr (fun c => if AN 18 c = 0 then none else some (ad 6 (rx c (AN 18 c - 1)))))))) := by rw [ef_31, va_up_ne _ _ (fw_ne he_25 he_28 (show (0 : Nat) ≠ 3 by decide))]; exact he_25
                    have he_37 : f_31 (ad 0 5) = .inr (6, [.ref (ad 0 6), .int (nI nb), .long (m_tot AI nb)]) := by rw [ef_31, va_up_ne _ _ (fw_ne he_26 he_28 (show (7 : Nat) ≠ 3 by decide))]; exact he_26
                    have he_38 : f_31 (ad 0 6) = .inl ((cs 4), 20, .inr (.inr (.inr (.inr (fun r => if r < nb then some (ad 1 (AN 22 r)) else none))))) := by rw [ef_31, va_up_ne _ _ (fw_ne he_27 he_28 (show (0 : Nat) ≠ 3 by decide))]; exact he_27
                    have he_39 : f_31 (ad 2 j) = .inr (2, [.ref (ad 1 (AN 4 j)), .int (AI 5 j), .int (bI (AB 6 j)), .ref (ad 3 j), .int (if (AB 6 j) = true then (AI 7 j) else 2), .int ((AI 11 j) + 1), .int (on / 30), .long ((m_house AI k c0 (m_rowOn AI AN k on)) - (AI 5 j).toInt64)]) := by rw [ef_31]; exact va_up_self _ _ _
                    have he_40 : f_31 (ad 3 j) = .inr (4, [.long (bl 0 j), .long (bl 1 j), .int (AI 9 j)]) := by rw [ef_31, va_up_ne _ _ (fw_ne he_29 he_28 (show (5 : Nat) ≠ 3 by decide))]; exact he_29
                    have he_41 : f_31 (ad 1 (AN 4 j)) = .inr (1, [.int (nI (AN 4 j)), .int (AI 1 (AN 4 j)), .long (AL 2 (AN 4 j)), .long ((m_enc AI AN no (nI (AN 4 j))) - (if (AB 6 j) = true then 0 else (AI 5 j)).toInt64), .long ((AL 3 (AN 4 j)) + (m_house AI k c0 (m_rowOn AI AN k on))), .long (m_bat AI AN nb (nI (AN 4 j)))]) := by rw [ef_31, va_up_ne _ _ (fw_ne he_30 he_28 (show (2 : Nat) ≠ 3 by decide))]; exact he_30
                    have hP : va_P (dC, dI) classes (va_pl L f_31) H := by rw [ef_31, ef_20]; exact hP
                    have hD : va_D A (va_pl L f_31) := by rw [ef_31, ef_20]; exact hD
                    refine lv_lload hx hb d_FB_invoice_155 (lv_at hl 0 rfl) ?_
                    have hcall : m_invoice (th, yr, nf, no, nt, bd, nb, fl, AI, AN, AB, AL) (nI j) c0 (nI k) on = ((m_house AI k c0 (m_rowOn AI AN k on)), (0, yr, nf, no, nt, bd, nb, fl, if AB 6 j = true then u2 (u2 AI 11 j (AI 11 j + 1)) 12 j (on / 30) else u2 (u2 (u2 AI 11 j (AI 11 j + 1)) 12 j (on / 30)) 7 j 2, AN, AB, u2 (u2 AL 3 (AN 4 j) (AL 3 (AN 4 j) + (m_house AI k c0 (m_rowOn AI AN k on)))) 10 j ((m_house AI k c0 (m_rowOn AI AN k on)) - (AI 5 j).toInt64))) := (by simp [m_invoice, ixn, bI, ej, hi_j, ek, c_6, c_8, c_10, hst, hnn, c_16, c_18] <;> (repeat' apply And.intro) <;> rfl)
                    have hcs : CS cs (ad 0 0) (0, yr, nf, no, nt, bd, nb, fl, if AB 6 j = true then u2 (u2 AI 11 j (AI 11 j + 1)) 12 j (on / 30) else u2 (u2 (u2 AI 11 j (AI 11 j + 1)) 12 j (on / 30)) 7 j 2, AN, AB, u2 (u2 AL 3 (AN 4 j) (AL 3 (AN 4 j) + (m_house AI k c0 (m_rowOn AI AN k on)))) 10 j ((m_house AI k c0 (m_rowOn AI AN k on)) - (AI 5 j).toInt64)) L f_31 := (by rw [ef_31, ef_20]; exact CS_pay hC hR hM hB hZ hj h7 (m_house AI k c0 (m_rowOn AI AN k on)) (on / 30))
                    exact W.lret (v := (m_house AI k c0 (m_rowOn AI AN k on))) hx hb hr (fun t ht hW => ⟨⟨_, (L, f_31), rfl, by rw [hcall]; exact ⟨rfl, hcs⟩, by rw [ht]; exact hP, va_K.moved hW.alike hK, hD⟩, hS.F ht⟩) hS.2.2 d_FB_invoice_157
                  · refine lv_ldc2 (own := R_FB) (v := (-4)) hx hb hown (hG _ k_288) d_FB_invoice_142 ?_
                    have hcall : m_invoice (th, yr, nf, no, nt, bd, nb, fl, AI, AN, AB, AL) (nI j) c0 (nI k) on = ((-4), (0, yr, nf, no, nt, bd, nb, fl, AI, AN, AB, AL)) := (by simp [m_invoice, ixn, bI, ej, hi_j, ek, c_6, c_8, c_10, hst, hnn, c_16, c_18] <;> (repeat' apply And.intro) <;> rfl)
                    have hcs : CS cs (ad 0 0) (0, yr, nf, no, nt, bd, nb, fl, AI, AN, AB, AL) L f := ⟨n, ad, e0, bl, rx, rfl, hC, hR, hM, hB, hZ⟩
                    exact W.lret (v := (-4)) hx hb hr (fun t ht hW => ⟨⟨_, (L, f), rfl, by rw [hcall]; exact ⟨rfl, hcs⟩, by rw [ht]; exact hP, va_K.moved hW.alike hK, hD⟩, hS.F ht⟩) hS.2.2 d_FB_invoice_145
                · refine lv_ldc2 (own := R_FB) (v := (-5)) hx hb hown (hG _ k_278) d_FB_invoice_128 ?_
                  have hcall : m_invoice (th, yr, nf, no, nt, bd, nb, fl, AI, AN, AB, AL) (nI j) c0 (nI k) on = ((-5), (0, yr, nf, no, nt, bd, nb, fl, AI, AN, AB, AL)) := (by simp [m_invoice, ixn, bI, ej, hi_j, ek, c_6, c_8, c_10, hst, hnn, c_16] <;> (repeat' apply And.intro) <;> rfl)
                  have hcs : CS cs (ad 0 0) (0, yr, nf, no, nt, bd, nb, fl, AI, AN, AB, AL) L f := ⟨n, ad, e0, bl, rx, rfl, hC, hR, hM, hB, hZ⟩
                  exact W.lret (v := (-5)) hx hb hr (fun t ht hW => ⟨⟨_, (L, f), rfl, by rw [hcall]; exact ⟨rfl, hcs⟩, by rw [ht]; exact hP, va_K.moved hW.alike hK, hD⟩, hS.F ht⟩) hS.2.2 d_FB_invoice_131
              · have hnn : m_rowOn AI AN k on = none ∧ 0 < nI k := ⟨hro, pos_nI hk c_14⟩
                refine lv_ldc2 (own := R_FB) (v := (-6)) hx hb hown (hG _ k_267) d_FB_invoice_92 ?_
                have hcall : m_invoice (th, yr, nf, no, nt, bd, nb, fl, AI, AN, AB, AL) (nI j) c0 (nI k) on = ((-6), (0, yr, nf, no, nt, bd, nb, fl, AI, AN, AB, AL)) := (by simp [m_invoice, ixn, bI, ej, hi_j, ek, c_6, c_8, c_10, hst, hnn] <;> (repeat' apply And.intro) <;> rfl)
                have hcs : CS cs (ad 0 0) (0, yr, nf, no, nt, bd, nb, fl, AI, AN, AB, AL) L f := ⟨n, ad, e0, bl, rx, rfl, hC, hR, hM, hB, hZ⟩
                exact W.lret (v := (-6)) hx hb hr (fun t ht hW => ⟨⟨_, (L, f), rfl, by rw [hcall]; exact ⟨rfl, hcs⟩, by rw [ht]; exact hP, va_K.moved hW.alike hK, hD⟩, hS.F ht⟩) hS.2.2 d_FB_invoice_95
            · rw [hro] at hr_13
              subst hr_13
              refine W.eq (g2 := F0 m 81 ls [.ref (ad 6 (rx k r9))]) rfl ?_
              have hr10 : r9 < AN 18 k := lst_lt hro
              obtain ⟨hrx, her⟩ := e6 k r9 hk hr10
              have hm_ra : ad 6 (rx k r9) ∈ L := (hC.1 6 _ hrx).1
              have he_ra : f (ad 6 (rx k r9)) = .inr (5, [.int (AI 19 (10 * k + r9)), .int (AI 20 (10 * k + r9)), .int (AI 21 (10 * k + r9)), va_rf (if r9 = 0 then none else some (ad 6 (rx k (r9 - 1)))), .int (nI (r9 + 1))]) := (hC.1 6 _ hrx).2.trans her
              have hnn : ¬ (m_rowOn AI AN k on = none ∧ 0 < nI k) := fun q => by rw [hro] at q; cases q.1
              refine lv_astore (lv' := [(7, .ref (ad 6 (rx k r9))), (6, .int (on / 30)), (5, .ref (ad 2 j)), (0, .ref (ad 0 0)), (1, .int (nI j)), (2, .int c0), (3, .int (nI k)), (4, .int on)]) hx hb d_FB_invoice_81 hl (by decide) rfl (fun ls hl => ?_)
              refine lv_aload hx hb d_FB_invoice_83 (lv_at hl 0 rfl) ?_
              refine lv_ifnonnull (tgt := 96) hx hb d_FB_invoice_85 (by decide) ?_
              refine lv_aload hx hb d_FB_invoice_96 (lv_at hl 0 rfl) ?_
              refine lv_ifnonnull (tgt := 106) hx hb d_FB_invoice_98 (by decide) ?_
              refine lv_aload hx hb d_FB_invoice_106 (lv_at hl 0 rfl) ?_
              refine lv_iload_n hx hb d_FB_invoice_108 rfl (lv_at hl 5 rfl) ?_
              refine rd_calll (va_runV (As := [.int c0]) (rest := []) ⟨hx, hb, hml, hown, hts⟩ (c_Ra_inHouse l dC dI (ctys cs) L f (ad 6 (rx k r9)) (AI 19 (10 * k + r9)) (AI 20 (10 * k + r9)) (AI 21 (10 * k + r9)) (nI (r9 + 1)) (if r9 = 0 then none else some (ad 6 (rx k (r9 - 1)))) c0 hm_ra he_ra (ne0_64 (hdn k r9 hk hr10))) (cwV 1 hts (gd_V k_268 k_269 k_270 k_21 k_271) rfl rfl rfl (by decide +kernel) ⟨Nat.le_of_ble_eq_true rfl, Nat.le_of_ble_eq_true rfl⟩) (fw_preV hK hN hP rfl hm_ra he_ra) rfl rfl hl.1 rfl (lv_room (Nat.le_of_ble_eq_true rfl)) d_FB_invoice_109 ⟨Nat.zero_le _, Nat.zero_le _⟩) (fun r_42 hr_42 => ?_)
              subst hr_42
              refine lv_topL (y := (m_house AI k c0 (m_rowOn AI AN k on))) (by rw [hro]; rfl) ?_
              refine lv_lstore (lv' := [(8, .long (m_house AI k c0 (m_rowOn AI AN k on))), (7, .ref (ad 6 (rx k r9))), (6, .int (on / 30)), (5, .ref (ad 2 j)), (0, .ref (ad 0 0)), (1, .int (nI j)), (2, .int c0), (3, .int (nI k)), (4, .int on)]) hx hb d_FB_invoice_112 hl (by decide) rfl (fun ls hl => ?_)
              refine lv_aload hx hb d_FB_invoice_114 (lv_at hl 3 rfl) ?_
              refine lv_lload hx hb d_FB_invoice_116 (lv_at hl 0 rfl) ?_
              refine lv_aload_n hx hb d_FB_invoice_118 rfl (lv_at hl 4 rfl) ?_
              refine fw_get (D := (dC, dI)) (ci := 0) (v := .int bd) (C := R_FB) (T := F_FB) (N := 11) hx hb hG iG_FB hown hK hP hm00 he00 rfl 9 (by decide) (hG _ k_76) (fun _ h9 => h9) rfl d_FB_invoice_119 ?_
              refine rd_calli (va_runV (As := [.long (m_house AI k c0 (m_rowOn AI AN k on)), .int bd]) (rest := []) ⟨hx, hb, hml, hown, hts⟩ (c_Pu_isInBand l dC dI (ctys cs) L f (ad 2 j) (AI 5 j) (AI 7 j) (AI 11 j) (AI 12 j) (AL 10 j) (ad 1 (AN 4 j)) (ad 3 j) (AB 6 j) (m_house AI k c0 (m_rowOn AI AN k on)) bd hm_y_2 he_y_2) (cwV 2 hts (gd_V k_272 k_273 k_274 k_19 k_275) rfl rfl rfl (by decide +kernel) ⟨Nat.le_of_ble_eq_true rfl, Nat.le_of_ble_eq_true rfl⟩) (fw_preV hK hN hP rfl hm_y_2 he_y_2) rfl rfl hl.1 rfl (lv_room (Nat.le_of_ble_eq_true rfl)) d_FB_invoice_122 ⟨Nat.zero_le _, Nat.zero_le _⟩) (fun r_43 hr_43 => ?_)
              subst hr_43
              refine lb_if_ne (tgt := 132) hx hb d_FB_invoice_125 (by decide) (fun c_44 => ?_) (fun c_44 => ?_)
              · refine lv_aload hx hb d_FB_invoice_132 (lv_at hl 3 rfl) ?_
                refine lv_lload hx hb d_FB_invoice_134 (lv_at hl 0 rfl) ?_
                refine rd_calli (va_runV (As := [.long (m_house AI k c0 (m_rowOn AI AN k on))]) (rest := []) ⟨hx, hb, hml, hown, hts⟩ (c_Pu_hasRoomToPay l dC dI (ctys cs) L f (ad 2 j) (ad 1 (AN 4 j)) (AI 5 j) (AI 7 j) (AI 11 j) (AI 12 j) (AL 10 j) (ad 3 j) (AB 6 j) (nI (AN 4 j)) (AI 1 (AN 4 j)) (AL 2 (AN 4 j)) (m_enc AI AN no (nI (AN 4 j))) (AL 3 (AN 4 j)) (m_bat AI AN nb (nI (AN 4 j))) (m_house AI k c0 (m_rowOn AI AN k on)) hm_y_2 he_y_2 hm_y_4 he_y_4) (cwV 1 hts (gd_V k_279 k_280 k_281 k_19 k_282) rfl rfl rfl (by decide +kernel) ⟨Nat.le_of_ble_eq_true rfl, Nat.le_of_ble_eq_true rfl⟩) (fw_preV hK hN hP rfl hm_y_2 he_y_2) rfl rfl hl.1 rfl (lv_room (Nat.le_of_ble_eq_true rfl)) d_FB_invoice_136 ⟨Nat.zero_le _, Nat.zero_le _⟩) (fun r_45 hr_45 => ?_)
                subst hr_45
                rw [fits_eq (pay_bnd hM _ (hce j hj)) (rel_neg (hce j hj))]
                refine lb_if_ne (tgt := 146) hx hb d_FB_invoice_139 (by decide) (fun c_46 => ?_) (fun c_46 => ?_)
                · refine lv_aload hx hb d_FB_invoice_146 (lv_at hl 3 rfl) ?_
                  refine lv_lload hx hb d_FB_invoice_148 (lv_at hl 0 rfl) ?_
                  refine lv_iload hx hb d_FB_invoice_150 (lv_at hl 2 rfl) ?_
                  refine mu_callv (va_runV (As := [.long (m_house AI k c0 (m_rowOn AI AN k on)), .int (on / 30)]) (rest := []) ⟨hx, hb, hml, hown, hts⟩ (c_Pu_pay l dC dI (ctys cs) L f _ (ad 2 j) (ad 1 (AN 4 j)) (AI 5 j) (AI 7 j) (AI 11 j) (AI 12 j) (AL 10 j) (ad 3 j) (AB 6 j) (nI (AN 4 j)) (AI 1 (AN 4 j)) (AL 2 (AN 4 j)) (m_enc AI AN no (nI (AN 4 j))) (AL 3 (AN 4 j)) (m_bat AI AN nb (nI (AN 4 j))) (m_house AI k c0 (m_rowOn AI AN k on)) (on / 30) hm_y_2 he_y_2 hm_y_4 he_y_4) (cwV 2 hts (gd_V k_289 k_290 k_291 k_19 k_292) rfl rfl rfl (by decide +kernel) ⟨Nat.le_of_ble_eq_true rfl, Nat.le_of_ble_eq_true rfl⟩) (fw_mreV hK hN hP hD rfl hm_y_2 he_y_2) rfl rfl hl.1 rfl (lv_room (Nat.le_of_ble_eq_true rfl)) d_FB_invoice_152 ⟨Nat.zero_le _, Nat.zero_le _⟩) hD hS hA (fun ur_47 H locs hr_47 hP hD hS => ?_)
                  subst hr_47
                  obtain ⟨f_48, ef_48⟩ : ∃ z, z = va_up f (ad 1 (AN 4 j)) (.inr (1, [.int (nI (AN 4 j)), .int (AI 1 (AN 4 j)), .long (AL 2 (AN 4 j)), .long ((m_enc AI AN no (nI (AN 4 j))) - (if (AB 6 j) = true then 0 else (AI 5 j)).toInt64), .long ((AL 3 (AN 4 j)) + (m_house AI k c0 (m_rowOn AI AN k on))), .long (m_bat AI AN nb (nI (AN 4 j)))])) := ⟨_, rfl⟩
                  have he_49 : f_48 (ad 0 0) = .inr (0, [.ref (ad 0 1), .ref (ad 0 2), .ref (ad 0 3), .ref (ad 0 4), .ref (ad 0 5), .int (nI nf), .int (nI no), .int (nI nt), .int yr, .int bd, .int fl]) := by rw [ef_48, va_up_ne _ _ (fw_ne he00 he_y_4 (show (1 : Nat) ≠ 2 by decide))]; exact he00
                  have he_50 : f_48 (ad 0 1) = .inl ((cs 0), 30, .inr (.inr (.inr (.inr (fun i => if i < nf then some (ad 1 i) else none))))) := by rw [ef_48, va_up_ne _ _ (fw_ne he01 he_y_4 (show (0 : Nat) ≠ 2 by decide))]; exact he01
                  have he_51 : f_48 (ad 0 2) = .inl ((cs 1), 300, .inr (.inr (.inr (.inr (fun i => if i < no then some (ad 2 i) else none))))) := by rw [ef_48, va_up_ne _ _ (fw_ne he02 he_y_4 (show (0 : Nat) ≠ 2 by decide))]; exact he02
                  have he_52 : f_48 (ad 0 3) = .inl ((cs 2), 100, .inr (.inr (.inr (.inr (fun i => if i < nt then some (ad 4 i) else none))))) := by rw [ef_48, va_up_ne _ _ (fw_ne he03 he_y_4 (show (0 : Nat) ≠ 2 by decide))]; exact he03
                  have he_53 : f_48 (ad 0 4) = .inl ((cs 3), 10, .inr (.inr (.inr (.inr (fun c => if AN 18 c = 0 then none else some (ad 6 (rx c (AN 18 c - 1)))))))) := by rw [ef_48, va_up_ne _ _ (fw_ne he04 he_y_4 (show (0 : Nat) ≠ 2 by decide))]; exact he04
                  have he_54 : f_48 (ad 0 5) = .inr (6, [.ref (ad 0 6), .int (nI nb), .long (m_tot AI nb)]) := by rw [ef_48, va_up_ne _ _ (fw_ne he05 he_y_4 (show (7 : Nat) ≠ 2 by decide))]; exact he05
                  have he_55 : f_48 (ad 0 6) = .inl ((cs 4), 20, .inr (.inr (.inr (.inr (fun r => if r < nb then some (ad 1 (AN 22 r)) else none))))) := by rw [ef_48, va_up_ne _ _ (fw_ne he06 he_y_4 (show (0 : Nat) ≠ 2 by decide))]; exact he06
                  have he_56 : f_48 (ad 2 j) = .inr (2, [.ref (ad 1 (AN 4 j)), .int (AI 5 j), .int (bI (AB 6 j)), .ref (ad 3 j), .int (AI 7 j), .int (AI 11 j), .int (AI 12 j), .long (AL 10 j)]) := by rw [ef_48, va_up_ne _ _ (fw_ne he_y_2 he_y_4 (show (3 : Nat) ≠ 2 by decide))]; exact he_y_2
                  have he_57 : f_48 (ad 3 j) = .inr (4, [.long (bl 0 j), .long (bl 1 j), .int (AI 9 j)]) := by rw [ef_48, va_up_ne _ _ (fw_ne he_y_3 he_y_4 (show (5 : Nat) ≠ 2 by decide))]; exact he_y_3
                  have he_58 : f_48 (ad 1 (AN 4 j)) = .inr (1, [.int (nI (AN 4 j)), .int (AI 1 (AN 4 j)), .long (AL 2 (AN 4 j)), .long ((m_enc AI AN no (nI (AN 4 j))) - (if (AB 6 j) = true then 0 else (AI 5 j)).toInt64), .long ((AL 3 (AN 4 j)) + (m_house AI k c0 (m_rowOn AI AN k on))), .long (m_bat AI AN nb (nI (AN 4 j)))]) := by rw [ef_48]; exact va_up_self _ _ _
                  have he_59 : f_48 (ad 6 (rx k r9)) = .inr (5, [.int (AI 19 (10 * k + r9)), .int (AI 20 (10 * k + r9)), .int (AI 21 (10 * k + r9)), va_rf (if r9 = 0 then none else some (ad 6 (rx k (r9 - 1)))), .int (nI (r9 + 1))]) := by rw [ef_48, va_up_ne _ _ (fw_ne he_ra he_y_4 (show (6 : Nat) ≠ 2 by decide))]; exact he_ra
                  obtain ⟨f_60, ef_60⟩ : ∃ z, z = va_up f_48 (ad 2 j) (.inr (2, [.ref (ad 1 (AN 4 j)), .int (AI 5 j), .int (bI (AB 6 j)), .ref (ad 3 j), .int (if (AB 6 j) = true then (AI 7 j) else 2), .int ((AI 11 j) + 1), .int (on / 30), .long ((m_house AI k c0 (m_rowOn AI AN k on)) - (AI 5 j).toInt64)])) := ⟨_, rfl⟩
                  have he_61 : f_60 (ad 0 0) = .inr (0, [.ref (ad 0 1), .ref (ad 0 2), .ref (ad 0 3), .ref (ad 0 4), .ref (ad 0 5), .int (nI nf), .int (nI no), .int (nI nt), .int yr, .int bd, .int fl]) := by rw [ef_60, va_up_ne _ _ (fw_ne he_49 he_56 (show (1 : Nat) ≠ 3 by decide))]; exact he_49
                  have he_62 : f_60 (ad 0 1) = .inl ((cs 0), 30, .inr (.inr (.inr (.inr (fun i => if i < nf then some (ad 1 i) else none))))) := by rw [ef_60, va_up_ne _ _ (fw_ne he_50 he_56 (show (0 : Nat) ≠ 3 by decide))]; exact he_50
                  have he_63 : f_60 (ad 0 2) = .inl ((cs 1), 300, .inr (.inr (.inr (.inr (fun i => if i < no then some (ad 2 i) else none))))) := by rw [ef_60, va_up_ne _ _ (fw_ne he_51 he_56 (show (0 : Nat) ≠ 3 by decide))]; exact he_51
                  have he_64 : f_60 (ad 0 3) = .inl ((cs 2), 100, .inr (.inr (.inr (.inr (fun i => if i < nt then some (ad 4 i) else none))))) := by rw [ef_60, va_up_ne _ _ (fw_ne he_52 he_56 (show (0 : Nat) ≠ 3 by decide))]; exact he_52
                  have he_65 : f_60 (ad 0 4) = .inl ((cs 3), 10, .inr (.inr (.inr (.inr (fun c => if AN 18 c = 0 then none else some (ad 6 (rx c (AN 18 c - 1)))))))) := by rw [ef_60, va_up_ne _ _ (fw_ne he_53 he_56 (show (0 : Nat) ≠ 3 by decide))]; exact he_53
                  have he_66 : f_60 (ad 0 5) = .inr (6, [.ref (ad 0 6), .int (nI nb), .long (m_tot AI nb)]) := by rw [ef_60, va_up_ne _ _ (fw_ne he_54 he_56 (show (7 : Nat) ≠ 3 by decide))]; exact he_54
                  have he_67 : f_60 (ad 0 6) = .inl ((cs 4), 20, .inr (.inr (.inr (.inr (fun r => if r < nb then some (ad 1 (AN 22 r)) else none))))) := by rw [ef_60, va_up_ne _ _ (fw_ne he_55 he_56 (show (0 : Nat) ≠ 3 by decide))]; exact he_55
                  have he_68 : f_60 (ad 2 j) = .inr (2, [.ref (ad 1 (AN 4 j)), .int (AI 5 j), .int (bI (AB 6 j)), .ref (ad 3 j), .int (if (AB 6 j) = true then (AI 7 j) else 2), .int ((AI 11 j) + 1), .int (on / 30), .long ((m_house AI k c0 (m_rowOn AI AN k on)) - (AI 5 j).toInt64)]) := by rw [ef_60]; exact va_up_self _ _ _
                  have he_69 : f_60 (ad 3 j) = .inr (4, [.long (bl 0 j), .long (bl 1 j), .int (AI 9 j)]) := by rw [ef_60, va_up_ne _ _ (fw_ne he_57 he_56 (show (5 : Nat) ≠ 3 by decide))]; exact he_57
                  have he_70 : f_60 (ad 1 (AN 4 j)) = .inr (1, [.int (nI (AN 4 j)), .int (AI 1 (AN 4 j)), .long (AL 2 (AN 4 j)), .long ((m_enc AI AN no (nI (AN 4 j))) - (if (AB 6 j) = true then 0 else (AI 5 j)).toInt64), .long ((AL 3 (AN 4 j)) + (m_house AI k c0 (m_rowOn AI AN k on))), .long (m_bat AI AN nb (nI (AN 4 j)))]) := by rw [ef_60, va_up_ne _ _ (fw_ne he_58 he_56 (show (2 : Nat) ≠ 3 by decide))]; exact he_58
                  have he_71 : f_60 (ad 6 (rx k r9)) = .inr (5, [.int (AI 19 (10 * k + r9)), .int (AI 20 (10 * k + r9)), .int (AI 21 (10 * k + r9)), va_rf (if r9 = 0 then none else some (ad 6 (rx k (r9 - 1)))), .int (nI (r9 + 1))]) := by rw [ef_60, va_up_ne _ _ (fw_ne he_59 he_56 (show (6 : Nat) ≠ 3 by decide))]; exact he_59
                  have hP : va_P (dC, dI) classes (va_pl L f_60) H := by rw [ef_60, ef_48]; exact hP
                  have hD : va_D A (va_pl L f_60) := by rw [ef_60, ef_48]; exact hD
                  refine lv_lload hx hb d_FB_invoice_155 (lv_at hl 0 rfl) ?_
                  have hcall : m_invoice (th, yr, nf, no, nt, bd, nb, fl, AI, AN, AB, AL) (nI j) c0 (nI k) on = ((m_house AI k c0 (m_rowOn AI AN k on)), (0, yr, nf, no, nt, bd, nb, fl, if AB 6 j = true then u2 (u2 AI 11 j (AI 11 j + 1)) 12 j (on / 30) else u2 (u2 (u2 AI 11 j (AI 11 j + 1)) 12 j (on / 30)) 7 j 2, AN, AB, u2 (u2 AL 3 (AN 4 j) (AL 3 (AN 4 j) + (m_house AI k c0 (m_rowOn AI AN k on)))) 10 j ((m_house AI k c0 (m_rowOn AI AN k on)) - (AI 5 j).toInt64))) := (by simp [m_invoice, ixn, bI, ej, hi_j, ek, c_6, c_8, c_10, hst, hnn, c_44, c_46] <;> (repeat' apply And.intro) <;> rfl)
                  have hcs : CS cs (ad 0 0) (0, yr, nf, no, nt, bd, nb, fl, if AB 6 j = true then u2 (u2 AI 11 j (AI 11 j + 1)) 12 j (on / 30) else u2 (u2 (u2 AI 11 j (AI 11 j + 1)) 12 j (on / 30)) 7 j 2, AN, AB, u2 (u2 AL 3 (AN 4 j) (AL 3 (AN 4 j) + (m_house AI k c0 (m_rowOn AI AN k on)))) 10 j ((m_house AI k c0 (m_rowOn AI AN k on)) - (AI 5 j).toInt64)) L f_60 := (by rw [ef_60, ef_48]; exact CS_pay hC hR hM hB hZ hj h7 (m_house AI k c0 (m_rowOn AI AN k on)) (on / 30))
                  exact W.lret (v := (m_house AI k c0 (m_rowOn AI AN k on))) hx hb hr (fun t ht hW => ⟨⟨_, (L, f_60), rfl, by rw [hcall]; exact ⟨rfl, hcs⟩, by rw [ht]; exact hP, va_K.moved hW.alike hK, hD⟩, hS.F ht⟩) hS.2.2 d_FB_invoice_157
                · refine lv_ldc2 (own := R_FB) (v := (-4)) hx hb hown (hG _ k_288) d_FB_invoice_142 ?_
                  have hcall : m_invoice (th, yr, nf, no, nt, bd, nb, fl, AI, AN, AB, AL) (nI j) c0 (nI k) on = ((-4), (0, yr, nf, no, nt, bd, nb, fl, AI, AN, AB, AL)) := (by simp [m_invoice, ixn, bI, ej, hi_j, ek, c_6, c_8, c_10, hst, hnn, c_44, c_46] <;> (repeat' apply And.intro) <;> rfl)
                  have hcs : CS cs (ad 0 0) (0, yr, nf, no, nt, bd, nb, fl, AI, AN, AB, AL) L f := ⟨n, ad, e0, bl, rx, rfl, hC, hR, hM, hB, hZ⟩
                  exact W.lret (v := (-4)) hx hb hr (fun t ht hW => ⟨⟨_, (L, f), rfl, by rw [hcall]; exact ⟨rfl, hcs⟩, by rw [ht]; exact hP, va_K.moved hW.alike hK, hD⟩, hS.F ht⟩) hS.2.2 d_FB_invoice_145
              · refine lv_ldc2 (own := R_FB) (v := (-5)) hx hb hown (hG _ k_278) d_FB_invoice_128 ?_
                have hcall : m_invoice (th, yr, nf, no, nt, bd, nb, fl, AI, AN, AB, AL) (nI j) c0 (nI k) on = ((-5), (0, yr, nf, no, nt, bd, nb, fl, AI, AN, AB, AL)) := (by simp [m_invoice, ixn, bI, ej, hi_j, ek, c_6, c_8, c_10, hst, hnn, c_44] <;> (repeat' apply And.intro) <;> rfl)
                have hcs : CS cs (ad 0 0) (0, yr, nf, no, nt, bd, nb, fl, AI, AN, AB, AL) L f := ⟨n, ad, e0, bl, rx, rfl, hC, hR, hM, hB, hZ⟩
                exact W.lret (v := (-5)) hx hb hr (fun t ht hW => ⟨⟨_, (L, f), rfl, by rw [hcall]; exact ⟨rfl, hcs⟩, by rw [ht]; exact hP, va_K.moved hW.alike hK, hD⟩, hS.F ht⟩) hS.2.2 d_FB_invoice_131
          · have hst := aw_f c_12
            refine lv_ldc2 (own := R_FB) (v := (-3)) hx hb hown (hG _ k_262) d_FB_invoice_70 ?_
            have hcall : m_invoice (th, yr, nf, no, nt, bd, nb, fl, AI, AN, AB, AL) (nI j) c0 (nI k) on = ((-3), (0, yr, nf, no, nt, bd, nb, fl, AI, AN, AB, AL)) := (by simp [m_invoice, ixn, bI, ej, hi_j, ek, c_6, c_8, c_10, hst] <;> (repeat' apply And.intro) <;> rfl)
            have hcs : CS cs (ad 0 0) (0, yr, nf, no, nt, bd, nb, fl, AI, AN, AB, AL) L f := ⟨n, ad, e0, bl, rx, rfl, hC, hR, hM, hB, hZ⟩
            exact W.lret (v := (-3)) hx hb hr (fun t ht hW => ⟨⟨_, (L, f), rfl, by rw [hcall]; exact ⟨rfl, hcs⟩, by rw [ht]; exact hP, va_K.moved hW.alike hK, hD⟩, hS.F ht⟩) hS.2.2 d_FB_invoice_73
        · refine lv_ldc2 (own := R_FB) (v := (-2)) hx hb hown (hG _ k_257) d_FB_invoice_49 ?_
          have hcall : m_invoice (th, yr, nf, no, nt, bd, nb, fl, AI, AN, AB, AL) (nI j) c0 cu on = ((-2), (0, yr, nf, no, nt, bd, nb, fl, AI, AN, AB, AL)) := (by simp [m_invoice, ixn, bI, ej, hi_j, c_6, c_8, c_10] <;> (repeat' apply And.intro) <;> rfl)
          have hcs : CS cs (ad 0 0) (0, yr, nf, no, nt, bd, nb, fl, AI, AN, AB, AL) L f := ⟨n, ad, e0, bl, rx, rfl, hC, hR, hM, hB, hZ⟩
          exact W.lret (v := (-2)) hx hb hr (fun t ht hW => ⟨⟨_, (L, f), rfl, by rw [hcall]; exact ⟨rfl, hcs⟩, by rw [ht]; exact hP, va_K.moved hW.alike hK, hD⟩, hS.F ht⟩) hS.2.2 d_FB_invoice_52
