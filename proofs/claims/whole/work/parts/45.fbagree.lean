theorem d_FB_agree_0 : decode b_FB_agree 0 = .ok (.aload_n 0, 1) := by decide +kernel
theorem d_FB_agree_1 : decode b_FB_agree 1 = .ok (.iload_n 1, 1) := by decide +kernel
theorem d_FB_agree_2 : decode b_FB_agree 2 = .ok (.invokevirtual 194, 3) := by decide +kernel
theorem d_FB_agree_5 : decode b_FB_agree 5 = .ok (.astore_n 3, 1) := by decide +kernel
theorem d_FB_agree_6 : decode b_FB_agree 6 = .ok (.aload_n 3, 1) := by decide +kernel
theorem d_FB_agree_7 : decode b_FB_agree 7 = .ok (.ifnonnull 5, 3) := by decide +kernel
theorem d_FB_agree_10 : decode b_FB_agree 10 = .ok (.iconst (-1), 1) := by decide +kernel
theorem d_FB_agree_11 : decode b_FB_agree 11 = .ok (.ireturn, 1) := by decide +kernel
theorem d_FB_agree_12 : decode b_FB_agree 12 = .ok (.iload_n 2, 1) := by decide +kernel
theorem d_FB_agree_13 : decode b_FB_agree 13 = .ok (.i2l, 1) := by decide +kernel
theorem d_FB_agree_14 : decode b_FB_agree 14 = .ok (.lconst 0, 1) := by decide +kernel
theorem d_FB_agree_15 : decode b_FB_agree 15 = .ok (.ldc2_w 103, 3) := by decide +kernel
theorem d_FB_agree_18 : decode b_FB_agree 18 = .ok (.invokestatic 61, 3) := by decide +kernel
theorem d_FB_agree_21 : decode b_FB_agree 21 = .ok (.ifCond .ne 6, 3) := by decide +kernel
theorem d_FB_agree_24 : decode b_FB_agree 24 = .ok (.bipush (-2), 2) := by decide +kernel
theorem d_FB_agree_26 : decode b_FB_agree 26 = .ok (.ireturn, 1) := by decide +kernel
theorem d_FB_agree_27 : decode b_FB_agree 27 = .ok (.aload_n 3, 1) := by decide +kernel
theorem d_FB_agree_28 : decode b_FB_agree 28 = .ok (.getfield 198, 3) := by decide +kernel
theorem d_FB_agree_31 : decode b_FB_agree 31 = .ok (.ifCond .ne 14, 3) := by decide +kernel
theorem d_FB_agree_34 : decode b_FB_agree 34 = .ok (.aload_n 3, 1) := by decide +kernel
theorem d_FB_agree_35 : decode b_FB_agree 35 = .ok (.getfield 202, 3) := by decide +kernel
theorem d_FB_agree_38 : decode b_FB_agree 38 = .ok (.iload_n 2, 1) := by decide +kernel
theorem d_FB_agree_39 : decode b_FB_agree 39 = .ok (.invokevirtual 112, 3) := by decide +kernel
theorem d_FB_agree_42 : decode b_FB_agree 42 = .ok (.ifCond .eq 6, 3) := by decide +kernel
theorem d_FB_agree_45 : decode b_FB_agree 45 = .ok (.bipush (-3), 2) := by decide +kernel
theorem d_FB_agree_47 : decode b_FB_agree 47 = .ok (.ireturn, 1) := by decide +kernel
theorem d_FB_agree_48 : decode b_FB_agree 48 = .ok (.aload_n 3, 1) := by decide +kernel
theorem d_FB_agree_49 : decode b_FB_agree 49 = .ok (.invokevirtual 203, 3) := by decide +kernel
theorem d_FB_agree_52 : decode b_FB_agree 52 = .ok (.istore 4, 2) := by decide +kernel
theorem d_FB_agree_54 : decode b_FB_agree 54 = .ok (.iload 4, 2) := by decide +kernel
theorem d_FB_agree_56 : decode b_FB_agree 56 = .ok (.ifCond .eq 13, 3) := by decide +kernel
theorem d_FB_agree_59 : decode b_FB_agree 59 = .ok (.aload_n 3, 1) := by decide +kernel
theorem d_FB_agree_60 : decode b_FB_agree 60 = .ok (.invokevirtual 207, 3) := by decide +kernel
theorem d_FB_agree_63 : decode b_FB_agree 63 = .ok (.ifCond .ne 6, 3) := by decide +kernel
theorem d_FB_agree_66 : decode b_FB_agree 66 = .ok (.bipush (-4), 2) := by decide +kernel
theorem d_FB_agree_68 : decode b_FB_agree 68 = .ok (.ireturn, 1) := by decide +kernel
theorem d_FB_agree_69 : decode b_FB_agree 69 = .ok (.aload_n 3, 1) := by decide +kernel
theorem d_FB_agree_70 : decode b_FB_agree 70 = .ok (.getfield 202, 3) := by decide +kernel
theorem d_FB_agree_73 : decode b_FB_agree 73 = .ok (.iload_n 2, 1) := by decide +kernel
theorem d_FB_agree_74 : decode b_FB_agree 74 = .ok (.invokevirtual 118, 3) := by decide +kernel
theorem d_FB_agree_77 : decode b_FB_agree 77 = .ok (.iload 4, 2) := by decide +kernel
theorem d_FB_agree_79 : decode b_FB_agree 79 = .ok (.ifCond .ne 5, 3) := by decide +kernel
theorem d_FB_agree_82 : decode b_FB_agree 82 = .ok (.iconst 1, 1) := by decide +kernel
theorem d_FB_agree_83 : decode b_FB_agree 83 = .ok (.ireturn, 1) := by decide +kernel
theorem d_FB_agree_84 : decode b_FB_agree 84 = .ok (.aload_n 3, 1) := by decide +kernel
theorem d_FB_agree_85 : decode b_FB_agree 85 = .ok (.invokevirtual 210, 3) := by decide +kernel
theorem d_FB_agree_88 : decode b_FB_agree 88 = .ok (.iconst 2, 1) := by decide +kernel
theorem d_FB_agree_89 : decode b_FB_agree 89 = .ok (.ireturn, 1) := by decide +kernel
set_option maxHeartbeats 4000000 in
set_option maxRecDepth 100000 in
theorem c_FB_agree (l : Launch) (dC : Nat → ClassId) (dI : Nat → Nat → Nat) (cs : Nat → ClassId) (o : Nat) (th yr : Int32) (nf no nt : Nat) (bd : Int32) (nb : Nat) (fl : Int32) (AI : Nat → Nat → Int32) (AN : Nat → Nat → Nat) (AB : Nat → Nat → Bool) (AL : Nat → Nat → Int64) (L : List Nat) (f : Nat → va_E) (sz : Nat) (i0 w0 : Int32) (hCS : CS cs o (th, yr, nf, no, nt, bd, nb, fl, AI, AN, AB, AL) L f) : Met l y_FB_agree w_FB_agree { frames := 4, cells := 0, slots := 0, locals := 92 } (mu_P (dC, dI) classes (ctys cs) (va_pl L f) sz [.ref o, .int i0, .int w0]) (va_Qi (fun r u => r = (m_agree (th, yr, nf, no, nt, bd, nb, fl, AI, AN, AB, AL) i0 w0).1 ∧ CS cs o (m_agree (th, yr, nf, no, nt, bd, nb, fl, AI, AN, AB, AL) i0 w0).2 u.1 u.2) (mu_B (dC, dI) classes (ctys cs) (va_A (va_pl L f) sz) fw_w) (va_A (va_pl L f) sz)) 0 0 (va_A (va_pl L f) sz) := by
  obtain ⟨n, ad, e0, bl, rx, rfl, hC, hR, hM, hB, hZ⟩ := hCS
  obtain ⟨⟨n0, n1, n2, n3, n4, n5⟩, e00, e01, e02, e03, e04, e05, e06, e1, e2, e3, e4, e5, e6⟩ := id hR
  obtain ⟨hnf, hno, hnt, hnb, hfu, hft, hbf, hrw, hce, hdn⟩ := id hM
  have hm00 : ad 0 0 ∈ L := (hC.1 0 0 (by rw [n0]; decide)).1
  have he00 : f (ad 0 0) = .inr (0, [.ref (ad 0 1), .ref (ad 0 2), .ref (ad 0 3), .ref (ad 0 4), .ref (ad 0 5), .int (nI nf), .int (nI no), .int (nI nt), .int yr, .int bd, .int fl]) := (hC.1 0 0 (by rw [n0]; decide)).2.trans e00
  have hm01 : ad 0 1 ∈ L := (hC.1 0 1 (by rw [n0]; decide)).1
  have he01 : f (ad 0 1) = .inl ((cs 0), 30, .inr (.inr (.inr (.inr (fun i => if i < nf then some (ad 1 i) else none))))) := (hC.1 0 1 (by rw [n0]; decide)).2.trans e01
  have hm02 : ad 0 2 ∈ L := (hC.1 0 2 (by rw [n0]; decide)).1
  have he02 : f (ad 0 2) = .inl ((cs 1), 300, .inr (.inr (.inr (.inr (fun i => if i < no then some (ad 2 i) else none))))) := (hC.1 0 2 (by rw [n0]; decide)).2.trans e02
  have hm03 : ad 0 3 ∈ L := (hC.1 0 3 (by rw [n0]; decide)).1
  have he03 : f (ad 0 3) = .inl ((cs 2), 100, .inr (.inr (.inr (.inr (fun i => if i < nt then some (ad 4 i) else none))))) := (hC.1 0 3 (by rw [n0]; decide)).2.trans e03
  have hm04 : ad 0 4 ∈ L := (hC.1 0 4 (by rw [n0]; decide)).1
  have he04 : f (ad 0 4) = .inl ((cs 3), 10, .inr (.inr (.inr (.inr (fun c => if AN 18 c = 0 then none else some (ad 6 (rx c (AN 18 c - 1)))))))) := (hC.1 0 4 (by rw [n0]; decide)).2.trans e04
  have hm05 : ad 0 5 ∈ L := (hC.1 0 5 (by rw [n0]; decide)).1
  have he05 : f (ad 0 5) = .inr (6, [.ref (ad 0 6), .int (nI nb), .long (m_tot AI nb)]) := (hC.1 0 5 (by rw [n0]; decide)).2.trans e05
  have hm06 : ad 0 6 ∈ L := (hC.1 0 6 (by rw [n0]; decide)).1
  have he06 : f (ad 0 6) = .inl ((cs 4), 20, .inr (.inr (.inr (.inr (fun r => if r < nb then some (ad 1 (AN 22 r)) else none))))) := (hC.1 0 6 (by rw [n0]; decide)).2.trans e06
  refine Met.ofW (cc := b_FB_agree) (maxL := 5) (ret := (some .int)) (by decide) rfl ?_
  intro p e s m args below meth c s₁ B hml hv
  obtain ⟨rfl, hsz, hP, hK, hD0, hN⟩ := hv
  have hx := B.exec
  have hb := B.bytes
  have hr := B.returns
  have hts := atoms_spec (ws := w_FB_agree) B.pre
  have hG := fun (w : Cond) (h : w ∈ wG) => hts w (List.mem_cons_of_mem _ h)
  have hown : s.vm.findClass R_FB = some m.cls := findClass_of_methodNamed B.named
  have hlocks := B.notSynchronized
  subst hsz
  have hD := hD0.self (sz := s.heap.size)
  generalize hAe : va_A (va_pl L f) s.heap.size = A at hD ⊢
  have hA : ∀ q : Nat, s.heap.size ≤ q → A q := fun q h => by rw [← hAe]; exact Or.inr h
  have hS : va_S A s.heap s.heap [] := va_S.rf
  have hP : va_P (dC, dI) classes (va_pl L f) s.heap := hP
  have hl := lv_entry ([.ref (ad 0 0), .int i0, .int w0]) (n := 5) (Nat.le_of_ble_eq_true rfl)
  rw [lg_entry_eq]
  generalize (lg_sl ([.ref (ad 0 0), .int i0, .int w0]) ++ List.replicate (5 - (lg_sl ([.ref (ad 0 0), .int i0, .int w0])).length) Slot.unset).toArray = ls at hl ⊢
  have hl : lv_has ls 5 [(0, .ref (ad 0 0)), (1, .int i0), (2, .int w0)] := hl
  refine lv_aload_n hx hb d_FB_agree_0 rfl (lv_at hl 0 rfl) ?_
  refine lv_iload_n hx hb d_FB_agree_1 rfl (lv_at hl 1 rfl) ?_
  refine rd_callq (va_runV (As := [.int i0]) (rest := []) ⟨hx, hb, hml, hown, hts⟩ (c_FB_moveAt l dC dI (ctys cs) L f (ad 0 0) (ad 0 3) (nI nf) (nI no) (nI nt) yr bd fl (ad 0 1) (ad 0 2) (ad 0 4) (ad 0 5) (cs 2) (fun i => if i < nt then some (ad 4 i) else none) i0 hm00 he00 hm03 he03 rfl) (cwV 1 hts (gd_V k_365 k_367 k_4 k_14 k_368) rfl rfl rfl (by decide +kernel) ⟨Nat.le_of_ble_eq_true rfl, Nat.le_of_ble_eq_true rfl⟩) (fw_preV hK hN hP rfl hm00 he00) rfl rfl hl.1 rfl (lv_room (Nat.le_of_ble_eq_true rfl)) d_FB_agree_2 ⟨Nat.zero_le _, Nat.zero_le _⟩) (fun r_1 hr_1 => ?_)
  rcases at_cases hnt (by decide) hr_1 with ⟨hq_i0, rfl⟩ | ⟨k, hk, rfl, rfl⟩
  · refine W.eq (g2 := F0 m 5 ls [.null]) rfl ?_
    refine lv_astore_nN (lv' := [(3, .null), (0, .ref (ad 0 0)), (1, .int i0), (2, .int w0)]) hx hb d_FB_agree_5 rfl hl (by decide) rfl (fun ls hl => ?_)
    refine lv_aload_nN hx hb d_FB_agree_6 rfl (lv_at hl 0 rfl) ?_
    refine lv_ifnonnullN hx hb d_FB_agree_7 ?_
    refine lv_iconst (v := (-1)) hx hb d_FB_agree_10 (by decide) ?_
    have hcall : m_agree (th, yr, nf, no, nt, bd, nb, fl, AI, AN, AB, AL) i0 w0 = ((-1), (0, yr, nf, no, nt, bd, nb, fl, AI, AN, AB, AL)) := (by simp [m_agree, ixn, bI, hq_i0] <;> (repeat' apply And.intro) <;> rfl)
    have hcs : CS cs (ad 0 0) (0, yr, nf, no, nt, bd, nb, fl, AI, AN, AB, AL) L f := ⟨n, ad, e0, bl, rx, rfl, hC, hR, hM, hB, hZ⟩
    exact W.iret (v := (-1)) hx hb hr (fun t ht hW => ⟨⟨_, (L, f), rfl, by rw [hcall]; exact ⟨rfl, hcs⟩, by rw [ht]; exact hP, va_K.moved hW.alike hK, hD⟩, hS.F ht⟩) hS.2.2 d_FB_agree_11
  · have ek : (nI k).toNatClampNeg = k := nI_clamp (by omega)
    have hi_k : inN (nI k) nt = true := inN_yes (by omega) hk
    refine W.eq (g2 := F0 m 5 ls [.ref (ad 4 k)]) rfl ?_
    have hm_y_2 : ad 4 k ∈ L := (hC.1 4 k (by rw [n4]; exact hk)).1
    have he_y_2 : f (ad 4 k) = .inr (3, [.ref (ad 1 (AN 13 k)), .ref (ad 1 (AN 14 k)), .int (AI 15 k), .ref (ad 5 k), .int (bI (AB 16 k))]) := (hC.1 4 k (by rw [n4]; exact hk)).2.trans (e4 k hk)
    have hm_y_3 : ad 5 k ∈ L := (hC.1 5 k (by rw [n5]; exact hk)).1
    have he_y_3 : f (ad 5 k) = .inr (4, [.long (bl 2 k), .long (bl 3 k), .int (m_cnt AB k)]) := (hC.1 5 k (by rw [n5]; exact hk)).2.trans (e5 k hk)
    have hm_y_4 : ad 1 (AN 13 k) ∈ L := (hC.1 1 (AN 13 k) (by rw [n1]; exact (hft k hk).1)).1
    have he_y_4 : f (ad 1 (AN 13 k)) = .inr (1, [.int (nI (AN 13 k)), .int (AI 1 (AN 13 k)), .long (AL 2 (AN 13 k)), .long (m_enc AI AN no (nI (AN 13 k))), .long (AL 3 (AN 13 k)), .long (m_bat AI AN nb (nI (AN 13 k)))]) := (hC.1 1 (AN 13 k) (by rw [n1]; exact (hft k hk).1)).2.trans (e1 (AN 13 k) (hft k hk).1)
    have hm_y_5 : ad 1 (AN 14 k) ∈ L := (hC.1 1 (AN 14 k) (by rw [n1]; exact (hft k hk).2.1)).1
    have he_y_5 : f (ad 1 (AN 14 k)) = .inr (1, [.int (nI (AN 14 k)), .int (AI 1 (AN 14 k)), .long (AL 2 (AN 14 k)), .long (m_enc AI AN no (nI (AN 14 k))), .long (AL 3 (AN 14 k)), .long (m_bat AI AN nb (nI (AN 14 k)))]) := (hC.1 1 (AN 14 k) (by rw [n1]; exact (hft k hk).2.1)).2.trans (e1 (AN 14 k) (hft k hk).2.1)
    refine lv_astore_n (lv' := [(3, .ref (ad 4 k)), (0, .ref (ad 0 0)), (1, .int (nI k)), (2, .int w0)]) hx hb d_FB_agree_5 rfl hl (by decide) rfl (fun ls hl => ?_)
    refine lv_aload_n hx hb d_FB_agree_6 rfl (lv_at hl 0 rfl) ?_
    refine lv_ifnonnull (tgt := 12) hx hb d_FB_agree_7 (by decide) ?_
    refine lv_iload_n hx hb d_FB_agree_12 rfl (lv_at hl 3 rfl) ?_
    refine lv_i2l hx hb d_FB_agree_13 rfl ?_
    refine lv_lconst (v := 0) hx hb d_FB_agree_14 (by decide) ?_
    refine lv_ldc2 (own := R_FB) (v := 99) hx hb hown (hG _ k_235) d_FB_agree_15 ?_
    refine rd_calli (va_runS (As := [.long (w0.toInt64), .long 0, .long 99]) (rest := []) ⟨hx, hb, hml, hown, hts⟩ (c_FB_isWithin l dC dI (ctys cs) (va_pl L f) (w0.toInt64) 0 99) (cwS 3 hts (gd_S k_106 k_107 k_14 k_108) rfl rfl rfl (by decide +kernel) ⟨Nat.le_of_ble_eq_true rfl, Nat.le_of_ble_eq_true rfl⟩) (rd_preS hK hN hP) rfl rfl hl.1 rfl (lv_room (Nat.le_of_ble_eq_true rfl)) d_FB_agree_18 ⟨Nat.zero_le _, Nat.zero_le _⟩) (fun r_6 hr_6 => ?_)
    subst hr_6
    refine lb_if_ne (tgt := 27) hx hb d_FB_agree_21 (by decide) (fun c_7 => ?_) (fun c_7 => ?_)
    · obtain ⟨wq, hwq, rfl⟩ := in99 c_7
      have ewq : (nI wq).toNatClampNeg = wq := nI_clamp (by omega)
      refine lv_aload_n hx hb d_FB_agree_27 rfl (lv_at hl 0 rfl) ?_
      refine fw_getN (D := (dC, dI)) (ci := 3) (v := .int (bI (AB 16 k))) (C := R_Mv) (T := F_Mv) (N := 5) hx hb hG iG_Mv hown hK hP hm_y_2 he_y_2 rfl 4 (by decide) (hN.use k_349) (fun _ h9 => h9) rfl d_FB_agree_28 ?_
      refine lb_if_ne (tgt := 45) hx hb d_FB_agree_31 (by decide) (fun c_8 => ?_) (fun c_8 => ?_)
      · refine lv_bipush (v := (-3)) hx hb d_FB_agree_45 (by decide) ?_
        have hcall : m_agree (th, yr, nf, no, nt, bd, nb, fl, AI, AN, AB, AL) (nI k) (nI wq) = ((-3), (0, yr, nf, no, nt, bd, nb, fl, AI, AN, AB, AL)) := (by simp [m_agree, ixn, bI, ek, hi_k, ewq, c_7, c_8] <;> (repeat' apply And.intro) <;> rfl)
        have hcs : CS cs (ad 0 0) (0, yr, nf, no, nt, bd, nb, fl, AI, AN, AB, AL) L f := ⟨n, ad, e0, bl, rx, rfl, hC, hR, hM, hB, hZ⟩
        exact W.iret (v := (-3)) hx hb hr (fun t ht hW => ⟨⟨_, (L, f), rfl, by rw [hcall]; exact ⟨rfl, hcs⟩, by rw [ht]; exact hP, va_K.moved hW.alike hK, hD⟩, hS.F ht⟩) hS.2.2 d_FB_agree_47
      · refine lv_aload_n hx hb d_FB_agree_34 rfl (lv_at hl 0 rfl) ?_
        refine fw_getN (D := (dC, dI)) (ci := 3) (v := .ref (ad 5 k)) (C := R_Mv) (T := F_Mv) (N := 5) hx hb hG iG_Mv hown hK hP hm_y_2 he_y_2 rfl 3 (by decide) (hN.use k_347) (fun _ h9 => h9) rfl d_FB_agree_35 ?_
        refine lv_iload_n hx hb d_FB_agree_38 rfl (lv_at hl 3 rfl) ?_
        refine rd_calli (va_runV (As := [.int (nI wq)]) (rest := []) ⟨hx, hb, hml, hown, hts⟩ (c_Ap_include l dC dI (ctys cs) L f (ad 5 k) (m_cnt AB k) (bl 2 k) (bl 3 k) (nI wq) hm_y_3 he_y_3) (cwV 1 hts (gd_V k_236 k_237 k_238 k_20 k_239) rfl rfl rfl (by decide +kernel) ⟨Nat.le_of_ble_eq_true rfl, Nat.le_of_ble_eq_true rfl⟩) (fw_preV hK hN hP rfl hm_y_3 he_y_3) rfl rfl hl.1 rfl (lv_room (Nat.le_of_ble_eq_true rfl)) d_FB_agree_39 ⟨Nat.zero_le _, Nat.zero_le _⟩) (fun r_9 hr_9 => ?_)
        subst hr_9
        rw [incl_eq (bl 2 k) (bl 3 k) hwq]
        refine lb_if_eq (tgt := 48) hx hb d_FB_agree_42 (by decide) (fun c_10 => ?_) (fun c_10 => ?_)
        · rw [hB.2 k hk wq hwq] at c_10
          have hfk := hft k hk
          have hab : ad 1 (AN 13 k) ≠ ad 1 (AN 14 k) := hC.ne 1 _ 1 _ (by rw [n1]; exact hfk.1) (by rw [n1]; exact hfk.2.1) (fun q => hfk.2.2 q.2)
          refine lv_aload_n hx hb d_FB_agree_48 rfl (lv_at hl 0 rfl) ?_
          refine rd_calli (va_runV (As := []) (rest := []) ⟨hx, hb, hml, hown, hts⟩ (c_Mv_happensWithOneMore l dC dI (ctys cs) L f (ad 4 k) (ad 1 (AN 13 k)) (ad 5 k) (AI 15 k) (ad 1 (AN 14 k)) (AB 16 k) (nI (AN 13 k)) (AI 1 (AN 13 k)) (AL 2 (AN 13 k)) (m_enc AI AN no (nI (AN 13 k))) (AL 3 (AN 13 k)) (m_bat AI AN nb (nI (AN 13 k))) (m_cnt AB k) (bl 2 k) (bl 3 k) hm_y_2 he_y_2 hm_y_4 he_y_4 hm_y_3 he_y_3) (cwV 0 hts (gd_V k_369 k_370 k_371 k_22 k_372) rfl rfl rfl (by decide +kernel) ⟨Nat.le_of_ble_eq_true rfl, Nat.le_of_ble_eq_true rfl⟩) (fw_preV hK hN hP rfl hm_y_2 he_y_2) rfl rfl hl.1 rfl (lv_room (Nat.le_of_ble_eq_true rfl)) d_FB_agree_49 ⟨Nat.zero_le _, Nat.zero_le _⟩) (fun r_11 hr_11 => ?_)
          subst hr_11
          rw [agr_go]
          refine lv_istore (lv' := [(4, .int (bI (decide (1 < 1 + m_cnt AB k ∧ (AI 15 k).toInt64 ≤ AL 2 (AN 13 k) - m_enc AI AN no (nI (AN 13 k)) - AL 3 (AN 13 k))))), (3, .ref (ad 4 k)), (0, .ref (ad 0 0)), (1, .int (nI k)), (2, .int (nI wq))]) hx hb d_FB_agree_52 hl (by decide) rfl (fun ls hl => ?_)
          refine lv_iload hx hb d_FB_agree_54 (lv_at hl 0 rfl) ?_
          refine lb_if_eq (tgt := 69) hx hb d_FB_agree_56 (by decide) (fun c_12 => ?_) (fun c_12 => ?_)
          · have hgo : ¬ (1 < 1 + m_cnt AB k ∧ (AI 15 k).toInt64 ≤ m_free AI AN AL no (AN 13 k)) := of_decide_eq_false c_12
            refine lv_aload_n hx hb d_FB_agree_69 rfl (lv_at hl 1 rfl) ?_
            refine fw_getN (D := (dC, dI)) (ci := 3) (v := .ref (ad 5 k)) (C := R_Mv) (T := F_Mv) (N := 5) hx hb hG iG_Mv hown hK hP hm_y_2 he_y_2 rfl 3 (by decide) (hN.use k_347) (fun _ h9 => h9) rfl d_FB_agree_70 ?_
            refine lv_iload_n hx hb d_FB_agree_73 rfl (lv_at hl 4 rfl) ?_
            refine mu_callv (va_runV (As := [.int (nI wq)]) (rest := []) ⟨hx, hb, hml, hown, hts⟩ (c_Ap_add l dC dI (ctys cs) L f _ (ad 5 k) (m_cnt AB k) (bl 2 k) (bl 3 k) (nI wq) hm_y_3 he_y_3) (cwV 1 hts (gd_V k_243 k_244 k_245 k_20 k_246) rfl rfl rfl (by decide +kernel) ⟨Nat.le_of_ble_eq_true rfl, Nat.le_of_ble_eq_true rfl⟩) (fw_mreV hK hN hP hD rfl hm_y_3 he_y_3) rfl rfl hl.1 rfl (lv_room (Nat.le_of_ble_eq_true rfl)) d_FB_agree_74 ⟨Nat.zero_le _, Nat.zero_le _⟩) hD hS hA (fun ur_13 H locs hr_13 hP hD hS => ?_)
            subst hr_13
            obtain ⟨f_14, ef_14⟩ : ∃ z, z = va_up f (ad 5 k) (.inr (4, [.long (if 64 ≤ (nI wq) then (bl 2 k) else (bl 2 k) ||| bitO (nI wq)), .long (if 64 ≤ (nI wq) then (bl 3 k) ||| bitO (nI wq) else (bl 3 k)), .int ((m_cnt AB k) + 1)])) := ⟨_, rfl⟩
            have he_15 : f_14 (ad 0 0) = .inr (0, [.ref (ad 0 1), .ref (ad 0 2), .ref (ad 0 3), .ref (ad 0 4), .ref (ad 0 5), .int (nI nf), .int (nI no), .int (nI nt), .int yr, .int bd, .int fl]) := by rw [ef_14, va_up_ne _ _ (fw_ne he00 he_y_3 (show (1 : Nat) ≠ 5 by decide))]; exact he00
            have he_16 : f_14 (ad 0 1) = .inl ((cs 0), 30, .inr (.inr (.inr (.inr (fun i => if i < nf then some (ad 1 i) else none))))) := by rw [ef_14, va_up_ne _ _ (fw_ne he01 he_y_3 (show (0 : Nat) ≠ 5 by decide))]; exact he01
            have he_17 : f_14 (ad 0 2) = .inl ((cs 1), 300, .inr (.inr (.inr (.inr (fun i => if i < no then some (ad 2 i) else none))))) := by rw [ef_14, va_up_ne _ _ (fw_ne he02 he_y_3 (show (0 : Nat) ≠ 5 by decide))]; exact he02
            have he_18 : f_14 (ad 0 3) = .inl ((cs 2), 100, .inr (.inr (.inr (.inr (fun i => if i < nt then some (ad 4 i) else none))))) := by rw [ef_14, va_up_ne _ _ (fw_ne he03 he_y_3 (show (0 : Nat) ≠ 5 by decide))]; exact he03
            have he_19 : f_14 (ad 0 4) = .inl ((cs 3), 10, .inr (.inr (.inr (.inr (fun c => if AN 18 c = 0 then none else some (ad 6 (rx c (AN 18 c - 1)))))))) := by rw [ef_14, va_up_ne _ _ (fw_ne he04 he_y_3 (show (0 : Nat) ≠ 5 by decide))]; exact he04
            have he_20 : f_14 (ad 0 5) = .inr (6, [.ref (ad 0 6), .int (nI nb), .long (m_tot AI nb)]) := by rw [ef_14, va_up_ne _ _ (fw_ne he05 he_y_3 (show (7 : Nat) ≠ 5 by decide))]; exact he05
            have he_21 : f_14 (ad 0 6) = .inl ((cs 4), 20, .inr (.inr (.inr (.inr (fun r => if r < nb then some (ad 1 (AN 22 r)) else none))))) := by rw [ef_14, va_up_ne _ _ (fw_ne he06 he_y_3 (show (0 : Nat) ≠ 5 by decide))]; exact he06
            have he_22 : f_14 (ad 4 k) = .inr (3, [.ref (ad 1 (AN 13 k)), .ref (ad 1 (AN 14 k)), .int (AI 15 k), .ref (ad 5 k), .int (bI (AB 16 k))]) := by rw [ef_14, va_up_ne _ _ (fw_ne he_y_2 he_y_3 (show (4 : Nat) ≠ 5 by decide))]; exact he_y_2
            have he_23 : f_14 (ad 5 k) = .inr (4, [.long (if 64 ≤ (nI wq) then (bl 2 k) else (bl 2 k) ||| bitO (nI wq)), .long (if 64 ≤ (nI wq) then (bl 3 k) ||| bitO (nI wq) else (bl 3 k)), .int ((m_cnt AB k) + 1)]) := by rw [ef_14]; exact va_up_self _ _ _
            have he_24 : f_14 (ad 1 (AN 13 k)) = .inr (1, [.int (nI (AN 13 k)), .int (AI 1 (AN 13 k)), .long (AL 2 (AN 13 k)), .long (m_enc AI AN no (nI (AN 13 k))), .long (AL 3 (AN 13 k)), .long (m_bat AI AN nb (nI (AN 13 k)))]) := by rw [ef_14, va_up_ne _ _ (fw_ne he_y_4 he_y_3 (show (2 : Nat) ≠ 5 by decide))]; exact he_y_4
            have he_25 : f_14 (ad 1 (AN 14 k)) = .inr (1, [.int (nI (AN 14 k)), .int (AI 1 (AN 14 k)), .long (AL 2 (AN 14 k)), .long (m_enc AI AN no (nI (AN 14 k))), .long (AL 3 (AN 14 k)), .long (m_bat AI AN nb (nI (AN 14 k)))]) := by rw [ef_14, va_up_ne _ _ (fw_ne he_y_5 he_y_3 (show (2 : Nat) ≠ 5 by decide))]; exact he_y_5
            have hP : va_P (dC, dI) classes (va_pl L f_14) H := by rw [ef_14]; exact hP
            have hD : va_D A (va_pl L f_14) := by rw [ef_14]; exact hD
            refine lv_iload hx hb d_FB_agree_77 (lv_at hl 0 rfl) ?_
            refine lb_if_ne (tgt := 84) hx hb d_FB_agree_79 (by decide) (fun c_26 => ?_) (fun c_26 => ?_)
            · exact absurd (c_12.symm.trans c_26) (by decide)
            · refine lv_iconst (v := 1) hx hb d_FB_agree_82 (by decide) ?_
              have hcall : m_agree (th, yr, nf, no, nt, bd, nb, fl, AI, AN, AB, AL) (nI k) (nI wq) = (1, (0, yr, nf, no, nt, bd, nb, fl, AI, AN, u2 AB 17 (100 * k + wq) true, AL)) := (by simp [m_agree, ixn, bI, ek, hi_k, ewq, c_7, c_8, c_10, hgo] <;> (repeat' apply And.intro) <;> rfl)
              have hcs : CS cs (ad 0 0) (0, yr, nf, no, nt, bd, nb, fl, AI, AN, u2 AB 17 (100 * k + wq) true, AL) L f_14 := ⟨n, ad, _, _, rx, rfl, (by rw [ef_14]; exact hC.put 5 k _ (by rw [n5]; exact hk) rfl), SR_agr hR k hk _ _ wq hwq c_10, hM, InvB_agr hB hwq, InvS_agr hZ hk hwq⟩
              exact W.iret (v := 1) hx hb hr (fun t ht hW => ⟨⟨_, (L, f_14), rfl, by rw [hcall]; exact ⟨rfl, hcs⟩, by rw [ht]; exact hP, va_K.moved hW.alike hK, hD⟩, hS.F ht⟩) hS.2.2 d_FB_agree_83
          · refine lv_aload_n hx hb d_FB_agree_59 rfl (lv_at hl 1 rfl) ?_
            refine rd_calli (va_runV (As := []) (rest := []) ⟨hx, hb, hml, hown, hts⟩ (c_Mv_hasRoom l dC dI (ctys cs) L f (ad 4 k) (ad 1 (AN 13 k)) (ad 1 (AN 14 k)) (AI 15 k) (ad 5 k) (AB 16 k) (nI (AN 13 k)) (AI 1 (AN 13 k)) (AL 2 (AN 13 k)) (m_enc AI AN no (nI (AN 13 k))) (AL 3 (AN 13 k)) (m_bat AI AN nb (nI (AN 13 k))) (nI (AN 14 k)) (AI 1 (AN 14 k)) (AL 2 (AN 14 k)) (m_enc AI AN no (nI (AN 14 k))) (AL 3 (AN 14 k)) (m_bat AI AN nb (nI (AN 14 k))) hm_y_2 he_y_2 hm_y_4 he_y_4 hm_y_5 he_y_5) (cwV 0 hts (gd_V k_374 k_375 k_376 k_22 k_377) rfl rfl rfl (by decide +kernel) ⟨Nat.le_of_ble_eq_true rfl, Nat.le_of_ble_eq_true rfl⟩) (fw_preV hK hN hP rfl hm_y_2 he_y_2) rfl rfl hl.1 rfl (lv_room (Nat.le_of_ble_eq_true rfl)) d_FB_agree_60 ⟨Nat.zero_le _, Nat.zero_le _⟩) (fun r_27 hr_27 => ?_)
            subst hr_27
            rw [fits_eq (enc_bnd hM _) (by decide : (0 : Int64) = -0), fits_eq (enc_bnd hM _) (by decide : (0 : Int64) = -0)]
            refine lb_if_ne (tgt := 69) hx hb d_FB_agree_63 (by decide) (fun c_28 => ?_) (fun c_28 => ?_)
            · have hgo : 1 < 1 + m_cnt AB k ∧ (AI 15 k).toInt64 ≤ m_free AI AN AL no (AN 13 k) := of_decide_eq_true c_12
              have hft2 := (Bool.and_eq_true _ _).mp c_28
              refine lv_aload_n hx hb d_FB_agree_69 rfl (lv_at hl 1 rfl) ?_
              refine fw_getN (D := (dC, dI)) (ci := 3) (v := .ref (ad 5 k)) (C := R_Mv) (T := F_Mv) (N := 5) hx hb hG iG_Mv hown hK hP hm_y_2 he_y_2 rfl 3 (by decide) (hN.use k_347) (fun _ h9 => h9) rfl d_FB_agree_70 ?_
              refine lv_iload_n hx hb d_FB_agree_73 rfl (lv_at hl 4 rfl) ?_
              refine mu_callv (va_runV (As := [.int (nI wq)]) (rest := []) ⟨hx, hb, hml, hown, hts⟩ (c_Ap_add l dC dI (ctys cs) L f _ (ad 5 k) (m_cnt AB k) (bl 2 k) (bl 3 k) (nI wq) hm_y_3 he_y_3) (cwV 1 hts (gd_V k_243 k_244 k_245 k_20 k_246) rfl rfl rfl (by decide +kernel) ⟨Nat.le_of_ble_eq_true rfl, Nat.le_of_ble_eq_true rfl⟩) (fw_mreV hK hN hP hD rfl hm_y_3 he_y_3) rfl rfl hl.1 rfl (lv_room (Nat.le_of_ble_eq_true rfl)) d_FB_agree_74 ⟨Nat.zero_le _, Nat.zero_le _⟩) hD hS hA (fun ur_29 H locs hr_29 hP hD hS => ?_)
              subst hr_29
              obtain ⟨f_30, ef_30⟩ : ∃ z, z = va_up f (ad 5 k) (.inr (4, [.long (if 64 ≤ (nI wq) then (bl 2 k) else (bl 2 k) ||| bitO (nI wq)), .long (if 64 ≤ (nI wq) then (bl 3 k) ||| bitO (nI wq) else (bl 3 k)), .int ((m_cnt AB k) + 1)])) := ⟨_, rfl⟩
              have he_31 : f_30 (ad 0 0) = .inr (0, [.ref (ad 0 1), .ref (ad 0 2), .ref (ad 0 3), .ref (ad 0 4), .ref (ad 0 5), .int (nI nf), .int (nI no), .int (nI nt), .int yr, .int bd, .int fl]) := by rw [ef_30, va_up_ne _ _ (fw_ne he00 he_y_3 (show (1 : Nat) ≠ 5 by decide))]; exact he00
              have he_32 : f_30 (ad 0 1) = .inl ((cs 0), 30, .inr (.inr (.inr (.inr (fun i => if i < nf then some (ad 1 i) else none))))) := by rw [ef_30, va_up_ne _ _ (fw_ne he01 he_y_3 (show (0 : Nat) ≠ 5 by decide))]; exact he01
              have he_33 : f_30 (ad 0 2) = .inl ((cs 1), 300, .inr (.inr (.inr (.inr (fun i => if i < no then some (ad 2 i) else none))))) := by rw [ef_30, va_up_ne _ _ (fw_ne he02 he_y_3 (show (0 : Nat) ≠ 5 by decide))]; exact he02
              have he_34 : f_30 (ad 0 3) = .inl ((cs 2), 100, .inr (.inr (.inr (.inr (fun i => if i < nt then some (ad 4 i) else none))))) := by rw [ef_30, va_up_ne _ _ (fw_ne he03 he_y_3 (show (0 : Nat) ≠ 5 by decide))]; exact he03
              have he_35 : f_30 (ad 0 4) = .inl ((cs 3), 10, .inr (.inr (.inr (.inr (fun c => if AN 18 c = 0 then none else some (ad 6 (rx c (AN 18 c - 1)))))))) := by rw [ef_30, va_up_ne _ _ (fw_ne he04 he_y_3 (show (0 : Nat) ≠ 5 by decide))]; exact he04
              have he_36 : f_30 (ad 0 5) = .inr (6, [.ref (ad 0 6), .int (nI nb), .long (m_tot AI nb)]) := by rw [ef_30, va_up_ne _ _ (fw_ne he05 he_y_3 (show (7 : Nat) ≠ 5 by decide))]; exact he05
              have he_37 : f_30 (ad 0 6) = .inl ((cs 4), 20, .inr (.inr (.inr (.inr (fun r => if r < nb then some (ad 1 (AN 22 r)) else none))))) := by rw [ef_30, va_up_ne _ _ (fw_ne he06 he_y_3 (show (0 : Nat) ≠ 5 by decide))]; exact he06
              have he_38 : f_30 (ad 4 k) = .inr (3, [.ref (ad 1 (AN 13 k)), .ref (ad 1 (AN 14 k)), .int (AI 15 k), .ref (ad 5 k), .int (bI (AB 16 k))]) := by rw [ef_30, va_up_ne _ _ (fw_ne he_y_2 he_y_3 (show (4 : Nat) ≠ 5 by decide))]; exact he_y_2
              have he_39 : f_30 (ad 5 k) = .inr (4, [.long (if 64 ≤ (nI wq) then (bl 2 k) else (bl 2 k) ||| bitO (nI wq)), .long (if 64 ≤ (nI wq) then (bl 3 k) ||| bitO (nI wq) else (bl 3 k)), .int ((m_cnt AB k) + 1)]) := by rw [ef_30]; exact va_up_self _ _ _
              have he_40 : f_30 (ad 1 (AN 13 k)) = .inr (1, [.int (nI (AN 13 k)), .int (AI 1 (AN 13 k)), .long (AL 2 (AN 13 k)), .long (m_enc AI AN no (nI (AN 13 k))), .long (AL 3 (AN 13 k)), .long (m_bat AI AN nb (nI (AN 13 k)))]) := by rw [ef_30, va_up_ne _ _ (fw_ne he_y_4 he_y_3 (show (2 : Nat) ≠ 5 by decide))]; exact he_y_4
              have he_41 : f_30 (ad 1 (AN 14 k)) = .inr (1, [.int (nI (AN 14 k)), .int (AI 1 (AN 14 k)), .long (AL 2 (AN 14 k)), .long (m_enc AI AN no (nI (AN 14 k))), .long (AL 3 (AN 14 k)), .long (m_bat AI AN nb (nI (AN 14 k)))]) := by rw [ef_30, va_up_ne _ _ (fw_ne he_y_5 he_y_3 (show (2 : Nat) ≠ 5 by decide))]; exact he_y_5
              have hP : va_P (dC, dI) classes (va_pl L f_30) H := by rw [ef_30]; exact hP
              have hD : va_D A (va_pl L f_30) := by rw [ef_30]; exact hD
              refine lv_iload hx hb d_FB_agree_77 (lv_at hl 0 rfl) ?_
              refine lb_if_ne (tgt := 84) hx hb d_FB_agree_79 (by decide) (fun c_42 => ?_) (fun c_42 => ?_)
              · refine lv_aload_n hx hb d_FB_agree_84 rfl (lv_at hl 1 rfl) ?_
                refine mu_callv (va_runV (As := []) (rest := []) ⟨hx, hb, hml, hown, hts⟩ (c_Mv_carryOut l dC dI (ctys cs) L f_30 _ (ad 4 k) (ad 1 (AN 13 k)) (ad 1 (AN 14 k)) (AI 15 k) (ad 5 k) (AB 16 k) (nI (AN 13 k)) (AI 1 (AN 13 k)) (AL 2 (AN 13 k)) (m_enc AI AN no (nI (AN 13 k))) (AL 3 (AN 13 k)) (m_bat AI AN nb (nI (AN 13 k))) (nI (AN 14 k)) (AI 1 (AN 14 k)) (AL 2 (AN 14 k)) (m_enc AI AN no (nI (AN 14 k))) (AL 3 (AN 14 k)) (m_bat AI AN nb (nI (AN 14 k))) hm_y_2 he_38 hm_y_4 he_40 hm_y_5 he_41 hab) (cwV 0 hts (gd_V k_379 k_380 k_381 k_22 k_382) rfl rfl rfl (by decide +kernel) ⟨Nat.le_of_ble_eq_true rfl, Nat.le_of_ble_eq_true rfl⟩) (fw_mreV hK hN hP hD rfl hm_y_2 he_38) rfl rfl hl.1 rfl (lv_room (Nat.le_of_ble_eq_true rfl)) d_FB_agree_85 ⟨Nat.zero_le _, Nat.zero_le _⟩) hD hS hA (fun ur_43 H locs hr_43 hP hD hS => ?_)
                subst hr_43
                obtain ⟨f_44, ef_44⟩ : ∃ z, z = va_up f_30 (ad 1 (AN 13 k)) (.inr (1, [.int (nI (AN 13 k)), .int (AI 1 (AN 13 k)), .long ((AL 2 (AN 13 k)) - (AI 15 k).toInt64), .long (m_enc AI AN no (nI (AN 13 k))), .long (AL 3 (AN 13 k)), .long (m_bat AI AN nb (nI (AN 13 k)))])) := ⟨_, rfl⟩
                have he_45 : f_44 (ad 0 0) = .inr (0, [.ref (ad 0 1), .ref (ad 0 2), .ref (ad 0 3), .ref (ad 0 4), .ref (ad 0 5), .int (nI nf), .int (nI no), .int (nI nt), .int yr, .int bd, .int fl]) := by rw [ef_44, va_up_ne _ _ (fw_ne he_31 he_40 (show (1 : Nat) ≠ 2 by decide))]; exact he_31
                have he_46 : f_44 (ad 0 1) = .inl ((cs 0), 30, .inr (.inr (.inr (.inr (fun i => if i < nf then some (ad 1 i) else none))))) := by rw [ef_44, va_up_ne _ _ (fw_ne he_32 he_40 (show (0 : Nat) ≠ 2 by decide))]; exact he_32
                have he_47 : f_44 (ad 0 2) = .inl ((cs 1), 300, .inr (.inr (.inr (.inr (fun i => if i < no then some (ad 2 i) else none))))) := by rw [ef_44, va_up_ne _ _ (fw_ne he_33 he_40 (show (0 : Nat) ≠ 2 by decide))]; exact he_33
                have he_48 : f_44 (ad 0 3) = .inl ((cs 2), 100, .inr (.inr (.inr (.inr (fun i => if i < nt then some (ad 4 i) else none))))) := by rw [ef_44, va_up_ne _ _ (fw_ne he_34 he_40 (show (0 : Nat) ≠ 2 by decide))]; exact he_34
                have he_49 : f_44 (ad 0 4) = .inl ((cs 3), 10, .inr (.inr (.inr (.inr (fun c => if AN 18 c = 0 then none else some (ad 6 (rx c (AN 18 c - 1)))))))) := by rw [ef_44, va_up_ne _ _ (fw_ne he_35 he_40 (show (0 : Nat) ≠ 2 by decide))]; exact he_35
                have he_50 : f_44 (ad 0 5) = .inr (6, [.ref (ad 0 6), .int (nI nb), .long (m_tot AI nb)]) := by rw [ef_44, va_up_ne _ _ (fw_ne he_36 he_40 (show (7 : Nat) ≠ 2 by decide))]; exact he_36
                have he_51 : f_44 (ad 0 6) = .inl ((cs 4), 20, .inr (.inr (.inr (.inr (fun r => if r < nb then some (ad 1 (AN 22 r)) else none))))) := by rw [ef_44, va_up_ne _ _ (fw_ne he_37 he_40 (show (0 : Nat) ≠ 2 by decide))]; exact he_37
                have he_52 : f_44 (ad 4 k) = .inr (3, [.ref (ad 1 (AN 13 k)), .ref (ad 1 (AN 14 k)), .int (AI 15 k), .ref (ad 5 k), .int (bI (AB 16 k))]) := by rw [ef_44, va_up_ne _ _ (fw_ne he_38 he_40 (show (4 : Nat) ≠ 2 by decide))]; exact he_38
                have he_53 : f_44 (ad 5 k) = .inr (4, [.long (if 64 ≤ (nI wq) then (bl 2 k) else (bl 2 k) ||| bitO (nI wq)), .long (if 64 ≤ (nI wq) then (bl 3 k) ||| bitO (nI wq) else (bl 3 k)), .int ((m_cnt AB k) + 1)]) := by rw [ef_44, va_up_ne _ _ (fw_ne he_39 he_40 (show (5 : Nat) ≠ 2 by decide))]; exact he_39
                have he_54 : f_44 (ad 1 (AN 13 k)) = .inr (1, [.int (nI (AN 13 k)), .int (AI 1 (AN 13 k)), .long ((AL 2 (AN 13 k)) - (AI 15 k).toInt64), .long (m_enc AI AN no (nI (AN 13 k))), .long (AL 3 (AN 13 k)), .long (m_bat AI AN nb (nI (AN 13 k)))]) := by rw [ef_44]; exact va_up_self _ _ _
                have he_55 : f_44 (ad 1 (AN 14 k)) = .inr (1, [.int (nI (AN 14 k)), .int (AI 1 (AN 14 k)), .long (AL 2 (AN 14 k)), .long (m_enc AI AN no (nI (AN 14 k))), .long (AL 3 (AN 14 k)), .long (m_bat AI AN nb (nI (AN 14 k)))]) := by rw [ef_44, va_up_ne _ _ (Ne.symm hab)]; exact he_41
                obtain ⟨f_56, ef_56⟩ : ∃ z, z = va_up f_44 (ad 1 (AN 14 k)) (.inr (1, [.int (nI (AN 14 k)), .int (AI 1 (AN 14 k)), .long ((AL 2 (AN 14 k)) + (AI 15 k).toInt64), .long (m_enc AI AN no (nI (AN 14 k))), .long (AL 3 (AN 14 k)), .long (m_bat AI AN nb (nI (AN 14 k)))])) := ⟨_, rfl⟩
                have he_57 : f_56 (ad 0 0) = .inr (0, [.ref (ad 0 1), .ref (ad 0 2), .ref (ad 0 3), .ref (ad 0 4), .ref (ad 0 5), .int (nI nf), .int (nI no), .int (nI nt), .int yr, .int bd, .int fl]) := by rw [ef_56, va_up_ne _ _ (fw_ne he_45 he_55 (show (1 : Nat) ≠ 2 by decide))]; exact he_45
                have he_58 : f_56 (ad 0 1) = .inl ((cs 0), 30, .inr (.inr (.inr (.inr (fun i => if i < nf then some (ad 1 i) else none))))) := by rw [ef_56, va_up_ne _ _ (fw_ne he_46 he_55 (show (0 : Nat) ≠ 2 by decide))]; exact he_46
                have he_59 : f_56 (ad 0 2) = .inl ((cs 1), 300, .inr (.inr (.inr (.inr (fun i => if i < no then some (ad 2 i) else none))))) := by rw [ef_56, va_up_ne _ _ (fw_ne he_47 he_55 (show (0 : Nat) ≠ 2 by decide))]; exact he_47
                have he_60 : f_56 (ad 0 3) = .inl ((cs 2), 100, .inr (.inr (.inr (.inr (fun i => if i < nt then some (ad 4 i) else none))))) := by rw [ef_56, va_up_ne _ _ (fw_ne he_48 he_55 (show (0 : Nat) ≠ 2 by decide))]; exact he_48
                have he_61 : f_56 (ad 0 4) = .inl ((cs 3), 10, .inr (.inr (.inr (.inr (fun c => if AN 18 c = 0 then none else some (ad 6 (rx c (AN 18 c - 1)))))))) := by rw [ef_56, va_up_ne _ _ (fw_ne he_49 he_55 (show (0 : Nat) ≠ 2 by decide))]; exact he_49
                have he_62 : f_56 (ad 0 5) = .inr (6, [.ref (ad 0 6), .int (nI nb), .long (m_tot AI nb)]) := by rw [ef_56, va_up_ne _ _ (fw_ne he_50 he_55 (show (7 : Nat) ≠ 2 by decide))]; exact he_50
                have he_63 : f_56 (ad 0 6) = .inl ((cs 4), 20, .inr (.inr (.inr (.inr (fun r => if r < nb then some (ad 1 (AN 22 r)) else none))))) := by rw [ef_56, va_up_ne _ _ (fw_ne he_51 he_55 (show (0 : Nat) ≠ 2 by decide))]; exact he_51
                have he_64 : f_56 (ad 4 k) = .inr (3, [.ref (ad 1 (AN 13 k)), .ref (ad 1 (AN 14 k)), .int (AI 15 k), .ref (ad 5 k), .int (bI (AB 16 k))]) := by rw [ef_56, va_up_ne _ _ (fw_ne he_52 he_55 (show (4 : Nat) ≠ 2 by decide))]; exact he_52
                have he_65 : f_56 (ad 5 k) = .inr (4, [.long (if 64 ≤ (nI wq) then (bl 2 k) else (bl 2 k) ||| bitO (nI wq)), .long (if 64 ≤ (nI wq) then (bl 3 k) ||| bitO (nI wq) else (bl 3 k)), .int ((m_cnt AB k) + 1)]) := by rw [ef_56, va_up_ne _ _ (fw_ne he_53 he_55 (show (5 : Nat) ≠ 2 by decide))]; exact he_53
                have he_66 : f_56 (ad 1 (AN 13 k)) = .inr (1, [.int (nI (AN 13 k)), .int (AI 1 (AN 13 k)), .long ((AL 2 (AN 13 k)) - (AI 15 k).toInt64), .long (m_enc AI AN no (nI (AN 13 k))), .long (AL 3 (AN 13 k)), .long (m_bat AI AN nb (nI (AN 13 k)))]) := by rw [ef_56, va_up_ne _ _ hab]; exact he_54
                have he_67 : f_56 (ad 1 (AN 14 k)) = .inr (1, [.int (nI (AN 14 k)), .int (AI 1 (AN 14 k)), .long ((AL 2 (AN 14 k)) + (AI 15 k).toInt64), .long (m_enc AI AN no (nI (AN 14 k))), .long (AL 3 (AN 14 k)), .long (m_bat AI AN nb (nI (AN 14 k)))]) := by rw [ef_56]; exact va_up_self _ _ _
                obtain ⟨f_68, ef_68⟩ : ∃ z, z = va_up f_56 (ad 4 k) (.inr (3, [.ref (ad 1 (AN 13 k)), .ref (ad 1 (AN 14 k)), .int (AI 15 k), .ref (ad 5 k), .int (bI true)])) := ⟨_, rfl⟩
                have he_69 : f_68 (ad 0 0) = .inr (0, [.ref (ad 0 1), .ref (ad 0 2), .ref (ad 0 3), .ref (ad 0 4), .ref (ad 0 5), .int (nI nf), .int (nI no), .int (nI nt), .int yr, .int bd, .int fl]) := by rw [ef_68, va_up_ne _ _ (fw_ne he_57 he_64 (show (1 : Nat) ≠ 4 by decide))]; exact he_57
                have he_70 : f_68 (ad 0 1) = .inl ((cs 0), 30, .inr (.inr (.inr (.inr (fun i => if i < nf then some (ad 1 i) else none))))) := by rw [ef_68, va_up_ne _ _ (fw_ne he_58 he_64 (show (0 : Nat) ≠ 4 by decide))]; exact he_58
                have he_71 : f_68 (ad 0 2) = .inl ((cs 1), 300, .inr (.inr (.inr (.inr (fun i => if i < no then some (ad 2 i) else none))))) := by rw [ef_68, va_up_ne _ _ (fw_ne he_59 he_64 (show (0 : Nat) ≠ 4 by decide))]; exact he_59
                have he_72 : f_68 (ad 0 3) = .inl ((cs 2), 100, .inr (.inr (.inr (.inr (fun i => if i < nt then some (ad 4 i) else none))))) := by rw [ef_68, va_up_ne _ _ (fw_ne he_60 he_64 (show (0 : Nat) ≠ 4 by decide))]; exact he_60
                have he_73 : f_68 (ad 0 4) = .inl ((cs 3), 10, .inr (.inr (.inr (.inr (fun c => if AN 18 c = 0 then none else some (ad 6 (rx c (AN 18 c - 1)))))))) := by rw [ef_68, va_up_ne _ _ (fw_ne he_61 he_64 (show (0 : Nat) ≠ 4 by decide))]; exact he_61
                have he_74 : f_68 (ad 0 5) = .inr (6, [.ref (ad 0 6), .int (nI nb), .long (m_tot AI nb)]) := by rw [ef_68, va_up_ne _ _ (fw_ne he_62 he_64 (show (7 : Nat) ≠ 4 by decide))]; exact he_62
                have he_75 : f_68 (ad 0 6) = .inl ((cs 4), 20, .inr (.inr (.inr (.inr (fun r => if r < nb then some (ad 1 (AN 22 r)) else none))))) := by rw [ef_68, va_up_ne _ _ (fw_ne he_63 he_64 (show (0 : Nat) ≠ 4 by decide))]; exact he_63
                have he_76 : f_68 (ad 4 k) = .inr (3, [.ref (ad 1 (AN 13 k)), .ref (ad 1 (AN 14 k)), .int (AI 15 k), .ref (ad 5 k), .int (bI true)]) := by rw [ef_68]; exact va_up_self _ _ _
                have he_77 : f_68 (ad 5 k) = .inr (4, [.long (if 64 ≤ (nI wq) then (bl 2 k) else (bl 2 k) ||| bitO (nI wq)), .long (if 64 ≤ (nI wq) then (bl 3 k) ||| bitO (nI wq) else (bl 3 k)), .int ((m_cnt AB k) + 1)]) := by rw [ef_68, va_up_ne _ _ (fw_ne he_65 he_64 (show (5 : Nat) ≠ 4 by decide))]; exact he_65
                have he_78 : f_68 (ad 1 (AN 13 k)) = .inr (1, [.int (nI (AN 13 k)), .int (AI 1 (AN 13 k)), .long ((AL 2 (AN 13 k)) - (AI 15 k).toInt64), .long (m_enc AI AN no (nI (AN 13 k))), .long (AL 3 (AN 13 k)), .long (m_bat AI AN nb (nI (AN 13 k)))]) := by rw [ef_68, va_up_ne _ _ (fw_ne he_66 he_64 (show (2 : Nat) ≠ 4 by decide))]; exact he_66
                have he_79 : f_68 (ad 1 (AN 14 k)) = .inr (1, [.int (nI (AN 14 k)), .int (AI 1 (AN 14 k)), .long ((AL 2 (AN 14 k)) + (AI 15 k).toInt64), .long (m_enc AI AN no (nI (AN 14 k))), .long (AL 3 (AN 14 k)), .long (m_bat AI AN nb (nI (AN 14 k)))]) := by rw [ef_68, va_up_ne _ _ (fw_ne he_67 he_64 (show (2 : Nat) ≠ 4 by decide))]; exact he_67
                have hP : va_P (dC, dI) classes (va_pl L f_68) H := by rw [ef_68, ef_56, ef_44]; exact hP
                have hD : va_D A (va_pl L f_68) := by rw [ef_68, ef_56, ef_44]; exact hD
                refine lv_iconst (v := 2) hx hb d_FB_agree_88 (by decide) ?_
                have hcall : m_agree (th, yr, nf, no, nt, bd, nb, fl, AI, AN, AB, AL) (nI k) (nI wq) = (2, (0, yr, nf, no, nt, bd, nb, fl, AI, AN, u2 (u2 AB 17 (100 * k + wq) true) 16 k true, u2 (u2 AL 2 (AN 13 k) (AL 2 (AN 13 k) - (AI 15 k).toInt64)) 2 (AN 14 k) (u2 AL 2 (AN 13 k) (AL 2 (AN 13 k) - (AI 15 k).toInt64) 2 (AN 14 k) + (AI 15 k).toInt64))) := (by simp [m_agree, ixn, bI, ek, hi_k, ewq, c_7, c_8, c_10, hft2, hgo] <;> (repeat' apply And.intro) <;> rfl)
                have hcs : CS cs (ad 0 0) (0, yr, nf, no, nt, bd, nb, fl, AI, AN, u2 (u2 AB 17 (100 * k + wq) true) 16 k true, u2 (u2 AL 2 (AN 13 k) (AL 2 (AN 13 k) - (AI 15 k).toInt64)) 2 (AN 14 k) (u2 AL 2 (AN 13 k) (AL 2 (AN 13 k) - (AI 15 k).toInt64) 2 (AN 14 k) + (AI 15 k).toInt64)) L f_68 := ⟨n, ad, _, _, rx, rfl, (by rw [ef_68, ef_56, ef_44, ef_30]; exact (((hC.put 5 k _ (by rw [n5]; exact hk) rfl).put 1 (AN 13 k) _ (by rw [n1]; exact hfk.1) rfl).put 1 (AN 14 k) _ (by rw [n1]; exact hfk.2.1) rfl).put 4 k _ (by rw [n4]; exact hk) rfl), SR_out (SR_agr hR k hk _ _ wq hwq c_10) k hk hfk, hM, InvB_agr hB hwq, InvS_out (InvS_agr hZ hk hwq) hk hfk.1 hfk.2.1 _ _⟩
                exact W.iret (v := 2) hx hb hr (fun t ht hW => ⟨⟨_, (L, f_68), rfl, by rw [hcall]; exact ⟨rfl, hcs⟩, by rw [ht]; exact hP, va_K.moved hW.alike hK, hD⟩, hS.F ht⟩) hS.2.2 d_FB_agree_89
              · exact absurd (c_12.symm.trans c_42) (by decide)
            · have hgo : 1 < 1 + m_cnt AB k ∧ (AI 15 k).toInt64 ≤ m_free AI AN AL no (AN 13 k) := of_decide_eq_true c_12
              have hft2 := Bool.and_eq_false_iff.mp c_28
              refine lv_bipush (v := (-4)) hx hb d_FB_agree_66 (by decide) ?_
              have hcall : m_agree (th, yr, nf, no, nt, bd, nb, fl, AI, AN, AB, AL) (nI k) (nI wq) = ((-4), (0, yr, nf, no, nt, bd, nb, fl, AI, AN, AB, AL)) := (by simp [m_agree, ixn, bI, ek, hi_k, ewq, c_7, c_8, c_10, hgo, hft2] <;> (repeat' apply And.intro) <;> rfl)
              have hcs : CS cs (ad 0 0) (0, yr, nf, no, nt, bd, nb, fl, AI, AN, AB, AL) L f := ⟨n, ad, e0, bl, rx, rfl, hC, hR, hM, hB, hZ⟩
              exact W.iret (v := (-4)) hx hb hr (fun t ht hW => ⟨⟨_, (L, f), rfl, by rw [hcall]; exact ⟨rfl, hcs⟩, by rw [ht]; exact hP, va_K.moved hW.alike hK, hD⟩, hS.F ht⟩) hS.2.2 d_FB_agree_68
        · rw [hB.2 k hk wq hwq] at c_10
          refine lv_bipush (v := (-3)) hx hb d_FB_agree_45 (by decide) ?_
          have hcall : m_agree (th, yr, nf, no, nt, bd, nb, fl, AI, AN, AB, AL) (nI k) (nI wq) = ((-3), (0, yr, nf, no, nt, bd, nb, fl, AI, AN, AB, AL)) := (by simp [m_agree, ixn, bI, ek, hi_k, ewq, c_7, c_8, c_10] <;> (repeat' apply And.intro) <;> rfl)
          have hcs : CS cs (ad 0 0) (0, yr, nf, no, nt, bd, nb, fl, AI, AN, AB, AL) L f := ⟨n, ad, e0, bl, rx, rfl, hC, hR, hM, hB, hZ⟩
          exact W.iret (v := (-3)) hx hb hr (fun t ht hW => ⟨⟨_, (L, f), rfl, by rw [hcall]; exact ⟨rfl, hcs⟩, by rw [ht]; exact hP, va_K.moved hW.alike hK, hD⟩, hS.F ht⟩) hS.2.2 d_FB_agree_47
    · refine lv_bipush (v := (-2)) hx hb d_FB_agree_24 (by decide) ?_
      have hcall : m_agree (th, yr, nf, no, nt, bd, nb, fl, AI, AN, AB, AL) (nI k) w0 = ((-2), (0, yr, nf, no, nt, bd, nb, fl, AI, AN, AB, AL)) := (by simp [m_agree, ixn, bI, ek, hi_k, c_7] <;> (repeat' apply And.intro) <;> rfl)
      have hcs : CS cs (ad 0 0) (0, yr, nf, no, nt, bd, nb, fl, AI, AN, AB, AL) L f := ⟨n, ad, e0, bl, rx, rfl, hC, hR, hM, hB, hZ⟩
      exact W.iret (v := (-2)) hx hb hr (fun t ht hW => ⟨⟨_, (L, f), rfl, by rw [hcall]; exact ⟨rfl, hcs⟩, by rw [ht]; exact hP, va_K.moved hW.alike hK, hD⟩, hS.F ht⟩) hS.2.2 d_FB_agree_26
