theorem d_FB_currency_0 : decode b_FB_currency 0 = .ok (.aload_n 0, 1) := by decide +kernel
theorem d_FB_currency_1 : decode b_FB_currency 1 = .ok (.iload_n 1, 1) := by decide +kernel
theorem d_FB_currency_2 : decode b_FB_currency 2 = .ok (.invokevirtual 127, 3) := by decide +kernel
theorem d_FB_currency_5 : decode b_FB_currency 5 = .ok (.ifCond .ne 5, 3) := by decide +kernel
theorem d_FB_currency_8 : decode b_FB_currency 8 = .ok (.iconst (-1), 1) := by decide +kernel
theorem d_FB_currency_9 : decode b_FB_currency 9 = .ok (.ireturn, 1) := by decide +kernel
theorem d_FB_currency_10 : decode b_FB_currency 10 = .ok (.iload_n 2, 1) := by decide +kernel
theorem d_FB_currency_11 : decode b_FB_currency 11 = .ok (.i2l, 1) := by decide +kernel
theorem d_FB_currency_12 : decode b_FB_currency 12 = .ok (.lconst 0, 1) := by decide +kernel
theorem d_FB_currency_13 : decode b_FB_currency 13 = .ok (.ldc2_w 130, 3) := by decide +kernel
theorem d_FB_currency_16 : decode b_FB_currency 16 = .ok (.invokestatic 61, 3) := by decide +kernel
theorem d_FB_currency_19 : decode b_FB_currency 19 = .ok (.ifCond .eq 28, 3) := by decide +kernel
theorem d_FB_currency_22 : decode b_FB_currency 22 = .ok (.iload_n 3, 1) := by decide +kernel
theorem d_FB_currency_23 : decode b_FB_currency 23 = .ok (.i2l, 1) := by decide +kernel
theorem d_FB_currency_24 : decode b_FB_currency 24 = .ok (.lconst 1, 1) := by decide +kernel
theorem d_FB_currency_25 : decode b_FB_currency 25 = .ok (.ldc2_w 177, 3) := by decide +kernel
theorem d_FB_currency_28 : decode b_FB_currency 28 = .ok (.invokestatic 61, 3) := by decide +kernel
theorem d_FB_currency_31 : decode b_FB_currency 31 = .ok (.ifCond .eq 16, 3) := by decide +kernel
theorem d_FB_currency_34 : decode b_FB_currency 34 = .ok (.iload 4, 2) := by decide +kernel
theorem d_FB_currency_36 : decode b_FB_currency 36 = .ok (.i2l, 1) := by decide +kernel
theorem d_FB_currency_37 : decode b_FB_currency 37 = .ok (.lconst 1, 1) := by decide +kernel
theorem d_FB_currency_38 : decode b_FB_currency 38 = .ok (.ldc2_w 177, 3) := by decide +kernel
theorem d_FB_currency_41 : decode b_FB_currency 41 = .ok (.invokestatic 61, 3) := by decide +kernel
theorem d_FB_currency_44 : decode b_FB_currency 44 = .ok (.ifCond .ne 6, 3) := by decide +kernel
theorem d_FB_currency_47 : decode b_FB_currency 47 = .ok (.bipush (-2), 2) := by decide +kernel
theorem d_FB_currency_49 : decode b_FB_currency 49 = .ok (.ireturn, 1) := by decide +kernel
theorem d_FB_currency_50 : decode b_FB_currency 50 = .ok (.aload_n 0, 1) := by decide +kernel
theorem d_FB_currency_51 : decode b_FB_currency 51 = .ok (.getfield 29, 3) := by decide +kernel
theorem d_FB_currency_54 : decode b_FB_currency 54 = .ok (.iload_n 1, 1) := by decide +kernel
theorem d_FB_currency_55 : decode b_FB_currency 55 = .ok (.aaload, 1) := by decide +kernel
theorem d_FB_currency_56 : decode b_FB_currency 56 = .ok (.astore 5, 2) := by decide +kernel
theorem d_FB_currency_58 : decode b_FB_currency 58 = .ok (.aload 5, 2) := by decide +kernel
theorem d_FB_currency_60 : decode b_FB_currency 60 = .ok (.ifnull 15, 3) := by decide +kernel
theorem d_FB_currency_63 : decode b_FB_currency 63 = .ok (.aload 5, 2) := by decide +kernel
theorem d_FB_currency_65 : decode b_FB_currency 65 = .ok (.getfield 179, 3) := by decide +kernel
theorem d_FB_currency_68 : decode b_FB_currency 68 = .ok (.iload_n 2, 1) := by decide +kernel
theorem d_FB_currency_69 : decode b_FB_currency 69 = .ok (.if_icmp .lt 6, 3) := by decide +kernel
theorem d_FB_currency_72 : decode b_FB_currency 72 = .ok (.bipush (-3), 2) := by decide +kernel
theorem d_FB_currency_74 : decode b_FB_currency 74 = .ok (.ireturn, 1) := by decide +kernel
theorem d_FB_currency_75 : decode b_FB_currency 75 = .ok (.aload 5, 2) := by decide +kernel
theorem d_FB_currency_77 : decode b_FB_currency 77 = .ok (.ifnull 16, 3) := by decide +kernel
theorem d_FB_currency_80 : decode b_FB_currency 80 = .ok (.aload 5, 2) := by decide +kernel
theorem d_FB_currency_82 : decode b_FB_currency 82 = .ok (.getfield 182, 3) := by decide +kernel
theorem d_FB_currency_85 : decode b_FB_currency 85 = .ok (.bipush 10, 2) := by decide +kernel
theorem d_FB_currency_87 : decode b_FB_currency 87 = .ok (.if_icmp .lt 6, 3) := by decide +kernel
theorem d_FB_currency_90 : decode b_FB_currency 90 = .ok (.bipush (-4), 2) := by decide +kernel
theorem d_FB_currency_92 : decode b_FB_currency 92 = .ok (.ireturn, 1) := by decide +kernel
theorem d_FB_currency_93 : decode b_FB_currency 93 = .ok (.aload_n 0, 1) := by decide +kernel
theorem d_FB_currency_94 : decode b_FB_currency 94 = .ok (.getfield 29, 3) := by decide +kernel
theorem d_FB_currency_97 : decode b_FB_currency 97 = .ok (.iload_n 1, 1) := by decide +kernel
theorem d_FB_currency_98 : decode b_FB_currency 98 = .ok (.new 27, 3) := by decide +kernel
theorem d_FB_currency_101 : decode b_FB_currency 101 = .ok (.dup, 1) := by decide +kernel
theorem d_FB_currency_102 : decode b_FB_currency 102 = .ok (.iload_n 2, 1) := by decide +kernel
theorem d_FB_currency_103 : decode b_FB_currency 103 = .ok (.iload_n 3, 1) := by decide +kernel
theorem d_FB_currency_104 : decode b_FB_currency 104 = .ok (.iload 4, 2) := by decide +kernel
theorem d_FB_currency_106 : decode b_FB_currency 106 = .ok (.aload 5, 2) := by decide +kernel
theorem d_FB_currency_108 : decode b_FB_currency 108 = .ok (.invokespecial 185, 3) := by decide +kernel
theorem d_FB_currency_111 : decode b_FB_currency 111 = .ok (.aastore, 1) := by decide +kernel
theorem d_FB_currency_112 : decode b_FB_currency 112 = .ok (.iconst 1, 1) := by decide +kernel
theorem d_FB_currency_113 : decode b_FB_currency 113 = .ok (.ireturn, 1) := by decide +kernel
set_option maxHeartbeats 4000000 in
set_option maxRecDepth 100000 in
theorem c_FB_currency (l : Launch) (dC : Nat → ClassId) (dI : Nat → Nat → Nat) (cs : Nat → ClassId) (o : Nat) (th yr : Int32) (nf no nt : Nat) (bd : Int32) (nb : Nat) (fl : Int32) (AI : Nat → Nat → Int32) (AN : Nat → Nat → Nat) (AB : Nat → Nat → Bool) (AL : Nat → Nat → Int64) (L : List Nat) (f : Nat → va_E) (sz : Nat) (c0 d0 u0 v0 : Int32) (hCS : CS cs o (th, yr, nf, no, nt, bd, nb, fl, AI, AN, AB, AL) L f) : Met l y_FB_currency w_FB_currency { frames := 2, cells := 1, slots := 5, locals := 46 } (mu_P (dC, dI) classes (ctys cs) (va_pl L f) sz [.ref o, .int c0, .int d0, .int u0, .int v0]) (va_Qi (fun r u => r = (m_currency (th, yr, nf, no, nt, bd, nb, fl, AI, AN, AB, AL) c0 d0 u0 v0).1 ∧ CS cs o (m_currency (th, yr, nf, no, nt, bd, nb, fl, AI, AN, AB, AL) c0 d0 u0 v0).2 u.1 u.2) (mu_B (dC, dI) classes (ctys cs) (va_A (va_pl L f) sz) fw_w) (va_A (va_pl L f) sz)) 1 5 (va_A (va_pl L f) sz) := by
  obtain ⟨n, ad, e0, bl, rx, rfl, hC, hR, hM, hB, hZ⟩ := hCS
  obtain ⟨⟨n0, n1, n2, n3, n4, n5⟩, e00, e01, e02, e03, e04, e05, e06, e1, e2, e3, e4, e5, e6⟩ := id hR
  obtain ⟨hnf, hno, hnt, hnb, hfu, hft, hbf, hrw, hce, hdn⟩ := id hM
  have hm00 : ad 0 0 ∈ L := (hC.1 0 0 (by rw [n0]; decide)).1
  have he00 : f (ad 0 0) = .inr (0, [.ref (ad 0 1), .ref (ad 0 2), .ref (ad 0 3), .ref (ad 0 4), .ref (ad 0 5), .int (nI nf), .int (nI no), .int (nI nt), .int yr, .int bd, .int fl]) := (hC.1 0 0 (by rw [n0]; decide)).2.trans e00
  have hm01 : ad 0 1 ∈ L := (hC.1 0 1 (by rw [n0]; decide)).1
  have he01 : f (ad 0 1) = .inl ((cs 0), 30, .inr (.inr (.inr (.inr (fun i => if i < nf then some (ad 1 i) else none))))) := (hC.1 0 1 (by rw [n0]; decide)).2.trans e01
  have hm02 : ad 0 2 ∈ L := (hC.1 0 2 (by rw [n0]; decide)).1
  have he02 : f (ad 0 2) = .inl ((cs 1), 300, .inr (.inr (.inr (.inr (fun i => if i < no then some (ad 2 i) else none))))) := (hC.1 0 2 (by rw [n0]; decide)).2.trans e02
  have hm03 : ad 0 3 ∈ L := (hC.1 0 3 (by rw [n0]; decide)).1
  have he03 : f (ad 0 3) = .inl ((cs 2), 100, .inr (.inr (.inr (.inr (fun i => if i < nt then some (ad 4 i) else none))))) := (hC.1 0 3 (by rw [n0]; decide)).2.trans e03
  have hm04 : ad 0 4 ∈ L := (hC.1 0 4 (by rw [n0]; decide)).1
  have he04 : f (ad 0 4) = .inl ((cs 3), 10, .inr (.inr (.inr (.inr (fun c => if AN 18 c = 0 then none else some (ad 6 (rx c (AN 18 c - 1)))))))) := (hC.1 0 4 (by rw [n0]; decide)).2.trans e04
  have hm05 : ad 0 5 ∈ L := (hC.1 0 5 (by rw [n0]; decide)).1
  have he05 : f (ad 0 5) = .inr (6, [.ref (ad 0 6), .int (nI nb), .long (m_tot AI nb)]) := (hC.1 0 5 (by rw [n0]; decide)).2.trans e05
  have hm06 : ad 0 6 ∈ L := (hC.1 0 6 (by rw [n0]; decide)).1
  have he06 : f (ad 0 6) = .inl ((cs 4), 20, .inr (.inr (.inr (.inr (fun r => if r < nb then some (ad 1 (AN 22 r)) else none))))) := (hC.1 0 6 (by rw [n0]; decide)).2.trans e06
  refine Met.ofW (cc := b_FB_currency) (maxL := 6) (ret := (some .int)) (by decide) rfl ?_
  intro p e s m args below meth c s₁ B hml hv
  obtain ⟨rfl, hsz, hP, hK, hD0, hN⟩ := hv
  have hx := B.exec
  have hb := B.bytes
  have hr := B.returns
  have hts := atoms_spec (ws := w_FB_currency) B.pre
  have hG := fun (w : Cond) (h : w ∈ wG) => hts w (List.mem_cons_of_mem _ h)
  have hown : s.vm.findClass R_FB = some m.cls := findClass_of_methodNamed B.named
  have hlocks := B.notSynchronized
  subst hsz
  have hD := hD0.self (sz := s.heap.size)
  generalize hAe : va_A (va_pl L f) s.heap.size = A at hD ⊢
  have hA : ∀ q : Nat, s.heap.size ≤ q → A q := fun q h => by rw [← hAe]; exact Or.inr h
  have hS : va_S A s.heap s.heap [] := va_S.rf
  have hP : va_P (dC, dI) classes (va_pl L f) s.heap := hP
  have hl := lv_entry ([.ref (ad 0 0), .int c0, .int d0, .int u0, .int v0]) (n := 6) (Nat.le_of_ble_eq_true rfl)
  rw [lg_entry_eq]
  generalize (lg_sl ([.ref (ad 0 0), .int c0, .int d0, .int u0, .int v0]) ++ List.replicate (6 - (lg_sl ([.ref (ad 0 0), .int c0, .int d0, .int u0, .int v0])).length) Slot.unset).toArray = ls at hl ⊢
  have hl : lv_has ls 6 [(0, .ref (ad 0 0)), (1, .int c0), (2, .int d0), (3, .int u0), (4, .int v0)] := hl
  refine lv_aload_n hx hb d_FB_currency_0 rfl (lv_at hl 0 rfl) ?_
  refine lv_iload_n hx hb d_FB_currency_1 rfl (lv_at hl 1 rfl) ?_
  refine rd_calli (va_runV (As := [.int c0]) (rest := []) ⟨hx, hb, hml, hown, hts⟩ (c_FB_isCurrency l dC dI (ctys cs) L f (ad 0 0) (ad 0 4) (nI nf) (nI no) (nI nt) yr bd fl (ad 0 1) (ad 0 2) (ad 0 3) (ad 0 5) (cs 3) (fun c => if AN 18 c = 0 then none else some (ad 6 (rx c (AN 18 c - 1)))) c0 hm00 he00 hm04 he04 rfl) (cwV 1 hts (gd_V k_252 k_254 k_2 k_14 k_255) rfl rfl rfl (by decide +kernel) ⟨Nat.le_of_ble_eq_true rfl, Nat.le_of_ble_eq_true rfl⟩) (fw_preV hK hN hP rfl hm00 he00) rfl rfl hl.1 rfl (lv_room (Nat.le_of_ble_eq_true rfl)) d_FB_currency_2 ⟨Nat.zero_le _, Nat.zero_le _⟩) (fun r_1 hr_1 => ?_)
  subst hr_1
  rw [in10_eq]
  refine lb_if_ne (tgt := 10) hx hb d_FB_currency_5 (by decide) (fun c_2 => ?_) (fun c_2 => ?_)
  · obtain ⟨k, hk, rfl⟩ := in9 c_2
    have ek : (nI k).toNatClampNeg = k := nI_clamp (by omega)
    have hrk := hrw k hk
    refine lv_iload_n hx hb d_FB_currency_10 rfl (lv_at hl 2 rfl) ?_
    refine lv_i2l hx hb d_FB_currency_11 rfl ?_
    refine lv_lconst (v := 0) hx hb d_FB_currency_12 (by decide) ?_
    refine lv_ldc2 (own := R_FB) (v := 100000) hx hb hown (hG _ k_256) d_FB_currency_13 ?_
    refine rd_calli (va_runS (As := [.long (d0.toInt64), .long 0, .long 100000]) (rest := []) ⟨hx, hb, hml, hown, hts⟩ (c_FB_isWithin l dC dI (ctys cs) (va_pl L f) (d0.toInt64) 0 100000) (cwS 3 hts (gd_S k_106 k_107 k_14 k_108) rfl rfl rfl (by decide +kernel) ⟨Nat.le_of_ble_eq_true rfl, Nat.le_of_ble_eq_true rfl⟩) (rd_preS hK hN hP) rfl rfl hl.1 rfl (lv_room (Nat.le_of_ble_eq_true rfl)) d_FB_currency_16 ⟨Nat.zero_le _, Nat.zero_le _⟩) (fun r_3 hr_3 => ?_)
    subst hr_3
    refine lb_if_eq (tgt := 47) hx hb d_FB_currency_19 (by decide) (fun c_4 => ?_) (fun c_4 => ?_)
    · refine lv_bipush (v := (-2)) hx hb d_FB_currency_47 (by decide) ?_
      have hcall : m_currency (th, yr, nf, no, nt, bd, nb, fl, AI, AN, AB, AL) (nI k) d0 u0 v0 = ((-2), (0, yr, nf, no, nt, bd, nb, fl, AI, AN, AB, AL)) := (by simp [m_currency, ixn, bI, ek, c_2, c_4] <;> (repeat' apply And.intro) <;> rfl)
      have hcs : CS cs (ad 0 0) (0, yr, nf, no, nt, bd, nb, fl, AI, AN, AB, AL) L f := ⟨n, ad, e0, bl, rx, rfl, hC, hR, hM, hB, hZ⟩
      refine W.widen (k := 1) (n := 5) (Nat.le_of_ble_eq_true rfl) (Nat.le_of_ble_eq_true rfl) ?_
      exact W.iret (v := (-2)) hx hb hr (fun t ht hW => ⟨⟨_, (L, f), rfl, by rw [hcall]; exact ⟨rfl, hcs⟩, by rw [ht]; exact hP, va_K.moved hW.alike hK, hD⟩, hS.F ht⟩) hS.2.2 d_FB_currency_49
    · refine lv_iload_n hx hb d_FB_currency_22 rfl (lv_at hl 3 rfl) ?_
      refine lv_i2l hx hb d_FB_currency_23 rfl ?_
      refine lv_lconst (v := 1) hx hb d_FB_currency_24 (by decide) ?_
      refine lv_ldc2 (own := R_FB) (v := 1000000) hx hb hown (hG _ k_306) d_FB_currency_25 ?_
      refine rd_calli (va_runS (As := [.long (u0.toInt64), .long 1, .long 1000000]) (rest := []) ⟨hx, hb, hml, hown, hts⟩ (c_FB_isWithin l dC dI (ctys cs) (va_pl L f) (u0.toInt64) 1 1000000) (cwS 3 hts (gd_S k_106 k_107 k_14 k_108) rfl rfl rfl (by decide +kernel) ⟨Nat.le_of_ble_eq_true rfl, Nat.le_of_ble_eq_true rfl⟩) (rd_preS hK hN hP) rfl rfl hl.1 rfl (lv_room (Nat.le_of_ble_eq_true rfl)) d_FB_currency_28 ⟨Nat.zero_le _, Nat.zero_le _⟩) (fun r_5 hr_5 => ?_)
      subst hr_5
      refine lb_if_eq (tgt := 47) hx hb d_FB_currency_31 (by decide) (fun c_6 => ?_) (fun c_6 => ?_)
      · refine lv_bipush (v := (-2)) hx hb d_FB_currency_47 (by decide) ?_
        have hcall : m_currency (th, yr, nf, no, nt, bd, nb, fl, AI, AN, AB, AL) (nI k) d0 u0 v0 = ((-2), (0, yr, nf, no, nt, bd, nb, fl, AI, AN, AB, AL)) := (by simp [m_currency, ixn, bI, ek, c_2, c_4, c_6] <;> (repeat' apply And.intro) <;> rfl)
        have hcs : CS cs (ad 0 0) (0, yr, nf, no, nt, bd, nb, fl, AI, AN, AB, AL) L f := ⟨n, ad, e0, bl, rx, rfl, hC, hR, hM, hB, hZ⟩
        refine W.widen (k := 1) (n := 5) (Nat.le_of_ble_eq_true rfl) (Nat.le_of_ble_eq_true rfl) ?_
        exact W.iret (v := (-2)) hx hb hr (fun t ht hW => ⟨⟨_, (L, f), rfl, by rw [hcall]; exact ⟨rfl, hcs⟩, by rw [ht]; exact hP, va_K.moved hW.alike hK, hD⟩, hS.F ht⟩) hS.2.2 d_FB_currency_49
      · refine lv_iload hx hb d_FB_currency_34 (lv_at hl 4 rfl) ?_
        refine lv_i2l hx hb d_FB_currency_36 rfl ?_
        refine lv_lconst (v := 1) hx hb d_FB_currency_37 (by decide) ?_
        refine lv_ldc2 (own := R_FB) (v := 1000000) hx hb hown (hG _ k_306) d_FB_currency_38 ?_
        refine rd_calli (va_runS (As := [.long (v0.toInt64), .long 1, .long 1000000]) (rest := []) ⟨hx, hb, hml, hown, hts⟩ (c_FB_isWithin l dC dI (ctys cs) (va_pl L f) (v0.toInt64) 1 1000000) (cwS 3 hts (gd_S k_106 k_107 k_14 k_108) rfl rfl rfl (by decide +kernel) ⟨Nat.le_of_ble_eq_true rfl, Nat.le_of_ble_eq_true rfl⟩) (rd_preS hK hN hP) rfl rfl hl.1 rfl (lv_room (Nat.le_of_ble_eq_true rfl)) d_FB_currency_41 ⟨Nat.zero_le _, Nat.zero_le _⟩) (fun r_7 hr_7 => ?_)
        subst hr_7
        refine lb_if_ne (tgt := 50) hx hb d_FB_currency_44 (by decide) (fun c_8 => ?_) (fun c_8 => ?_)
        · refine lv_aload_n hx hb d_FB_currency_50 rfl (lv_at hl 0 rfl) ?_
          refine fw_get (D := (dC, dI)) (ci := 0) (v := .ref (ad 0 4)) (C := R_FB) (T := F_FB) (N := 11) hx hb hG iG_FB hown hK hP hm00 he00 rfl 3 (by decide) (hG _ k_70) (fun _ h9 => h9) rfl d_FB_currency_51 ?_
          refine lv_iload_n hx hb d_FB_currency_54 rfl (lv_at hl 1 rfl) ?_
          refine fw_ald (D := (dC, dI)) (C := "FundBook$Rate") (n := 10) (g := (fun c => if AN 18 c = 0 then none else some (ad 6 (rx c (AN 18 c - 1))))) hx hb hK hP hm04 3 he04 rfl (vp_in_nI (by omega) (by omega)) d_FB_currency_55 ?_
          rw [nI_clamp (by omega)]
          by_cases h0 : AN 18 k = 0
          · refine W.eq (g2 := F0 m 56 ls [.null]) (congrArg (fun z => F0 m 56 ls [va_rf z]) (if_pos h0)) ?_
            refine lv_astoreN (lv' := [(5, .null), (0, .ref (ad 0 0)), (1, .int (nI k)), (2, .int d0), (3, .int u0), (4, .int v0)]) hx hb d_FB_currency_56 hl (by decide) rfl (fun ls hl => ?_)
            refine lv_aloadN hx hb d_FB_currency_58 (lv_at hl 0 rfl) ?_
            refine lv_ifnullN (tgt := 75) hx hb d_FB_currency_60 (by decide) ?_
            refine lv_aloadN hx hb d_FB_currency_75 (lv_at hl 0 rfl) ?_
            refine lv_ifnullN (tgt := 93) hx hb d_FB_currency_77 (by decide) ?_
            have hlt : AN 18 k < 10 := by omega
            have h10 : ¬ AN 18 k = 10 := by omega
            refine lv_aload_n hx hb d_FB_currency_93 rfl (lv_at hl 1 rfl) ?_
            refine fw_get (D := (dC, dI)) (ci := 0) (v := .ref (ad 0 4)) (C := R_FB) (T := F_FB) (N := 11) hx hb hG iG_FB hown hK hP hm00 he00 rfl 3 (by decide) (hG _ k_70) (fun _ h9 => h9) rfl d_FB_currency_94 ?_
            refine lv_iload_n hx hb d_FB_currency_97 rfl (lv_at hl 2 rfl) ?_
            refine fw_new (D := (dC, dI)) (ci := 5) (fs := [.int 0, .int 0, .int 0, .null, .int 0]) (C := R_Ra) (T := F_Ra) (N := 5) hx hb hG iG_Ra t_Ra t_Ra_ok hown (hG _ k_41) (hG _ k_307) (hG _ k_21) hK hP hD hS hA rfl (fun j hj => by rcases (show j = 0 ∨ j = 1 ∨ j = 2 ∨ j = 3 ∨ j = 4 by omega) with rfl | rfl | rfl | rfl | rfl <;> rfl) (Nat.le_of_ble_eq_true rfl) (Nat.le_of_ble_eq_true rfl) d_FB_currency_98 (fun q_9 H hq_q_9 hP hD hS => ?_)
            obtain ⟨L_11, eL_11⟩ : ∃ z, z = L ++ [q_9] := ⟨_, rfl⟩
            obtain ⟨f_10, ef_10⟩ : ∃ z, z = va_up f q_9 (.inr (5, [.int 0, .int 0, .int 0, .null, .int 0])) := ⟨_, rfl⟩
            have hP : va_P (dC, dI) classes (va_pl L_11 f_10) H := by rw [eL_11, ef_10]; exact hP
            have hD : va_D A (va_pl L_11 f_10) := by rw [eL_11, ef_10]; exact hD
            have ne_14 : (ad 0 0) ≠ q_9 := fun z => hq_q_9 (z ▸ hm00)
            have hm_13 : (ad 0 0) ∈ L_11 := by rw [eL_11]; exact List.mem_append_left _ hm00
            have he_12 : f_10 (ad 0 0) = .inr (0, [.ref (ad 0 1), .ref (ad 0 2), .ref (ad 0 3), .ref (ad 0 4), .ref (ad 0 5), .int (nI nf), .int (nI no), .int (nI nt), .int yr, .int bd, .int fl]) := by rw [ef_10, va_up_ne _ _ ne_14]; exact he00
            have ne_17 : (ad 0 1) ≠ q_9 := fun z => hq_q_9 (z ▸ hm01)
            have hm_16 : (ad 0 1) ∈ L_11 := by rw [eL_11]; exact List.mem_append_left _ hm01
            have he_15 : f_10 (ad 0 1) = .inl ((cs 0), 30, .inr (.inr (.inr (.inr (fun i => if i < nf then some (ad 1 i) else none))))) := by rw [ef_10, va_up_ne _ _ ne_17]; exact he01
            have ne_20 : (ad 0 2) ≠ q_9 := fun z => hq_q_9 (z ▸ hm02)
            have hm_19 : (ad 0 2) ∈ L_11 := by rw [eL_11]; exact List.mem_append_left _ hm02
            have he_18 : f_10 (ad 0 2) = .inl ((cs 1), 300, .inr (.inr (.inr (.inr (fun i => if i < no then some (ad 2 i) else none))))) := by rw [ef_10, va_up_ne _ _ ne_20]; exact he02
            have ne_23 : (ad 0 3) ≠ q_9 := fun z => hq_q_9 (z ▸ hm03)
            have hm_22 : (ad 0 3) ∈ L_11 := by rw [eL_11]; exact List.mem_append_left _ hm03
            have he_21 : f_10 (ad 0 3) = .inl ((cs 2), 100, .inr (.inr (.inr (.inr (fun i => if i < nt then some (ad 4 i) else none))))) := by rw [ef_10, va_up_ne _ _ ne_23]; exact he03
            have ne_26 : (ad 0 4) ≠ q_9 := fun z => hq_q_9 (z ▸ hm04)
            have hm_25 : (ad 0 4) ∈ L_11 := by rw [eL_11]; exact List.mem_append_left _ hm04
            have he_24 : f_10 (ad 0 4) = .inl ((cs 3), 10, .inr (.inr (.inr (.inr (fun c => if AN 18 c = 0 then none else some (ad 6 (rx c (AN 18 c - 1)))))))) := by rw [ef_10, va_up_ne _ _ ne_26]; exact he04
            have ne_29 : (ad 0 5) ≠ q_9 := fun z => hq_q_9 (z ▸ hm05)
            have hm_28 : (ad 0 5) ∈ L_11 := by rw [eL_11]; exact List.mem_append_left _ hm05
            have he_27 : f_10 (ad 0 5) = .inr (6, [.ref (ad 0 6), .int (nI nb), .long (m_tot AI nb)]) := by rw [ef_10, va_up_ne _ _ ne_29]; exact he05
            have ne_32 : (ad 0 6) ≠ q_9 := fun z => hq_q_9 (z ▸ hm06)
            have hm_31 : (ad 0 6) ∈ L_11 := by rw [eL_11]; exact List.mem_append_left _ hm06
            have he_30 : f_10 (ad 0 6) = .inl ((cs 4), 20, .inr (.inr (.inr (.inr (fun r => if r < nb then some (ad 1 (AN 22 r)) else none))))) := by rw [ef_10, va_up_ne _ _ ne_32]; exact he06
            have hm_34 : q_9 ∈ L_11 := by rw [eL_11]; exact List.mem_append_right _ (List.mem_singleton.mpr rfl)
            have he_33 : f_10 q_9 = .inr (5, [.int 0, .int 0, .int 0, .null, .int 0]) := by rw [ef_10]; exact va_up_self _ _ _
            refine lv_dup hx hb d_FB_currency_101 rfl ?_
            refine lv_iload_n hx hb d_FB_currency_102 rfl (lv_at hl 3 rfl) ?_
            refine lv_iload_n hx hb d_FB_currency_103 rfl (lv_at hl 4 rfl) ?_
            refine lv_iload hx hb d_FB_currency_104 (lv_at hl 5 rfl) ?_
            refine lv_aloadN hx hb d_FB_currency_106 (lv_at hl 0 rfl) ?_
            refine mu_callv (va_runI (As := [.int d0, .int u0, .int v0, .null]) (rest := [.ref q_9, .int (nI k), .ref (ad 0 4)]) ⟨hx, hb, hml, hown, hts⟩ (c_Ra_init0 l dC dI (ctys cs) L_11 f_10 _ q_9 0 0 0 0 d0 u0 v0 hm_34 he_33) (cwI 4 hts (gd_c k_310) rfl rfl rfl (hG _ k_21) (hG _ k_308) (hG _ k_309) rfl (by decide +kernel) ⟨Nat.le_of_ble_eq_true rfl, Nat.le_of_ble_eq_true rfl⟩) (mu_preS hK hN hP hD) rfl rfl hl.1 rfl (lv_room (Nat.le_of_ble_eq_true rfl)) d_FB_currency_108 ⟨Nat.le_of_ble_eq_true rfl, Nat.le_of_ble_eq_true rfl⟩) hD hS hA (fun ur_35 H locs hr_35 hP hD hS => ?_)
            subst hr_35
            obtain ⟨f_36, ef_36⟩ : ∃ z, z = va_up f_10 q_9 (.inr (5, [.int d0, .int u0, .int (if 1 < v0 then v0 else 1), va_rf none, .int 1])) := ⟨_, rfl⟩
            have he_37 : f_36 (ad 0 0) = .inr (0, [.ref (ad 0 1), .ref (ad 0 2), .ref (ad 0 3), .ref (ad 0 4), .ref (ad 0 5), .int (nI nf), .int (nI no), .int (nI nt), .int yr, .int bd, .int fl]) := by rw [ef_36, va_up_ne _ _ ne_14]; exact he_12
            have he_38 : f_36 (ad 0 1) = .inl ((cs 0), 30, .inr (.inr (.inr (.inr (fun i => if i < nf then some (ad 1 i) else none))))) := by rw [ef_36, va_up_ne _ _ ne_17]; exact he_15
            have he_39 : f_36 (ad 0 2) = .inl ((cs 1), 300, .inr (.inr (.inr (.inr (fun i => if i < no then some (ad 2 i) else none))))) := by rw [ef_36, va_up_ne _ _ ne_20]; exact he_18
            have he_40 : f_36 (ad 0 3) = .inl ((cs 2), 100, .inr (.inr (.inr (.inr (fun i => if i < nt then some (ad 4 i) else none))))) := by rw [ef_36, va_up_ne _ _ ne_23]; exact he_21
            have he_41 : f_36 (ad 0 4) = .inl ((cs 3), 10, .inr (.inr (.inr (.inr (fun c => if AN 18 c = 0 then none else some (ad 6 (rx c (AN 18 c - 1)))))))) := by rw [ef_36, va_up_ne _ _ ne_26]; exact he_24
            have he_42 : f_36 (ad 0 5) = .inr (6, [.ref (ad 0 6), .int (nI nb), .long (m_tot AI nb)]) := by rw [ef_36, va_up_ne _ _ ne_29]; exact he_27
            have he_43 : f_36 (ad 0 6) = .inl ((cs 4), 20, .inr (.inr (.inr (.inr (fun r => if r < nb then some (ad 1 (AN 22 r)) else none))))) := by rw [ef_36, va_up_ne _ _ ne_32]; exact he_30
            have he_44 : f_36 q_9 = .inr (5, [.int d0, .int u0, .int (if 1 < v0 then v0 else 1), va_rf none, .int 1]) := by rw [ef_36]; exact va_up_self _ _ _
            have hP : va_P (dC, dI) classes (va_pl L_11 f_36) H := by rw [ef_36]; exact hP
            have hD : va_D A (va_pl L_11 f_36) := by rw [ef_36]; exact hD
            refine fw_ast (D := (dC, dI)) (r := (R_Ra, F_Ra, 5)) (ci := 5) (n := 10) (g := (fun c => if AN 18 c = 0 then none else some (ad 6 (rx c (AN 18 c - 1))))) hx hb hK hP hD hS hm_25 3 he_41 rfl hm_34 he_44 rfl (vp_in_nI (by omega) (by omega)) d_FB_currency_111 (fun H locs hP hD hS => ?_)
            rw [nI_clamp (by omega)] at hP hD
            obtain ⟨f_45, ef_45⟩ : ∃ z, z = va_up f_36 (ad 0 4) (.inl ((cs 3), 10, .inr (.inr (.inr (.inr (va_up (fun c => if AN 18 c = 0 then none else some (ad 6 (rx c (AN 18 c - 1)))) k (some q_9))))))) := ⟨_, rfl⟩
            have he_46 : f_45 (ad 0 0) = .inr (0, [.ref (ad 0 1), .ref (ad 0 2), .ref (ad 0 3), .ref (ad 0 4), .ref (ad 0 5), .int (nI nf), .int (nI no), .int (nI nt), .int yr, .int bd, .int fl]) := by rw [ef_45, va_up_ne _ _ (CP.ne hC 0 0 0 4 (by rw [n0]; decide) (by rw [n0]; decide) (by decide))]; exact he_37
            have he_47 : f_45 (ad 0 1) = .inl ((cs 0), 30, .inr (.inr (.inr (.inr (fun i => if i < nf then some (ad 1 i) else none))))) := by rw [ef_45, va_up_ne _ _ (CP.ne hC 0 1 0 4 (by rw [n0]; decide) (by rw [n0]; decide) (by decide))]; exact he_38
            have he_48 : f_45 (ad 0 2) = .inl ((cs 1), 300, .inr (.inr (.inr (.inr (fun i => if i < no then some (ad 2 i) else none))))) := by rw [ef_45, va_up_ne _ _ (CP.ne hC 0 2 0 4 (by rw [n0]; decide) (by rw [n0]; decide) (by decide))]; exact he_39
            have he_49 : f_45 (ad 0 3) = .inl ((cs 2), 100, .inr (.inr (.inr (.inr (fun i => if i < nt then some (ad 4 i) else none))))) := by rw [ef_45, va_up_ne _ _ (CP.ne hC 0 3 0 4 (by rw [n0]; decide) (by rw [n0]; decide) (by decide))]; exact he_40
            have he_50 : f_45 (ad 0 4) = .inl ((cs 3), 10, .inr (.inr (.inr (.inr (va_up (fun c => if AN 18 c = 0 then none else some (ad 6 (rx c (AN 18 c - 1)))) k (some q_9)))))) := by rw [ef_45]; exact va_up_self _ _ _
            have he_51 : f_45 (ad 0 5) = .inr (6, [.ref (ad 0 6), .int (nI nb), .long (m_tot AI nb)]) := by rw [ef_45, va_up_ne _ _ (Ne.symm (CP.ne hC 0 4 0 5 (by rw [n0]; decide) (by rw [n0]; decide) (by decide)))]; exact he_42
            have he_52 : f_45 (ad 0 6) = .inl ((cs 4), 20, .inr (.inr (.inr (.inr (fun r => if r < nb then some (ad 1 (AN 22 r)) else none))))) := by rw [ef_45, va_up_ne _ _ (Ne.symm (CP.ne hC 0 4 0 6 (by rw [n0]; decide) (by rw [n0]; decide) (by decide)))]; exact he_43
            have he_53 : f_45 q_9 = .inr (5, [.int d0, .int u0, .int (if 1 < v0 then v0 else 1), va_rf none, .int 1]) := by rw [ef_45, va_up_ne _ _ (Ne.symm ne_26)]; exact he_44
            have hP : va_P (dC, dI) classes (va_pl L_11 f_45) H := by rw [ef_45]; exact hP
            have hD : va_D A (va_pl L_11 f_45) := by rw [ef_45]; exact hD
            refine lv_iconst (v := 1) hx hb d_FB_currency_112 (by decide) ?_
            have hcall : m_currency (th, yr, nf, no, nt, bd, nb, fl, AI, AN, AB, AL) (nI k) d0 u0 v0 = (1, (0, yr, nf, no, nt, bd, nb, fl, u2 (u2 (u2 AI 19 (10 * k + AN 18 k) d0) 20 (10 * k + AN 18 k) u0) 21 (10 * k + AN 18 k) v0, u2 AN 18 k (AN 18 k + 1), AB, AL)) := (by simp [m_currency, ixn, bI, ek, c_2, c_4, c_6, c_8, h0, h10] <;> (repeat' apply And.intro) <;> rfl)
            have hcs : CS cs (ad 0 0) (0, yr, nf, no, nt, bd, nb, fl, u2 (u2 (u2 AI 19 (10 * k + AN 18 k) d0) 20 (10 * k + AN 18 k) u0) 21 (10 * k + AN 18 k) v0, u2 AN 18 k (AN 18 k + 1), AB, AL) L_11 f_45 := (by rw [ef_45, ef_36, ef_10, eL_11]; exact CS_cur hC hR hM hB hZ hk hlt hq_q_9 d0 u0 v0 c_8 (if_pos h0).symm (by rw [h0]; rfl) _)
            refine W.widen (k := 1) (n := 5) (Nat.le_of_ble_eq_true rfl) (Nat.le_of_ble_eq_true rfl) ?_
            exact W.iret (v := 1) hx hb hr (fun t ht hW => ⟨⟨_, (L_11, f_45), rfl, by rw [hcall]; exact ⟨rfl, hcs⟩, by rw [ht]; exact hP, va_K.moved hW.alike hK, hD⟩, hS.F ht⟩) hS.2.2 d_FB_currency_113
          · refine W.eq (g2 := F0 m 56 ls [.ref (ad 6 (rx k (AN 18 k - 1)))]) (congrArg (fun z => F0 m 56 ls [va_rf z]) (if_neg h0)) ?_
            have hpos : 0 < AN 18 k := Nat.pos_of_ne_zero h0
            obtain ⟨hrx, her⟩ := e6 k (AN 18 k - 1) hk (by omega)
            rw [show 10 * k + (AN 18 k - 1) = 10 * k + AN 18 k - 1 by omega, show AN 18 k - 1 + 1 = AN 18 k by omega] at her
            have hm_ra : ad 6 (rx k (AN 18 k - 1)) ∈ L := (hC.1 6 _ hrx).1
            have he_ra : f (ad 6 (rx k (AN 18 k - 1))) = .inr (5, [.int (AI 19 (10 * k + AN 18 k - 1)), .int (AI 20 (10 * k + AN 18 k - 1)), .int (AI 21 (10 * k + AN 18 k - 1)), va_rf (if AN 18 k - 1 = 0 then none else some (ad 6 (rx k (AN 18 k - 1 - 1)))), .int (nI (AN 18 k))]) := (hC.1 6 _ hrx).2.trans her
            refine lv_astore (lv' := [(5, .ref (ad 6 (rx k (AN 18 k - 1)))), (0, .ref (ad 0 0)), (1, .int (nI k)), (2, .int d0), (3, .int u0), (4, .int v0)]) hx hb d_FB_currency_56 hl (by decide) rfl (fun ls hl => ?_)
            refine lv_aload hx hb d_FB_currency_58 (lv_at hl 0 rfl) ?_
            refine lv_ifnull hx hb d_FB_currency_60 ?_
            refine lv_aload hx hb d_FB_currency_63 (lv_at hl 0 rfl) ?_
            refine fw_getN (D := (dC, dI)) (ci := 5) (v := .int (AI 19 (10 * k + AN 18 k - 1))) (C := R_Ra) (T := F_Ra) (N := 5) hx hb hG iG_Ra hown hK hP hm_ra he_ra rfl 0 (by decide) (hN.use k_314) (fun _ h9 => h9) rfl d_FB_currency_65 ?_
            refine lv_iload_n hx hb d_FB_currency_68 rfl (lv_at hl 3 rfl) ?_
            refine lv_icmp_lt (tgt := 75) hx hb d_FB_currency_69 (by decide) (fun c_54 => ?_) (fun c_54 => ?_)
            · have hday := Int32.not_le.mpr c_54
              refine lv_aload hx hb d_FB_currency_75 (lv_at hl 0 rfl) ?_
              refine lv_ifnull hx hb d_FB_currency_77 ?_
              refine lv_aload hx hb d_FB_currency_80 (lv_at hl 0 rfl) ?_
              refine fw_getN (D := (dC, dI)) (ci := 5) (v := .int (nI (AN 18 k))) (C := R_Ra) (T := F_Ra) (N := 5) hx hb hG iG_Ra hown hK hP hm_ra he_ra rfl 4 (by decide) (hN.use k_320) (fun _ h9 => h9) rfl d_FB_currency_82 ?_
              refine lv_bipush (v := 10) hx hb d_FB_currency_85 (by decide) ?_
              refine lv_icmp_lt (tgt := 93) hx hb d_FB_currency_87 (by decide) (fun c_55 => ?_) (fun c_55 => ?_)
              · have hlt : AN 18 k < 10 := (nI_ltI (a := AN 18 k) (b := 10) (by omega) (by omega)).mp c_55
                have h10 : ¬ AN 18 k = 10 := by omega
                refine lv_aload_n hx hb d_FB_currency_93 rfl (lv_at hl 1 rfl) ?_
                refine fw_get (D := (dC, dI)) (ci := 0) (v := .ref (ad 0 4)) (C := R_FB) (T := F_FB) (N := 11) hx hb hG iG_FB hown hK hP hm00 he00 rfl 3 (by decide) (hG _ k_70) (fun _ h9 => h9) rfl d_FB_currency_94 ?_
                refine lv_iload_n hx hb d_FB_currency_97 rfl (lv_at hl 2 rfl) ?_
                refine fw_new (D := (dC, dI)) (ci := 5) (fs := [.int 0, .int 0, .int 0, .null, .int 0]) (C := R_Ra) (T := F_Ra) (N := 5) hx hb hG iG_Ra t_Ra t_Ra_ok hown (hG _ k_41) (hG _ k_307) (hG _ k_21) hK hP hD hS hA rfl (fun j hj => by rcases (show j = 0 ∨ j = 1 ∨ j = 2 ∨ j = 3 ∨ j = 4 by omega) with rfl | rfl | rfl | rfl | rfl <;> rfl) (Nat.le_of_ble_eq_true rfl) (Nat.le_of_ble_eq_true rfl) d_FB_currency_98 (fun q_56 H hq_q_56 hP hD hS => ?_)
                obtain ⟨L_58, eL_58⟩ : ∃ z, z = L ++ [q_56] := ⟨_, rfl⟩
                obtain ⟨f_57, ef_57⟩ : ∃ z, z = va_up f q_56 (.inr (5, [.int 0, .int 0, .int 0, .null, .int 0])) := ⟨_, rfl⟩
                have hP : va_P (dC, dI) classes (va_pl L_58 f_57) H := by rw [eL_58, ef_57]; exact hP
                have hD : va_D A (va_pl L_58 f_57) := by rw [eL_58, ef_57]; exact hD
                have ne_61 : (ad 0 0) ≠ q_56 := fun z => hq_q_56 (z ▸ hm00)
                have hm_60 : (ad 0 0) ∈ L_58 := by rw [eL_58]; exact List.mem_append_left _ hm00
                have he_59 : f_57 (ad 0 0) = .inr (0, [.ref (ad 0 1), .ref (ad 0 2), .ref (ad 0 3), .ref (ad 0 4), .ref (ad 0 5), .int (nI nf), .int (nI no), .int (nI nt), .int yr, .int bd, .int fl]) := by rw [ef_57, va_up_ne _ _ ne_61]; exact he00
                have ne_64 : (ad 0 1) ≠ q_56 := fun z => hq_q_56 (z ▸ hm01)
                have hm_63 : (ad 0 1) ∈ L_58 := by rw [eL_58]; exact List.mem_append_left _ hm01
                have he_62 : f_57 (ad 0 1) = .inl ((cs 0), 30, .inr (.inr (.inr (.inr (fun i => if i < nf then some (ad 1 i) else none))))) := by rw [ef_57, va_up_ne _ _ ne_64]; exact he01
                have ne_67 : (ad 0 2) ≠ q_56 := fun z => hq_q_56 (z ▸ hm02)
                have hm_66 : (ad 0 2) ∈ L_58 := by rw [eL_58]; exact List.mem_append_left _ hm02
                have he_65 : f_57 (ad 0 2) = .inl ((cs 1), 300, .inr (.inr (.inr (.inr (fun i => if i < no then some (ad 2 i) else none))))) := by rw [ef_57, va_up_ne _ _ ne_67]; exact he02
                have ne_70 : (ad 0 3) ≠ q_56 := fun z => hq_q_56 (z ▸ hm03)
                have hm_69 : (ad 0 3) ∈ L_58 := by rw [eL_58]; exact List.mem_append_left _ hm03
                have he_68 : f_57 (ad 0 3) = .inl ((cs 2), 100, .inr (.inr (.inr (.inr (fun i => if i < nt then some (ad 4 i) else none))))) := by rw [ef_57, va_up_ne _ _ ne_70]; exact he03
                have ne_73 : (ad 0 4) ≠ q_56 := fun z => hq_q_56 (z ▸ hm04)
                have hm_72 : (ad 0 4) ∈ L_58 := by rw [eL_58]; exact List.mem_append_left _ hm04
                have he_71 : f_57 (ad 0 4) = .inl ((cs 3), 10, .inr (.inr (.inr (.inr (fun c => if AN 18 c = 0 then none else some (ad 6 (rx c (AN 18 c - 1)))))))) := by rw [ef_57, va_up_ne _ _ ne_73]; exact he04
                have ne_76 : (ad 0 5) ≠ q_56 := fun z => hq_q_56 (z ▸ hm05)
                have hm_75 : (ad 0 5) ∈ L_58 := by rw [eL_58]; exact List.mem_append_left _ hm05
                have he_74 : f_57 (ad 0 5) = .inr (6, [.ref (ad 0 6), .int (nI nb), .long (m_tot AI nb)]) := by rw [ef_57, va_up_ne _ _ ne_76]; exact he05
                have ne_79 : (ad 0 6) ≠ q_56 := fun z => hq_q_56 (z ▸ hm06)
                have hm_78 : (ad 0 6) ∈ L_58 := by rw [eL_58]; exact List.mem_append_left _ hm06
                have he_77 : f_57 (ad 0 6) = .inl ((cs 4), 20, .inr (.inr (.inr (.inr (fun r => if r < nb then some (ad 1 (AN 22 r)) else none))))) := by rw [ef_57, va_up_ne _ _ ne_79]; exact he06
                have ne_82 : (ad 6 (rx k (AN 18 k - 1))) ≠ q_56 := fun z => hq_q_56 (z ▸ hm_ra)
                have hm_81 : (ad 6 (rx k (AN 18 k - 1))) ∈ L_58 := by rw [eL_58]; exact List.mem_append_left _ hm_ra
                have he_80 : f_57 (ad 6 (rx k (AN 18 k - 1))) = .inr (5, [.int (AI 19 (10 * k + AN 18 k - 1)), .int (AI 20 (10 * k + AN 18 k - 1)), .int (AI 21 (10 * k + AN 18 k - 1)), va_rf (if AN 18 k - 1 = 0 then none else some (ad 6 (rx k (AN 18 k - 1 - 1)))), .int (nI (AN 18 k))]) := by rw [ef_57, va_up_ne _ _ ne_82]; exact he_ra
                have hm_84 : q_56 ∈ L_58 := by rw [eL_58]; exact List.mem_append_right _ (List.mem_singleton.mpr rfl)
                have he_83 : f_57 q_56 = .inr (5, [.int 0, .int 0, .int 0, .null, .int 0]) := by rw [ef_57]; exact va_up_self _ _ _
                refine lv_dup hx hb d_FB_currency_101 rfl ?_
                refine lv_iload_n hx hb d_FB_currency_102 rfl (lv_at hl 3 rfl) ?_
                refine lv_iload_n hx hb d_FB_currency_103 rfl (lv_at hl 4 rfl) ?_
                refine lv_iload hx hb d_FB_currency_104 (lv_at hl 5 rfl) ?_
                refine lv_aload hx hb d_FB_currency_106 (lv_at hl 0 rfl) ?_
                refine mu_callv (va_runI (As := [.int d0, .int u0, .int v0, .ref (ad 6 (rx k (AN 18 k - 1)))]) (rest := [.ref q_56, .int (nI k), .ref (ad 0 4)]) ⟨hx, hb, hml, hown, hts⟩ (c_Ra_init1 l dC dI (ctys cs) L_58 f_57 _ q_56 (ad 6 (rx k (AN 18 k - 1))) 0 0 0 0 (AI 19 (10 * k + AN 18 k - 1)) (AI 20 (10 * k + AN 18 k - 1)) (AI 21 (10 * k + AN 18 k - 1)) (nI (AN 18 k)) (if AN 18 k - 1 = 0 then none else some (ad 6 (rx k (AN 18 k - 1 - 1)))) d0 u0 v0 hm_84 he_83 hm_81 he_80 (Ne.symm ne_82)) (cwI 4 hts (gd_c k_310) rfl rfl rfl (hG _ k_21) (hG _ k_308) (hG _ k_309) rfl (by decide +kernel) ⟨Nat.le_of_ble_eq_true rfl, Nat.le_of_ble_eq_true rfl⟩) (mu_preS hK hN hP hD) rfl rfl hl.1 rfl (lv_room (Nat.le_of_ble_eq_true rfl)) d_FB_currency_108 ⟨Nat.le_of_ble_eq_true rfl, Nat.le_of_ble_eq_true rfl⟩) hD hS hA (fun ur_85 H locs hr_85 hP hD hS => ?_)
                subst hr_85
                obtain ⟨f_86, ef_86⟩ : ∃ z, z = va_up f_57 q_56 (.inr (5, [.int d0, .int u0, .int (if 1 < v0 then v0 else 1), va_rf (some (ad 6 (rx k (AN 18 k - 1)))), .int ((nI (AN 18 k)) + 1)])) := ⟨_, rfl⟩
                have he_87 : f_86 (ad 0 0) = .inr (0, [.ref (ad 0 1), .ref (ad 0 2), .ref (ad 0 3), .ref (ad 0 4), .ref (ad 0 5), .int (nI nf), .int (nI no), .int (nI nt), .int yr, .int bd, .int fl]) := by rw [ef_86, va_up_ne _ _ ne_61]; exact he_59
                have he_88 : f_86 (ad 0 1) = .inl ((cs 0), 30, .inr (.inr (.inr (.inr (fun i => if i < nf then some (ad 1 i) else none))))) := by rw [ef_86, va_up_ne _ _ ne_64]; exact he_62
                have he_89 : f_86 (ad 0 2) = .inl ((cs 1), 300, .inr (.inr (.inr (.inr (fun i => if i < no then some (ad 2 i) else none))))) := by rw [ef_86, va_up_ne _ _ ne_67]; exact he_65
                have he_90 : f_86 (ad 0 3) = .inl ((cs 2), 100, .inr (.inr (.inr (.inr (fun i => if i < nt then some (ad 4 i) else none))))) := by rw [ef_86, va_up_ne _ _ ne_70]; exact he_68
                have he_91 : f_86 (ad 0 4) = .inl ((cs 3), 10, .inr (.inr (.inr (.inr (fun c => if AN 18 c = 0 then none else some (ad 6 (rx c (AN 18 c - 1)))))))) := by rw [ef_86, va_up_ne _ _ ne_73]; exact he_71
                have he_92 : f_86 (ad 0 5) = .inr (6, [.ref (ad 0 6), .int (nI nb), .long (m_tot AI nb)]) := by rw [ef_86, va_up_ne _ _ ne_76]; exact he_74
                have he_93 : f_86 (ad 0 6) = .inl ((cs 4), 20, .inr (.inr (.inr (.inr (fun r => if r < nb then some (ad 1 (AN 22 r)) else none))))) := by rw [ef_86, va_up_ne _ _ ne_79]; exact he_77
                have he_94 : f_86 (ad 6 (rx k (AN 18 k - 1))) = .inr (5, [.int (AI 19 (10 * k + AN 18 k - 1)), .int (AI 20 (10 * k + AN 18 k - 1)), .int (AI 21 (10 * k + AN 18 k - 1)), va_rf (if AN 18 k - 1 = 0 then none else some (ad 6 (rx k (AN 18 k - 1 - 1)))), .int (nI (AN 18 k))]) := by rw [ef_86, va_up_ne _ _ ne_82]; exact he_80
                have he_95 : f_86 q_56 = .inr (5, [.int d0, .int u0, .int (if 1 < v0 then v0 else 1), va_rf (some (ad 6 (rx k (AN 18 k - 1)))), .int ((nI (AN 18 k)) + 1)]) := by rw [ef_86]; exact va_up_self _ _ _
                have hP : va_P (dC, dI) classes (va_pl L_58 f_86) H := by rw [ef_86]; exact hP
                have hD : va_D A (va_pl L_58 f_86) := by rw [ef_86]; exact hD
                refine fw_ast (D := (dC, dI)) (r := (R_Ra, F_Ra, 5)) (ci := 5) (n := 10) (g := (fun c => if AN 18 c = 0 then none else some (ad 6 (rx c (AN 18 c - 1))))) hx hb hK hP hD hS hm_72 3 he_91 rfl hm_84 he_95 rfl (vp_in_nI (by omega) (by omega)) d_FB_currency_111 (fun H locs hP hD hS => ?_)
                rw [nI_clamp (by omega)] at hP hD
                obtain ⟨f_96, ef_96⟩ : ∃ z, z = va_up f_86 (ad 0 4) (.inl ((cs 3), 10, .inr (.inr (.inr (.inr (va_up (fun c => if AN 18 c = 0 then none else some (ad 6 (rx c (AN 18 c - 1)))) k (some q_56))))))) := ⟨_, rfl⟩
                have he_97 : f_96 (ad 0 0) = .inr (0, [.ref (ad 0 1), .ref (ad 0 2), .ref (ad 0 3), .ref (ad 0 4), .ref (ad 0 5), .int (nI nf), .int (nI no), .int (nI nt), .int yr, .int bd, .int fl]) := by rw [ef_96, va_up_ne _ _ (CP.ne hC 0 0 0 4 (by rw [n0]; decide) (by rw [n0]; decide) (by decide))]; exact he_87
                have he_98 : f_96 (ad 0 1) = .inl ((cs 0), 30, .inr (.inr (.inr (.inr (fun i => if i < nf then some (ad 1 i) else none))))) := by rw [ef_96, va_up_ne _ _ (CP.ne hC 0 1 0 4 (by rw [n0]; decide) (by rw [n0]; decide) (by decide))]; exact he_88
                have he_99 : f_96 (ad 0 2) = .inl ((cs 1), 300, .inr (.inr (.inr (.inr (fun i => if i < no then some (ad 2 i) else none))))) := by rw [ef_96, va_up_ne _ _ (CP.ne hC 0 2 0 4 (by rw [n0]; decide) (by rw [n0]; decide) (by decide))]; exact he_89
                have he_100 : f_96 (ad 0 3) = .inl ((cs 2), 100, .inr (.inr (.inr (.inr (fun i => if i < nt then some (ad 4 i) else none))))) := by rw [ef_96, va_up_ne _ _ (CP.ne hC 0 3 0 4 (by rw [n0]; decide) (by rw [n0]; decide) (by decide))]; exact he_90
                have he_101 : f_96 (ad 0 4) = .inl ((cs 3), 10, .inr (.inr (.inr (.inr (va_up (fun c => if AN 18 c = 0 then none else some (ad 6 (rx c (AN 18 c - 1)))) k (some q_56)))))) := by rw [ef_96]; exact va_up_self _ _ _
                have he_102 : f_96 (ad 0 5) = .inr (6, [.ref (ad 0 6), .int (nI nb), .long (m_tot AI nb)]) := by rw [ef_96, va_up_ne _ _ (Ne.symm (CP.ne hC 0 4 0 5 (by rw [n0]; decide) (by rw [n0]; decide) (by decide)))]; exact he_92
                have he_103 : f_96 (ad 0 6) = .inl ((cs 4), 20, .inr (.inr (.inr (.inr (fun r => if r < nb then some (ad 1 (AN 22 r)) else none))))) := by rw [ef_96, va_up_ne _ _ (Ne.symm (CP.ne hC 0 4 0 6 (by rw [n0]; decide) (by rw [n0]; decide) (by decide)))]; exact he_93
                have he_104 : f_96 (ad 6 (rx k (AN 18 k - 1))) = .inr (5, [.int (AI 19 (10 * k + AN 18 k - 1)), .int (AI 20 (10 * k + AN 18 k - 1)), .int (AI 21 (10 * k + AN 18 k - 1)), va_rf (if AN 18 k - 1 = 0 then none else some (ad 6 (rx k (AN 18 k - 1 - 1)))), .int (nI (AN 18 k))]) := by rw [ef_96, va_up_ne _ _ (fw_ne he_94 he_91 (show (6 : Nat) ≠ 0 by decide))]; exact he_94
                have he_105 : f_96 q_56 = .inr (5, [.int d0, .int u0, .int (if 1 < v0 then v0 else 1), va_rf (some (ad 6 (rx k (AN 18 k - 1)))), .int ((nI (AN 18 k)) + 1)]) := by rw [ef_96, va_up_ne _ _ (Ne.symm ne_73)]; exact he_95
                have hP : va_P (dC, dI) classes (va_pl L_58 f_96) H := by rw [ef_96]; exact hP
                have hD : va_D A (va_pl L_58 f_96) := by rw [ef_96]; exact hD
                refine lv_iconst (v := 1) hx hb d_FB_currency_112 (by decide) ?_
                have hcall : m_currency (th, yr, nf, no, nt, bd, nb, fl, AI, AN, AB, AL) (nI k) d0 u0 v0 = (1, (0, yr, nf, no, nt, bd, nb, fl, u2 (u2 (u2 AI 19 (10 * k + AN 18 k) d0) 20 (10 * k + AN 18 k) u0) 21 (10 * k + AN 18 k) v0, u2 AN 18 k (AN 18 k + 1), AB, AL)) := (by simp [m_currency, ixn, bI, ek, c_2, c_4, c_6, c_8, h0, hpos, hday, h10] <;> (repeat' apply And.intro) <;> rfl)
                have hcs : CS cs (ad 0 0) (0, yr, nf, no, nt, bd, nb, fl, u2 (u2 (u2 AI 19 (10 * k + AN 18 k) d0) 20 (10 * k + AN 18 k) u0) 21 (10 * k + AN 18 k) v0, u2 AN 18 k (AN 18 k + 1), AB, AL) L_58 f_96 := (by rw [ef_96, ef_86, ef_57, eL_58]; exact CS_cur hC hR hM hB hZ hk hlt hq_q_56 d0 u0 v0 c_8 (if_neg h0).symm (nI_1 _) _)
                refine W.widen (k := 1) (n := 5) (Nat.le_of_ble_eq_true rfl) (Nat.le_of_ble_eq_true rfl) ?_
                exact W.iret (v := 1) hx hb hr (fun t ht hW => ⟨⟨_, (L_58, f_96), rfl, by rw [hcall]; exact ⟨rfl, hcs⟩, by rw [ht]; exact hP, va_K.moved hW.alike hK, hD⟩, hS.F ht⟩) hS.2.2 d_FB_currency_113
              · have h10 : AN 18 k = 10 := by have h9 : ¬ nI (AN 18 k) < nI 10 := c_55; rw [nI_ltI (by omega) (by omega)] at h9; omega
                have hday2 : ¬ d0 ≤ AI 19 (10 * k + 9) := by rw [show 10 * k + 9 = 10 * k + AN 18 k - 1 by omega]; exact hday
                refine lv_bipush (v := (-4)) hx hb d_FB_currency_90 (by decide) ?_
                have hcall : m_currency (th, yr, nf, no, nt, bd, nb, fl, AI, AN, AB, AL) (nI k) d0 u0 v0 = ((-4), (0, yr, nf, no, nt, bd, nb, fl, AI, AN, AB, AL)) := (by simp [m_currency, ixn, bI, ek, c_2, c_4, c_6, c_8, h0, hpos, h10, hday2] <;> (repeat' apply And.intro) <;> rfl)
                have hcs : CS cs (ad 0 0) (0, yr, nf, no, nt, bd, nb, fl, AI, AN, AB, AL) L f := ⟨n, ad, e0, bl, rx, rfl, hC, hR, hM, hB, hZ⟩
                refine W.widen (k := 1) (n := 5) (Nat.le_of_ble_eq_true rfl) (Nat.le_of_ble_eq_true rfl) ?_
                exact W.iret (v := (-4)) hx hb hr (fun t ht hW => ⟨⟨_, (L, f), rfl, by rw [hcall]; exact ⟨rfl, hcs⟩, by rw [ht]; exact hP, va_K.moved hW.alike hK, hD⟩, hS.F ht⟩) hS.2.2 d_FB_currency_92
            · have hday := Int32.not_lt.mp c_54
              refine lv_bipush (v := (-3)) hx hb d_FB_currency_72 (by decide) ?_
              have hcall : m_currency (th, yr, nf, no, nt, bd, nb, fl, AI, AN, AB, AL) (nI k) d0 u0 v0 = ((-3), (0, yr, nf, no, nt, bd, nb, fl, AI, AN, AB, AL)) := (by simp [m_currency, ixn, bI, ek, c_2, c_4, c_6, c_8, h0, hpos, hday] <;> (repeat' apply And.intro) <;> rfl)
              have hcs : CS cs (ad 0 0) (0, yr, nf, no, nt, bd, nb, fl, AI, AN, AB, AL) L f := ⟨n, ad, e0, bl, rx, rfl, hC, hR, hM, hB, hZ⟩
              refine W.widen (k := 1) (n := 5) (Nat.le_of_ble_eq_true rfl) (Nat.le_of_ble_eq_true rfl) ?_
              exact W.iret (v := (-3)) hx hb hr (fun t ht hW => ⟨⟨_, (L, f), rfl, by rw [hcall]; exact ⟨rfl, hcs⟩, by rw [ht]; exact hP, va_K.moved hW.alike hK, hD⟩, hS.F ht⟩) hS.2.2 d_FB_currency_74
        · refine lv_bipush (v := (-2)) hx hb d_FB_currency_47 (by decide) ?_
          have hcall : m_currency (th, yr, nf, no, nt, bd, nb, fl, AI, AN, AB, AL) (nI k) d0 u0 v0 = ((-2), (0, yr, nf, no, nt, bd, nb, fl, AI, AN, AB, AL)) := (by simp [m_currency, ixn, bI, ek, c_2, c_4, c_6, c_8] <;> (repeat' apply And.intro) <;> rfl)
          have hcs : CS cs (ad 0 0) (0, yr, nf, no, nt, bd, nb, fl, AI, AN, AB, AL) L f := ⟨n, ad, e0, bl, rx, rfl, hC, hR, hM, hB, hZ⟩
          refine W.widen (k := 1) (n := 5) (Nat.le_of_ble_eq_true rfl) (Nat.le_of_ble_eq_true rfl) ?_
          exact W.iret (v := (-2)) hx hb hr (fun t ht hW => ⟨⟨_, (L, f), rfl, by rw [hcall]; exact ⟨rfl, hcs⟩, by rw [ht]; exact hP, va_K.moved hW.alike hK, hD⟩, hS.F ht⟩) hS.2.2 d_FB_currency_49
  · refine lv_iconst (v := (-1)) hx hb d_FB_currency_8 (by decide) ?_
    have hcall : m_currency (th, yr, nf, no, nt, bd, nb, fl, AI, AN, AB, AL) c0 d0 u0 v0 = ((-1), (0, yr, nf, no, nt, bd, nb, fl, AI, AN, AB, AL)) := (by simp [m_currency, ixn, bI, c_2] <;> (repeat' apply And.intro) <;> rfl)
    have hcs : CS cs (ad 0 0) (0, yr, nf, no, nt, bd, nb, fl, AI, AN, AB, AL) L f := ⟨n, ad, e0, bl, rx, rfl, hC, hR, hM, hB, hZ⟩
    refine W.widen (k := 1) (n := 5) (Nat.le_of_ble_eq_true rfl) (Nat.le_of_ble_eq_true rfl) ?_
    exact W.iret (v := (-1)) hx hb hr (fun t ht hW => ⟨⟨_, (L, f), rfl, by rw [hcall]; exact ⟨rfl, hcs⟩, by rw [ht]; exact hP, va_K.moved hW.alike hK, hD⟩, hS.F ht⟩) hS.2.2 d_FB_currency_9
