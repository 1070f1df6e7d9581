theorem d_Mo_approve_0 : decode b_Mo_approve 0 = .ok (.aload_n 0, 1) := by decide +kernel
theorem d_Mo_approve_1 : decode b_Mo_approve 1 = .ok (.iconst 0, 1) := by decide +kernel
theorem d_Mo_approve_2 : decode b_Mo_approve 2 = .ok (.putfield 91, 3) := by decide +kernel
theorem d_Mo_approve_5 : decode b_Mo_approve 5 = .ok (.iload_n 1, 1) := by decide +kernel
theorem d_Mo_approve_6 : decode b_Mo_approve 6 = .ok (.i2l, 1) := by decide +kernel
theorem d_Mo_approve_7 : decode b_Mo_approve 7 = .ok (.lconst 0, 1) := by decide +kernel
theorem d_Mo_approve_8 : decode b_Mo_approve 8 = .ok (.aload_n 0, 1) := by decide +kernel
theorem d_Mo_approve_9 : decode b_Mo_approve 9 = .ok (.getfield 101, 3) := by decide +kernel
theorem d_Mo_approve_12 : decode b_Mo_approve 12 = .ok (.iconst 1, 1) := by decide +kernel
theorem d_Mo_approve_13 : decode b_Mo_approve 13 = .ok (.isub, 1) := by decide +kernel
theorem d_Mo_approve_14 : decode b_Mo_approve 14 = .ok (.i2l, 1) := by decide +kernel
theorem d_Mo_approve_15 : decode b_Mo_approve 15 = .ok (.invokestatic 97, 3) := by decide +kernel
theorem d_Mo_approve_18 : decode b_Mo_approve 18 = .ok (.ifCond .ne 5, 3) := by decide +kernel
theorem d_Mo_approve_21 : decode b_Mo_approve 21 = .ok (.iconst (-1), 1) := by decide +kernel
theorem d_Mo_approve_22 : decode b_Mo_approve 22 = .ok (.ireturn, 1) := by decide +kernel
theorem d_Mo_approve_23 : decode b_Mo_approve 23 = .ok (.iload_n 2, 1) := by decide +kernel
theorem d_Mo_approve_24 : decode b_Mo_approve 24 = .ok (.i2l, 1) := by decide +kernel
theorem d_Mo_approve_25 : decode b_Mo_approve 25 = .ok (.lconst 0, 1) := by decide +kernel
theorem d_Mo_approve_26 : decode b_Mo_approve 26 = .ok (.ldc2_w 133, 3) := by decide +kernel
theorem d_Mo_approve_29 : decode b_Mo_approve 29 = .ok (.invokestatic 97, 3) := by decide +kernel
theorem d_Mo_approve_32 : decode b_Mo_approve 32 = .ok (.ifCond .ne 6, 3) := by decide +kernel
theorem d_Mo_approve_35 : decode b_Mo_approve 35 = .ok (.bipush (-2), 2) := by decide +kernel
theorem d_Mo_approve_37 : decode b_Mo_approve 37 = .ok (.ireturn, 1) := by decide +kernel
theorem d_Mo_approve_38 : decode b_Mo_approve 38 = .ok (.aload_n 0, 1) := by decide +kernel
theorem d_Mo_approve_39 : decode b_Mo_approve 39 = .ok (.getfield 30, 3) := by decide +kernel
theorem d_Mo_approve_42 : decode b_Mo_approve 42 = .ok (.iload_n 1, 1) := by decide +kernel
theorem d_Mo_approve_43 : decode b_Mo_approve 43 = .ok (.iaload, 1) := by decide +kernel
theorem d_Mo_approve_44 : decode b_Mo_approve 44 = .ok (.ifCond .ne 23, 3) := by decide +kernel
theorem d_Mo_approve_47 : decode b_Mo_approve 47 = .ok (.aload_n 0, 1) := by decide +kernel
theorem d_Mo_approve_48 : decode b_Mo_approve 48 = .ok (.getfield 36, 3) := by decide +kernel
theorem d_Mo_approve_51 : decode b_Mo_approve 51 = .ok (.iload_n 1, 1) := by decide +kernel
theorem d_Mo_approve_52 : decode b_Mo_approve 52 = .ok (.iaload, 1) := by decide +kernel
theorem d_Mo_approve_53 : decode b_Mo_approve 53 = .ok (.iconst 1, 1) := by decide +kernel
theorem d_Mo_approve_54 : decode b_Mo_approve 54 = .ok (.if_icmp .ne 16, 3) := by decide +kernel
theorem d_Mo_approve_57 : decode b_Mo_approve 57 = .ok (.aload_n 0, 1) := by decide +kernel
theorem d_Mo_approve_58 : decode b_Mo_approve 58 = .ok (.getfield 33, 3) := by decide +kernel
theorem d_Mo_approve_61 : decode b_Mo_approve 61 = .ok (.iload_n 1, 1) := by decide +kernel
theorem d_Mo_approve_62 : decode b_Mo_approve 62 = .ok (.iaload, 1) := by decide +kernel
theorem d_Mo_approve_63 : decode b_Mo_approve 63 = .ok (.iload_n 2, 1) := by decide +kernel
theorem d_Mo_approve_64 : decode b_Mo_approve 64 = .ok (.if_icmp .ne 6, 3) := by decide +kernel
theorem d_Mo_approve_67 : decode b_Mo_approve 67 = .ok (.bipush (-3), 2) := by decide +kernel
theorem d_Mo_approve_69 : decode b_Mo_approve 69 = .ok (.ireturn, 1) := by decide +kernel
theorem d_Mo_approve_70 : decode b_Mo_approve 70 = .ok (.aload_n 0, 1) := by decide +kernel
theorem d_Mo_approve_71 : decode b_Mo_approve 71 = .ok (.getfield 33, 3) := by decide +kernel
theorem d_Mo_approve_74 : decode b_Mo_approve 74 = .ok (.iload_n 1, 1) := by decide +kernel
theorem d_Mo_approve_75 : decode b_Mo_approve 75 = .ok (.aload_n 0, 1) := by decide +kernel
theorem d_Mo_approve_76 : decode b_Mo_approve 76 = .ok (.getfield 36, 3) := by decide +kernel
theorem d_Mo_approve_79 : decode b_Mo_approve 79 = .ok (.iload_n 1, 1) := by decide +kernel
theorem d_Mo_approve_80 : decode b_Mo_approve 80 = .ok (.iaload, 1) := by decide +kernel
theorem d_Mo_approve_81 : decode b_Mo_approve 81 = .ok (.ifCond .ne 7, 3) := by decide +kernel
theorem d_Mo_approve_84 : decode b_Mo_approve 84 = .ok (.iload_n 2, 1) := by decide +kernel
theorem d_Mo_approve_85 : decode b_Mo_approve 85 = .ok (.goto 9, 3) := by decide +kernel
theorem d_Mo_approve_88 : decode b_Mo_approve 88 = .ok (.aload_n 0, 1) := by decide +kernel
theorem d_Mo_approve_89 : decode b_Mo_approve 89 = .ok (.getfield 33, 3) := by decide +kernel
theorem d_Mo_approve_92 : decode b_Mo_approve 92 = .ok (.iload_n 1, 1) := by decide +kernel
theorem d_Mo_approve_93 : decode b_Mo_approve 93 = .ok (.iaload, 1) := by decide +kernel
theorem d_Mo_approve_94 : decode b_Mo_approve 94 = .ok (.iastore, 1) := by decide +kernel
theorem d_Mo_approve_95 : decode b_Mo_approve 95 = .ok (.aload_n 0, 1) := by decide +kernel
theorem d_Mo_approve_96 : decode b_Mo_approve 96 = .ok (.getfield 36, 3) := by decide +kernel
theorem d_Mo_approve_99 : decode b_Mo_approve 99 = .ok (.iload_n 1, 1) := by decide +kernel
theorem d_Mo_approve_100 : decode b_Mo_approve 100 = .ok (.dup2, 1) := by decide +kernel
theorem d_Mo_approve_101 : decode b_Mo_approve 101 = .ok (.iaload, 1) := by decide +kernel
theorem d_Mo_approve_102 : decode b_Mo_approve 102 = .ok (.iconst 1, 1) := by decide +kernel
theorem d_Mo_approve_103 : decode b_Mo_approve 103 = .ok (.iadd, 1) := by decide +kernel
theorem d_Mo_approve_104 : decode b_Mo_approve 104 = .ok (.iastore, 1) := by decide +kernel
theorem d_Mo_approve_105 : decode b_Mo_approve 105 = .ok (.aload_n 0, 1) := by decide +kernel
theorem d_Mo_approve_106 : decode b_Mo_approve 106 = .ok (.getfield 36, 3) := by decide +kernel
theorem d_Mo_approve_109 : decode b_Mo_approve 109 = .ok (.iload_n 1, 1) := by decide +kernel
theorem d_Mo_approve_110 : decode b_Mo_approve 110 = .ok (.iaload, 1) := by decide +kernel
theorem d_Mo_approve_111 : decode b_Mo_approve 111 = .ok (.iconst 2, 1) := by decide +kernel
theorem d_Mo_approve_112 : decode b_Mo_approve 112 = .ok (.if_icmp .ne 10, 3) := by decide +kernel
theorem d_Mo_approve_115 : decode b_Mo_approve 115 = .ok (.aload_n 0, 1) := by decide +kernel
theorem d_Mo_approve_116 : decode b_Mo_approve 116 = .ok (.getfield 30, 3) := by decide +kernel
theorem d_Mo_approve_119 : decode b_Mo_approve 119 = .ok (.iload_n 1, 1) := by decide +kernel
theorem d_Mo_approve_120 : decode b_Mo_approve 120 = .ok (.iconst 1, 1) := by decide +kernel
theorem d_Mo_approve_121 : decode b_Mo_approve 121 = .ok (.iastore, 1) := by decide +kernel
theorem d_Mo_approve_122 : decode b_Mo_approve 122 = .ok (.aload_n 0, 1) := by decide +kernel
theorem d_Mo_approve_123 : decode b_Mo_approve 123 = .ok (.getfield 36, 3) := by decide +kernel
theorem d_Mo_approve_126 : decode b_Mo_approve 126 = .ok (.iload_n 1, 1) := by decide +kernel
theorem d_Mo_approve_127 : decode b_Mo_approve 127 = .ok (.iaload, 1) := by decide +kernel
theorem d_Mo_approve_128 : decode b_Mo_approve 128 = .ok (.ireturn, 1) := by decide +kernel
set_option maxHeartbeats 4000000 in
set_option maxRecDepth 100000 in
theorem c_Mo_approve (l : Launch) (dC : Nat → ClassId) (dI : Nat → Nat → Nat) (ad : Nat → Nat) (cA : Nat → ClassId) (th yr : Int32) (nf no nt : Nat) (bd : Int32) (nb : Nat) (fl : Int32) (AI : Nat → Nat → Int32) (AN : Nat → Nat → Nat) (AB : Nat → Nat → Bool) (AL : Nat → Nat → Int64) (sz : Nat) (i0 w0 : Int32) (hI : InvM nf no nt nb AI AN) : Met l y_Mo_approve w_Mo_approve { frames := 1, cells := 0, slots := 0, locals := 25 } (mu_P (dC, dI) classes (mtys cA) (mw ad cA th yr nf no nt bd nb fl AI AN AB AL) sz [.ref (ad 0), .int i0, .int w0]) (va_Qi (fun r u => (r, u) = m_approve (th, yr, nf, no, nt, bd, nb, fl, AI, AN, AB, AL) i0 w0) (mu_B (dC, dI) classes (mtys cA) (va_A (mw ad cA th yr nf no nt bd nb fl AI AN AB AL) sz) (mwS ad cA)) (va_A (mw ad cA th yr nf no nt bd nb fl AI AN AB AL) sz)) 0 0 (va_A (mw ad cA th yr nf no nt bd nb fl AI AN AB AL) sz) := by
  refine Met.ofW (cc := b_Mo_approve) (maxL := 3) (ret := (some .int)) (by decide) rfl ?_
  intro p e s m args below meth c s₁ B hml hv
  obtain ⟨rfl, hsz, hP, hK, hD0, hN⟩ := hv
  have hx := B.exec
  have hb := B.bytes
  have hr := B.returns
  have hts := atoms_spec (ws := w_Mo_approve) B.pre
  have hG := fun (w : Cond) (h : w ∈ wG) => hts w (List.mem_cons_of_mem _ h)
  have hown : s.vm.findClass R_Mo = some m.cls := findClass_of_methodNamed B.named
  have hlocks := B.notSynchronized
  subst hsz
  have hD := hD0.self (sz := s.heap.size)
  generalize hAe : va_A (mw ad cA th yr nf no nt bd nb fl AI AN AB AL) s.heap.size = A at hD ⊢
  have hA : ∀ q : Nat, s.heap.size ≤ q → A q := fun q h => by rw [← hAe]; exact Or.inr h
  have hS : va_S A s.heap s.heap [] := va_S.rf
  have hP : va_P (dC, dI) classes (mw ad cA th yr nf no nt bd nb fl AI AN AB AL) s.heap := hP
  have hl := lv_entry ([.ref (ad 0), .int i0, .int w0]) (n := 3) (Nat.le_of_ble_eq_true rfl)
  rw [lg_entry_eq]
  generalize (lg_sl ([.ref (ad 0), .int i0, .int w0]) ++ List.replicate (3 - (lg_sl ([.ref (ad 0), .int i0, .int w0])).length) Slot.unset).toArray = ls at hl ⊢
  have hl : lv_has ls 3 [(0, .ref (ad 0)), (1, .int i0), (2, .int w0)] := hl
  obtain ⟨hnf, hno, hnt, hnb, hfu, hft, hbf, hrw, hce, hdn⟩ := id hI
  refine lv_aload_n hx hb d_Mo_approve_0 rfl (lv_at hl 0 rfl) ?_
  refine lv_iconst (v := 0) hx hb d_Mo_approve_1 (by decide) ?_
  refine va_put (D := (dC, dI)) (ci := 7) (v := .int 0) (ty := .int) (C := R_Mo) (T := F_Mo) (N := 31) hx hb hG iG_Mo t_Mo t_Mo_ok n_Mo hown hK hP hD hS 0 rfl rfl 0 (by decide) (hG _ k_523) (fun _ h9 => h9) rfl (by decide +kernel) rfl rfl (Nat.le_of_ble_eq_true rfl) d_Mo_approve_2 (fun H locs hP hD hS => ?_)
  have hP : va_P (dC, dI) classes (mw ad cA 0 yr nf no nt bd nb fl AI AN AB AL) H := hP
  have hD : va_D A (mw ad cA 0 yr nf no nt bd nb fl AI AN AB AL) := hD
  refine lv_iload_n hx hb d_Mo_approve_5 rfl (lv_at hl 1 rfl) ?_
  refine lv_i2l hx hb d_Mo_approve_6 rfl ?_
  refine lv_lconst (v := 0) hx hb d_Mo_approve_7 (by decide) ?_
  refine lv_aload_n hx hb d_Mo_approve_8 rfl (lv_at hl 0 rfl) ?_
  refine va_get (D := (dC, dI)) (ci := 7) (v := .int (nI no)) (C := R_Mo) (T := F_Mo) (N := 31) hx hb hG iG_Mo hown hK hP 0 rfl rfl 6 (by decide) (hG _ k_529) (fun _ h9 => h9) rfl d_Mo_approve_9 ?_
  refine lv_iconst (v := 1) hx hb d_Mo_approve_12 (by decide) ?_
  refine lv_isub hx hb d_Mo_approve_13 ?_
  refine lv_i2l hx hb d_Mo_approve_14 rfl ?_
  refine rd_calli (va_runS (As := [.long (i0.toInt64), .long 0, .long ((nI no - 1).toInt64)]) (rest := []) ⟨hx, hb, hml, hown, hts⟩ (c_Mo_in l dC dI (mtys cA) (mw ad cA 0 yr nf no nt bd nb fl AI AN AB AL) (i0.toInt64) 0 ((nI no - 1).toInt64)) (cwS 3 hts (gd_S k_629 k_630 k_17 k_631) rfl rfl rfl (by decide +kernel) ⟨Nat.le_of_ble_eq_true rfl, Nat.le_of_ble_eq_true rfl⟩) (rd_preS hK hN hP) rfl rfl hl.1 rfl (lv_room (Nat.le_of_ble_eq_true rfl)) d_Mo_approve_15 ⟨Nat.zero_le _, Nat.zero_le _⟩) (fun r_1 hr_1 => ?_)
  subst hr_1
  refine lb_if_ne (tgt := 23) hx hb d_Mo_approve_18 (by decide) (fun c_2 => ?_) (fun c_2 => ?_)
  · obtain ⟨j, hj, rfl⟩ := inN_of (n := no) (by omega) c_2
    have ej : (nI j).toNatClampNeg = j := nI_clamp (by omega)
    have c_2n : inN (nI j) no = true := c_2
    refine lv_iload_n hx hb d_Mo_approve_23 rfl (lv_at hl 2 rfl) ?_
    refine lv_i2l hx hb d_Mo_approve_24 rfl ?_
    refine lv_lconst (v := 0) hx hb d_Mo_approve_25 (by decide) ?_
    refine lv_ldc2 (own := R_Mo) (v := 99) hx hb hown (hG _ k_667) d_Mo_approve_26 ?_
    refine rd_calli (va_runS (As := [.long (w0.toInt64), .long 0, .long 99]) (rest := []) ⟨hx, hb, hml, hown, hts⟩ (c_Mo_in l dC dI (mtys cA) (mw ad cA 0 yr nf no nt bd nb fl AI AN AB AL) (w0.toInt64) 0 99) (cwS 3 hts (gd_S k_629 k_630 k_17 k_631) rfl rfl rfl (by decide +kernel) ⟨Nat.le_of_ble_eq_true rfl, Nat.le_of_ble_eq_true rfl⟩) (rd_preS hK hN hP) rfl rfl hl.1 rfl (lv_room (Nat.le_of_ble_eq_true rfl)) d_Mo_approve_29 ⟨Nat.zero_le _, Nat.zero_le _⟩) (fun r_3 hr_3 => ?_)
    subst hr_3
    refine lb_if_ne (tgt := 38) hx hb d_Mo_approve_32 (by decide) (fun c_4 => ?_) (fun c_4 => ?_)
    · refine lv_aload_n hx hb d_Mo_approve_38 rfl (lv_at hl 0 rfl) ?_
      refine va_get (D := (dC, dI)) (ci := 7) (v := .ref (ad 7)) (C := R_Mo) (T := F_Mo) (N := 31) hx hb hG iG_Mo hown hK hP 0 rfl rfl 10 (by decide) (hG _ k_533) (fun _ h9 => h9) rfl d_Mo_approve_39 ?_
      refine lv_iload_n hx hb d_Mo_approve_42 rfl (lv_at hl 1 rfl) ?_
      refine ra_iald (n := 300) (j := j) (f := AI 7) hx hb hK hP 7 6 rfl rfl (by omega) (by decide) d_Mo_approve_43 ?_
      refine lv_if_ne (tgt := 67) hx hb d_Mo_approve_44 (by decide) (fun c_5 => ?_) (fun c_5 => ?_)
      · refine lv_bipush (v := (-3)) hx hb d_Mo_approve_67 (by decide) ?_
        exact W.iret (v := (-3)) hx hb hr (fun t ht hW => ⟨⟨_, (0, yr, nf, no, nt, bd, nb, fl, AI, AN, AB, AL), rfl, (by simp [m_approve, ixn, bI, ej, c_2, c_2n, c_4, c_5] <;> (repeat' apply And.intro) <;> rfl), by rw [ht]; exact hP, va_K.moved hW.alike hK, hD⟩, hS.F ht⟩) hS.2.2 d_Mo_approve_69
      · refine lv_aload_n hx hb d_Mo_approve_47 rfl (lv_at hl 0 rfl) ?_
        refine va_get (D := (dC, dI)) (ci := 7) (v := .ref (ad 9)) (C := R_Mo) (T := F_Mo) (N := 31) hx hb hG iG_Mo hown hK hP 0 rfl rfl 12 (by decide) (hG _ k_535) (fun _ h9 => h9) rfl d_Mo_approve_48 ?_
        refine lv_iload_n hx hb d_Mo_approve_51 rfl (lv_at hl 1 rfl) ?_
        refine ra_iald (n := 300) (j := j) (f := AI 9) hx hb hK hP 9 8 rfl rfl (by omega) (by decide) d_Mo_approve_52 ?_
        refine lv_iconst (v := 1) hx hb d_Mo_approve_53 (by decide) ?_
        refine lv_icmp_ne (tgt := 70) hx hb d_Mo_approve_54 (by decide) (fun c_6 => ?_) (fun c_6 => ?_)
        · refine lv_aload_n hx hb d_Mo_approve_70 rfl (lv_at hl 0 rfl) ?_
          refine va_get (D := (dC, dI)) (ci := 7) (v := .ref (ad 8)) (C := R_Mo) (T := F_Mo) (N := 31) hx hb hG iG_Mo hown hK hP 0 rfl rfl 11 (by decide) (hG _ k_534) (fun _ h9 => h9) rfl d_Mo_approve_71 ?_
          refine lv_iload_n hx hb d_Mo_approve_74 rfl (lv_at hl 1 rfl) ?_
          refine lv_aload_n hx hb d_Mo_approve_75 rfl (lv_at hl 0 rfl) ?_
          refine va_get (D := (dC, dI)) (ci := 7) (v := .ref (ad 9)) (C := R_Mo) (T := F_Mo) (N := 31) hx hb hG iG_Mo hown hK hP 0 rfl rfl 12 (by decide) (hG _ k_535) (fun _ h9 => h9) rfl d_Mo_approve_76 ?_
          refine lv_iload_n hx hb d_Mo_approve_79 rfl (lv_at hl 1 rfl) ?_
          refine ra_iald (n := 300) (j := j) (f := AI 9) hx hb hK hP 9 8 rfl rfl (by omega) (by decide) d_Mo_approve_80 ?_
          refine lv_if_ne (tgt := 88) hx hb d_Mo_approve_81 (by decide) (fun c_7 => ?_) (fun c_7 => ?_)
          · refine lv_aload_n hx hb d_Mo_approve_88 rfl (lv_at hl 0 rfl) ?_
            refine va_get (D := (dC, dI)) (ci := 7) (v := .ref (ad 8)) (C := R_Mo) (T := F_Mo) (N := 31) hx hb hG iG_Mo hown hK hP 0 rfl rfl 11 (by decide) (hG _ k_534) (fun _ h9 => h9) rfl d_Mo_approve_89 ?_
            refine lv_iload_n hx hb d_Mo_approve_92 rfl (lv_at hl 1 rfl) ?_
            refine ra_iald (n := 300) (j := j) (f := AI 8) hx hb hK hP 8 7 rfl rfl (by omega) (by decide) d_Mo_approve_93 ?_
            refine ra_iast (n := 300) (j := j) (f := AI 8) hx hb hK hP hD hS 8 7 rfl rfl (by omega) (by decide) d_Mo_approve_94 (fun H locs hP hD hS => ?_)
            have hP : va_P (dC, dI) classes (mw ad cA 0 yr nf no nt bd nb fl (va_up AI 8 (va_up (AI 8) j (AI 8 j))) AN AB AL) H := hP
            have hD : va_D A (mw ad cA 0 yr nf no nt bd nb fl (va_up AI 8 (va_up (AI 8) j (AI 8 j))) AN AB AL) := hD
            refine lv_aload_n hx hb d_Mo_approve_95 rfl (lv_at hl 0 rfl) ?_
            refine va_get (D := (dC, dI)) (ci := 7) (v := .ref (ad 9)) (C := R_Mo) (T := F_Mo) (N := 31) hx hb hG iG_Mo hown hK hP 0 rfl rfl 12 (by decide) (hG _ k_535) (fun _ h9 => h9) rfl d_Mo_approve_96 ?_
            refine lv_iload_n hx hb d_Mo_approve_99 rfl (lv_at hl 1 rfl) ?_
            refine lv_dup2_11 hx hb d_Mo_approve_100 rfl rfl ?_
            refine ra_iald (n := 300) (j := j) (f := AI 9) hx hb hK hP 9 8 rfl rfl (by omega) (by decide) d_Mo_approve_101 ?_
            refine lv_iconst (v := 1) hx hb d_Mo_approve_102 (by decide) ?_
            refine lv_iadd hx hb d_Mo_approve_103 ?_
            refine ra_iast (n := 300) (j := j) (f := AI 9) hx hb hK hP hD hS 9 8 rfl rfl (by omega) (by decide) d_Mo_approve_104 (fun H locs hP hD hS => ?_)
            have hP : va_P (dC, dI) classes (mw ad cA 0 yr nf no nt bd nb fl (va_up (va_up AI 8 (va_up (AI 8) j (AI 8 j))) 9 (va_up (AI 9) j ((AI 9 j) + 1))) AN AB AL) H := hP
            have hD : va_D A (mw ad cA 0 yr nf no nt bd nb fl (va_up (va_up AI 8 (va_up (AI 8) j (AI 8 j))) 9 (va_up (AI 9) j ((AI 9 j) + 1))) AN AB AL) := hD
            refine lv_aload_n hx hb d_Mo_approve_105 rfl (lv_at hl 0 rfl) ?_
            refine va_get (D := (dC, dI)) (ci := 7) (v := .ref (ad 9)) (C := R_Mo) (T := F_Mo) (N := 31) hx hb hG iG_Mo hown hK hP 0 rfl rfl 12 (by decide) (hG _ k_535) (fun _ h9 => h9) rfl d_Mo_approve_106 ?_
            refine lv_iload_n hx hb d_Mo_approve_109 rfl (lv_at hl 1 rfl) ?_
            refine ra_iald (n := 300) (j := j) (f := va_up (AI 9) j ((AI 9 j) + 1)) hx hb hK hP 9 8 rfl rfl (by omega) (by decide) d_Mo_approve_110 ?_
            refine lv_topI (y := ((AI 9 j) + 1)) (va_up_self _ _ _) ?_
            refine lv_iconst (v := 2) hx hb d_Mo_approve_111 (by decide) ?_
            refine lv_icmp_ne (tgt := 122) hx hb d_Mo_approve_112 (by decide) (fun c_8 => ?_) (fun c_8 => ?_)
            · refine lv_aload_n hx hb d_Mo_approve_122 rfl (lv_at hl 0 rfl) ?_
              refine va_get (D := (dC, dI)) (ci := 7) (v := .ref (ad 9)) (C := R_Mo) (T := F_Mo) (N := 31) hx hb hG iG_Mo hown hK hP 0 rfl rfl 12 (by decide) (hG _ k_535) (fun _ h9 => h9) rfl d_Mo_approve_123 ?_
              refine lv_iload_n hx hb d_Mo_approve_126 rfl (lv_at hl 1 rfl) ?_
              refine ra_iald (n := 300) (j := j) (f := va_up (AI 9) j ((AI 9 j) + 1)) hx hb hK hP 9 8 rfl rfl (by omega) (by decide) d_Mo_approve_127 ?_
              refine lv_topI (y := ((AI 9 j) + 1)) (va_up_self _ _ _) ?_
              exact W.iret (v := ((AI 9 j) + 1)) hx hb hr (fun t ht hW => ⟨⟨_, (0, yr, nf, no, nt, bd, nb, fl, va_up (va_up AI 8 (va_up (AI 8) j (AI 8 j))) 9 (va_up (AI 9) j ((AI 9 j) + 1)), AN, AB, AL), rfl, (by simp [m_approve, ixn, bI, ej, c_2, c_2n, c_4, c_5, c_6, c_7, c_8] <;> (repeat' apply And.intro) <;> rfl), by rw [ht]; exact hP, va_K.moved hW.alike hK, hD⟩, hS.F ht⟩) hS.2.2 d_Mo_approve_128
            · refine lv_aload_n hx hb d_Mo_approve_115 rfl (lv_at hl 0 rfl) ?_
              refine va_get (D := (dC, dI)) (ci := 7) (v := .ref (ad 7)) (C := R_Mo) (T := F_Mo) (N := 31) hx hb hG iG_Mo hown hK hP 0 rfl rfl 10 (by decide) (hG _ k_533) (fun _ h9 => h9) rfl d_Mo_approve_116 ?_
              refine lv_iload_n hx hb d_Mo_approve_119 rfl (lv_at hl 1 rfl) ?_
              refine lv_iconst (v := 1) hx hb d_Mo_approve_120 (by decide) ?_
              refine ra_iast (n := 300) (j := j) (f := AI 7) hx hb hK hP hD hS 7 6 rfl rfl (by omega) (by decide) d_Mo_approve_121 (fun H locs hP hD hS => ?_)
              have hP : va_P (dC, dI) classes (mw ad cA 0 yr nf no nt bd nb fl (va_up (va_up (va_up AI 8 (va_up (AI 8) j (AI 8 j))) 9 (va_up (AI 9) j ((AI 9 j) + 1))) 7 (va_up (AI 7) j 1)) AN AB AL) H := hP
              have hD : va_D A (mw ad cA 0 yr nf no nt bd nb fl (va_up (va_up (va_up AI 8 (va_up (AI 8) j (AI 8 j))) 9 (va_up (AI 9) j ((AI 9 j) + 1))) 7 (va_up (AI 7) j 1)) AN AB AL) := hD
              refine lv_aload_n hx hb d_Mo_approve_122 rfl (lv_at hl 0 rfl) ?_
              refine va_get (D := (dC, dI)) (ci := 7) (v := .ref (ad 9)) (C := R_Mo) (T := F_Mo) (N := 31) hx hb hG iG_Mo hown hK hP 0 rfl rfl 12 (by decide) (hG _ k_535) (fun _ h9 => h9) rfl d_Mo_approve_123 ?_
              refine lv_iload_n hx hb d_Mo_approve_126 rfl (lv_at hl 1 rfl) ?_
              refine ra_iald (n := 300) (j := j) (f := va_up (AI 9) j ((AI 9 j) + 1)) hx hb hK hP 9 8 rfl rfl (by omega) (by decide) d_Mo_approve_127 ?_
              refine lv_topI (y := ((AI 9 j) + 1)) (va_up_self _ _ _) ?_
              exact W.iret (v := ((AI 9 j) + 1)) hx hb hr (fun t ht hW => ⟨⟨_, (0, yr, nf, no, nt, bd, nb, fl, va_up (va_up (va_up AI 8 (va_up (AI 8) j (AI 8 j))) 9 (va_up (AI 9) j ((AI 9 j) + 1))) 7 (va_up (AI 7) j 1), AN, AB, AL), rfl, (by simp [m_approve, ixn, bI, ej, c_2, c_2n, c_4, c_5, c_6, c_7, c_8] <;> (repeat' apply And.intro) <;> rfl), by rw [ht]; exact hP, va_K.moved hW.alike hK, hD⟩, hS.F ht⟩) hS.2.2 d_Mo_approve_128
          · refine lv_iload_n hx hb d_Mo_approve_84 rfl (lv_at hl 2 rfl) ?_
            refine lv_goto (tgt := 94) hx hb d_Mo_approve_85 (by decide) ?_
            refine ra_iast (n := 300) (j := j) (f := AI 8) hx hb hK hP hD hS 8 7 rfl rfl (by omega) (by decide) d_Mo_approve_94 (fun H locs hP hD hS => ?_)
            have hP : va_P (dC, dI) classes (mw ad cA 0 yr nf no nt bd nb fl (va_up AI 8 (va_up (AI 8) j w0)) AN AB AL) H := hP
            have hD : va_D A (mw ad cA 0 yr nf no nt bd nb fl (va_up AI 8 (va_up (AI 8) j w0)) AN AB AL) := hD
            refine lv_aload_n hx hb d_Mo_approve_95 rfl (lv_at hl 0 rfl) ?_
            refine va_get (D := (dC, dI)) (ci := 7) (v := .ref (ad 9)) (C := R_Mo) (T := F_Mo) (N := 31) hx hb hG iG_Mo hown hK hP 0 rfl rfl 12 (by decide) (hG _ k_535) (fun _ h9 => h9) rfl d_Mo_approve_96 ?_
            refine lv_iload_n hx hb d_Mo_approve_99 rfl (lv_at hl 1 rfl) ?_
            refine lv_dup2_11 hx hb d_Mo_approve_100 rfl rfl ?_
            refine ra_iald (n := 300) (j := j) (f := AI 9) hx hb hK hP 9 8 rfl rfl (by omega) (by decide) d_Mo_approve_101 ?_
            refine lv_iconst (v := 1) hx hb d_Mo_approve_102 (by decide) ?_
            refine lv_iadd hx hb d_Mo_approve_103 ?_
            refine ra_iast (n := 300) (j := j) (f := AI 9) hx hb hK hP hD hS 9 8 rfl rfl (by omega) (by decide) d_Mo_approve_104 (fun H locs hP hD hS => ?_)
            have hP : va_P (dC, dI) classes (mw ad cA 0 yr nf no nt bd nb fl (va_up (va_up AI 8 (va_up (AI 8) j w0)) 9 (va_up (AI 9) j ((AI 9 j) + 1))) AN AB AL) H := hP
            have hD : va_D A (mw ad cA 0 yr nf no nt bd nb fl (va_up (va_up AI 8 (va_up (AI 8) j w0)) 9 (va_up (AI 9) j ((AI 9 j) + 1))) AN AB AL) := hD
            refine lv_aload_n hx hb d_Mo_approve_105 rfl (lv_at hl 0 rfl) ?_
            refine va_get (D := (dC, dI)) (ci := 7) (v := .ref (ad 9)) (C := R_Mo) (T := F_Mo) (N := 31) hx hb hG iG_Mo hown hK hP 0 rfl rfl 12 (by decide) (hG _ k_535) (fun _ h9 => h9) rfl d_Mo_approve_106 ?_
            refine lv_iload_n hx hb d_Mo_approve_109 rfl (lv_at hl 1 rfl) ?_
            refine ra_iald (n := 300) (j := j) (f := va_up (AI 9) j ((AI 9 j) + 1)) hx hb hK hP 9 8 rfl rfl (by omega) (by decide) d_Mo_approve_110 ?_
            refine lv_topI (y := ((AI 9 j) + 1)) (va_up_self _ _ _) ?_
            refine lv_iconst (v := 2) hx hb d_Mo_approve_111 (by decide) ?_
            refine lv_icmp_ne (tgt := 122) hx hb d_Mo_approve_112 (by decide) (fun c_9 => ?_) (fun c_9 => ?_)
            · refine lv_aload_n hx hb d_Mo_approve_122 rfl (lv_at hl 0 rfl) ?_
              refine va_get (D := (dC, dI)) (ci := 7) (v := .ref (ad 9)) (C := R_Mo) (T := F_Mo) (N := 31) hx hb hG iG_Mo hown hK hP 0 rfl rfl 12 (by decide) (hG _ k_535) (fun _ h9 => h9) rfl d_Mo_approve_123 ?_
              refine lv_iload_n hx hb d_Mo_approve_126 rfl (lv_at hl 1 rfl) ?_
              refine ra_iald (n := 300) (j := j) (f := va_up (AI 9) j ((AI 9 j) + 1)) hx hb hK hP 9 8 rfl rfl (by omega) (by decide) d_Mo_approve_127 ?_
              refine lv_topI (y := ((AI 9 j) + 1)) (va_up_self _ _ _) ?_
              exact W.iret (v := ((AI 9 j) + 1)) hx hb hr (fun t ht hW => ⟨⟨_, (0, yr, nf, no, nt, bd, nb, fl, va_up (va_up AI 8 (va_up (AI 8) j w0)) 9 (va_up (AI 9) j ((AI 9 j) + 1)), AN, AB, AL), rfl, (by simp [m_approve, ixn, bI, ej, c_2, c_2n, c_4, c_5, c_6, c_7, c_9] <;> (repeat' apply And.intro) <;> rfl), by rw [ht]; exact hP, va_K.moved hW.alike hK, hD⟩, hS.F ht⟩) hS.2.2 d_Mo_approve_128
            · exact absurd c_9 (by rw [c_7]; decide)
        · refine lv_aload_n hx hb d_Mo_approve_57 rfl (lv_at hl 0 rfl) ?_
          refine va_get (D := (dC, dI)) (ci := 7) (v := .ref (ad 8)) (C := R_Mo) (T := F_Mo) (N := 31) hx hb hG iG_Mo hown hK hP 0 rfl rfl 11 (by decide) (hG _ k_534) (fun _ h9 => h9) rfl d_Mo_approve_58 ?_
          refine lv_iload_n hx hb d_Mo_approve_61 rfl (lv_at hl 1 rfl) ?_
          refine ra_iald (n := 300) (j := j) (f := AI 8) hx hb hK hP 8 7 rfl rfl (by omega) (by decide) d_Mo_approve_62 ?_
          refine lv_iload_n hx hb d_Mo_approve_63 rfl (lv_at hl 2 rfl) ?_
          refine lv_icmp_ne (tgt := 70) hx hb d_Mo_approve_64 (by decide) (fun c_10 => ?_) (fun c_10 => ?_)
          · refine lv_aload_n hx hb d_Mo_approve_70 rfl (lv_at hl 0 rfl) ?_
            refine va_get (D := (dC, dI)) (ci := 7) (v := .ref (ad 8)) (C := R_Mo) (T := F_Mo) (N := 31) hx hb hG iG_Mo hown hK hP 0 rfl rfl 11 (by decide) (hG _ k_534) (fun _ h9 => h9) rfl d_Mo_approve_71 ?_
            refine lv_iload_n hx hb d_Mo_approve_74 rfl (lv_at hl 1 rfl) ?_
            refine lv_aload_n hx hb d_Mo_approve_75 rfl (lv_at hl 0 rfl) ?_
            refine va_get (D := (dC, dI)) (ci := 7) (v := .ref (ad 9)) (C := R_Mo) (T := F_Mo) (N := 31) hx hb hG iG_Mo hown hK hP 0 rfl rfl 12 (by decide) (hG _ k_535) (fun _ h9 => h9) rfl d_Mo_approve_76 ?_
            refine lv_iload_n hx hb d_Mo_approve_79 rfl (lv_at hl 1 rfl) ?_
            refine ra_iald (n := 300) (j := j) (f := AI 9) hx hb hK hP 9 8 rfl rfl (by omega) (by decide) d_Mo_approve_80 ?_
            refine lv_if_ne (tgt := 88) hx hb d_Mo_approve_81 (by decide) (fun c_11 => ?_) (fun c_11 => ?_)
            · refine lv_aload_n hx hb d_Mo_approve_88 rfl (lv_at hl 0 rfl) ?_
              refine va_get (D := (dC, dI)) (ci := 7) (v := .ref (ad 8)) (C := R_Mo) (T := F_Mo) (N := 31) hx hb hG iG_Mo hown hK hP 0 rfl rfl 11 (by decide) (hG _ k_534) (fun _ h9 => h9) rfl d_Mo_approve_89 ?_
              refine lv_iload_n hx hb d_Mo_approve_92 rfl (lv_at hl 1 rfl) ?_
              refine ra_iald (n := 300) (j := j) (f := AI 8) hx hb hK hP 8 7 rfl rfl (by omega) (by decide) d_Mo_approve_93 ?_
              refine ra_iast (n := 300) (j := j) (f := AI 8) hx hb hK hP hD hS 8 7 rfl rfl (by omega) (by decide) d_Mo_approve_94 (fun H locs hP hD hS => ?_)
              have hP : va_P (dC, dI) classes (mw ad cA 0 yr nf no nt bd nb fl (va_up AI 8 (va_up (AI 8) j (AI 8 j))) AN AB AL) H := hP
              have hD : va_D A (mw ad cA 0 yr nf no nt bd nb fl (va_up AI 8 (va_up (AI 8) j (AI 8 j))) AN AB AL) := hD
              refine lv_aload_n hx hb d_Mo_approve_95 rfl (lv_at hl 0 rfl) ?_
              refine va_get (D := (dC, dI)) (ci := 7) (v := .ref (ad 9)) (C := R_Mo) (T := F_Mo) (N := 31) hx hb hG iG_Mo hown hK hP 0 rfl rfl 12 (by decide) (hG _ k_535) (fun _ h9 => h9) rfl d_Mo_approve_96 ?_
              refine lv_iload_n hx hb d_Mo_approve_99 rfl (lv_at hl 1 rfl) ?_
              refine lv_dup2_11 hx hb d_Mo_approve_100 rfl rfl ?_
              refine ra_iald (n := 300) (j := j) (f := AI 9) hx hb hK hP 9 8 rfl rfl (by omega) (by decide) d_Mo_approve_101 ?_
              refine lv_iconst (v := 1) hx hb d_Mo_approve_102 (by decide) ?_
              refine lv_iadd hx hb d_Mo_approve_103 ?_
              refine ra_iast (n := 300) (j := j) (f := AI 9) hx hb hK hP hD hS 9 8 rfl rfl (by omega) (by decide) d_Mo_approve_104 (fun H locs hP hD hS => ?_)
              have hP : va_P (dC, dI) classes (mw ad cA 0 yr nf no nt bd nb fl (va_up (va_up AI 8 (va_up (AI 8) j (AI 8 j))) 9 (va_up (AI 9) j ((AI 9 j) + 1))) AN AB AL) H := hP
              have hD : va_D A (mw ad cA 0 yr nf no nt bd nb fl (va_up (va_up AI 8 (va_up (AI 8) j (AI 8 j))) 9 (va_up (AI 9) j ((AI 9 j) + 1))) AN AB AL) := hD
              refine lv_aload_n hx hb d_Mo_approve_105 rfl (lv_at hl 0 rfl) ?_
              refine va_get (D := (dC, dI)) (ci := 7) (v := .ref (ad 9)) (C := R_Mo) (T := F_Mo) (N := 31) hx hb hG iG_Mo hown hK hP 0 rfl rfl 12 (by decide) (hG _ k_535) (fun _ h9 => h9) rfl d_Mo_approve_106 ?_
              refine lv_iload_n hx hb d_Mo_approve_109 rfl (lv_at hl 1 rfl) ?_
              refine ra_iald (n := 300) (j := j) (f := va_up (AI 9) j ((AI 9 j) + 1)) hx hb hK hP 9 8 rfl rfl (by omega) (by decide) d_Mo_approve_110 ?_
              refine lv_topI (y := ((AI 9 j) + 1)) (va_up_self _ _ _) ?_
              refine lv_iconst (v := 2) hx hb d_Mo_approve_111 (by decide) ?_
              refine lv_icmp_ne (tgt := 122) hx hb d_Mo_approve_112 (by decide) (fun c_12 => ?_) (fun c_12 => ?_)
              · exact absurd (by rw [c_6]; decide) c_12
              · refine lv_aload_n hx hb d_Mo_approve_115 rfl (lv_at hl 0 rfl) ?_
                refine va_get (D := (dC, dI)) (ci := 7) (v := .ref (ad 7)) (C := R_Mo) (T := F_Mo) (N := 31) hx hb hG iG_Mo hown hK hP 0 rfl rfl 10 (by decide) (hG _ k_533) (fun _ h9 => h9) rfl d_Mo_approve_116 ?_
                refine lv_iload_n hx hb d_Mo_approve_119 rfl (lv_at hl 1 rfl) ?_
                refine lv_iconst (v := 1) hx hb d_Mo_approve_120 (by decide) ?_
                refine ra_iast (n := 300) (j := j) (f := AI 7) hx hb hK hP hD hS 7 6 rfl rfl (by omega) (by decide) d_Mo_approve_121 (fun H locs hP hD hS => ?_)
                have hP : va_P (dC, dI) classes (mw ad cA 0 yr nf no nt bd nb fl (va_up (va_up (va_up AI 8 (va_up (AI 8) j (AI 8 j))) 9 (va_up (AI 9) j ((AI 9 j) + 1))) 7 (va_up (AI 7) j 1)) AN AB AL) H := hP
                have hD : va_D A (mw ad cA 0 yr nf no nt bd nb fl (va_up (va_up (va_up AI 8 (va_up (AI 8) j (AI 8 j))) 9 (va_up (AI 9) j ((AI 9 j) + 1))) 7 (va_up (AI 7) j 1)) AN AB AL) := hD
                refine lv_aload_n hx hb d_Mo_approve_122 rfl (lv_at hl 0 rfl) ?_
                refine va_get (D := (dC, dI)) (ci := 7) (v := .ref (ad 9)) (C := R_Mo) (T := F_Mo) (N := 31) hx hb hG iG_Mo hown hK hP 0 rfl rfl 12 (by decide) (hG _ k_535) (fun _ h9 => h9) rfl d_Mo_approve_123 ?_
                refine lv_iload_n hx hb d_Mo_approve_126 rfl (lv_at hl 1 rfl) ?_
                refine ra_iald (n := 300) (j := j) (f := va_up (AI 9) j ((AI 9 j) + 1)) hx hb hK hP 9 8 rfl rfl (by omega) (by decide) d_Mo_approve_127 ?_
                refine lv_topI (y := ((AI 9 j) + 1)) (va_up_self _ _ _) ?_
                exact W.iret (v := ((AI 9 j) + 1)) hx hb hr (fun t ht hW => ⟨⟨_, (0, yr, nf, no, nt, bd, nb, fl, va_up (va_up (va_up AI 8 (va_up (AI 8) j (AI 8 j))) 9 (va_up (AI 9) j ((AI 9 j) + 1))) 7 (va_up (AI 7) j 1), AN, AB, AL), rfl, (by simp [m_approve, ixn, bI, ej, c_2, c_2n, c_4, c_5, c_6, c_10, c_11, c_12] <;> (repeat' apply And.intro) <;> rfl), by rw [ht]; exact hP, va_K.moved hW.alike hK, hD⟩, hS.F ht⟩) hS.2.2 d_Mo_approve_128
            · exact absurd (c_6.symm.trans c_11) (by decide)
          · refine lv_bipush (v := (-3)) hx hb d_Mo_approve_67 (by decide) ?_
            exact W.iret (v := (-3)) hx hb hr (fun t ht hW => ⟨⟨_, (0, yr, nf, no, nt, bd, nb, fl, AI, AN, AB, AL), rfl, (by simp [m_approve, ixn, bI, ej, c_2, c_2n, c_4, c_5, c_6, c_10] <;> (repeat' apply And.intro) <;> rfl), by rw [ht]; exact hP, va_K.moved hW.alike hK, hD⟩, hS.F ht⟩) hS.2.2 d_Mo_approve_69
    · refine lv_bipush (v := (-2)) hx hb d_Mo_approve_35 (by decide) ?_
      exact W.iret (v := (-2)) hx hb hr (fun t ht hW => ⟨⟨_, (0, yr, nf, no, nt, bd, nb, fl, AI, AN, AB, AL), rfl, (by simp [m_approve, ixn, bI, ej, c_2, c_2n, c_4] <;> (repeat' apply And.intro) <;> rfl), by rw [ht]; exact hP, va_K.moved hW.alike hK, hD⟩, hS.F ht⟩) hS.2.2 d_Mo_approve_37
  · have c_2n : inN i0 no = false := c_2
    refine lv_iconst (v := (-1)) hx hb d_Mo_approve_21 (by decide) ?_
    exact W.iret (v := (-1)) hx hb hr (fun t ht hW => ⟨⟨_, (0, yr, nf, no, nt, bd, nb, fl, AI, AN, AB, AL), rfl, (by simp [m_approve, ixn, bI, c_2, c_2n] <;> (repeat' apply And.intro) <;> rfl), by rw [ht]; exact hP, va_K.moved hW.alike hK, hD⟩, hS.F ht⟩) hS.2.2 d_Mo_approve_22

theorem d_Mo_cancel_0 : decode b_Mo_cancel 0 = .ok (.aload_n 0, 1) := by decide +kernel
theorem d_Mo_cancel_1 : decode b_Mo_cancel 1 = .ok (.iconst 0, 1) := by decide +kernel
theorem d_Mo_cancel_2 : decode b_Mo_cancel 2 = .ok (.putfield 91, 3) := by decide +kernel
theorem d_Mo_cancel_5 : decode b_Mo_cancel 5 = .ok (.iload_n 1, 1) := by decide +kernel
theorem d_Mo_cancel_6 : decode b_Mo_cancel 6 = .ok (.i2l, 1) := by decide +kernel
theorem d_Mo_cancel_7 : decode b_Mo_cancel 7 = .ok (.lconst 0, 1) := by decide +kernel
theorem d_Mo_cancel_8 : decode b_Mo_cancel 8 = .ok (.aload_n 0, 1) := by decide +kernel
theorem d_Mo_cancel_9 : decode b_Mo_cancel 9 = .ok (.getfield 101, 3) := by decide +kernel
theorem d_Mo_cancel_12 : decode b_Mo_cancel 12 = .ok (.iconst 1, 1) := by decide +kernel
theorem d_Mo_cancel_13 : decode b_Mo_cancel 13 = .ok (.isub, 1) := by decide +kernel
theorem d_Mo_cancel_14 : decode b_Mo_cancel 14 = .ok (.i2l, 1) := by decide +kernel
theorem d_Mo_cancel_15 : decode b_Mo_cancel 15 = .ok (.invokestatic 97, 3) := by decide +kernel
theorem d_Mo_cancel_18 : decode b_Mo_cancel 18 = .ok (.ifCond .ne 5, 3) := by decide +kernel
theorem d_Mo_cancel_21 : decode b_Mo_cancel 21 = .ok (.iconst (-1), 1) := by decide +kernel
theorem d_Mo_cancel_22 : decode b_Mo_cancel 22 = .ok (.ireturn, 1) := by decide +kernel
theorem d_Mo_cancel_23 : decode b_Mo_cancel 23 = .ok (.aload_n 0, 1) := by decide +kernel
theorem d_Mo_cancel_24 : decode b_Mo_cancel 24 = .ok (.getfield 30, 3) := by decide +kernel
theorem d_Mo_cancel_27 : decode b_Mo_cancel 27 = .ok (.iload_n 1, 1) := by decide +kernel
theorem d_Mo_cancel_28 : decode b_Mo_cancel 28 = .ok (.iaload, 1) := by decide +kernel
theorem d_Mo_cancel_29 : decode b_Mo_cancel 29 = .ok (.iconst 1, 1) := by decide +kernel
theorem d_Mo_cancel_30 : decode b_Mo_cancel 30 = .ok (.if_icmp .le 6, 3) := by decide +kernel
theorem d_Mo_cancel_33 : decode b_Mo_cancel 33 = .ok (.bipush (-3), 2) := by decide +kernel
theorem d_Mo_cancel_35 : decode b_Mo_cancel 35 = .ok (.ireturn, 1) := by decide +kernel
theorem d_Mo_cancel_36 : decode b_Mo_cancel 36 = .ok (.aload_n 0, 1) := by decide +kernel
theorem d_Mo_cancel_37 : decode b_Mo_cancel 37 = .ok (.getfield 30, 3) := by decide +kernel
theorem d_Mo_cancel_40 : decode b_Mo_cancel 40 = .ok (.iload_n 1, 1) := by decide +kernel
theorem d_Mo_cancel_41 : decode b_Mo_cancel 41 = .ok (.iaload, 1) := by decide +kernel
theorem d_Mo_cancel_42 : decode b_Mo_cancel 42 = .ok (.iconst 1, 1) := by decide +kernel
theorem d_Mo_cancel_43 : decode b_Mo_cancel 43 = .ok (.if_icmp .ne 12, 3) := by decide +kernel
theorem d_Mo_cancel_46 : decode b_Mo_cancel 46 = .ok (.aload_n 0, 1) := by decide +kernel
theorem d_Mo_cancel_47 : decode b_Mo_cancel 47 = .ok (.getfield 23, 3) := by decide +kernel
theorem d_Mo_cancel_50 : decode b_Mo_cancel 50 = .ok (.iload_n 1, 1) := by decide +kernel
theorem d_Mo_cancel_51 : decode b_Mo_cancel 51 = .ok (.iaload, 1) := by decide +kernel
theorem d_Mo_cancel_52 : decode b_Mo_cancel 52 = .ok (.goto 4, 3) := by decide +kernel
theorem d_Mo_cancel_55 : decode b_Mo_cancel 55 = .ok (.iconst 0, 1) := by decide +kernel
theorem d_Mo_cancel_56 : decode b_Mo_cancel 56 = .ok (.istore_n 2, 1) := by decide +kernel
theorem d_Mo_cancel_57 : decode b_Mo_cancel 57 = .ok (.aload_n 0, 1) := by decide +kernel
theorem d_Mo_cancel_58 : decode b_Mo_cancel 58 = .ok (.getfield 30, 3) := by decide +kernel
theorem d_Mo_cancel_61 : decode b_Mo_cancel 61 = .ok (.iload_n 1, 1) := by decide +kernel
theorem d_Mo_cancel_62 : decode b_Mo_cancel 62 = .ok (.iconst 3, 1) := by decide +kernel
theorem d_Mo_cancel_63 : decode b_Mo_cancel 63 = .ok (.iastore, 1) := by decide +kernel
theorem d_Mo_cancel_64 : decode b_Mo_cancel 64 = .ok (.iload_n 2, 1) := by decide +kernel
theorem d_Mo_cancel_65 : decode b_Mo_cancel 65 = .ok (.ireturn, 1) := by decide +kernel
set_option maxHeartbeats 4000000 in
set_option maxRecDepth 100000 in
theorem c_Mo_cancel (l : Launch) (dC : Nat → ClassId) (dI : Nat → Nat → Nat) (ad : Nat → Nat) (cA : Nat → ClassId) (th yr : Int32) (nf no nt : Nat) (bd : Int32) (nb : Nat) (fl : Int32) (AI : Nat → Nat → Int32) (AN : Nat → Nat → Nat) (AB : Nat → Nat → Bool) (AL : Nat → Nat → Int64) (sz : Nat) (i0 : Int32) (hI : InvM nf no nt nb AI AN) : Met l y_Mo_cancel w_Mo_cancel { frames := 1, cells := 0, slots := 0, locals := 25 } (mu_P (dC, dI) classes (mtys cA) (mw ad cA th yr nf no nt bd nb fl AI AN AB AL) sz [.ref (ad 0), .int i0]) (va_Qi (fun r u => (r, u) = m_cancel (th, yr, nf, no, nt, bd, nb, fl, AI, AN, AB, AL) i0) (mu_B (dC, dI) classes (mtys cA) (va_A (mw ad cA th yr nf no nt bd nb fl AI AN AB AL) sz) (mwS ad cA)) (va_A (mw ad cA th yr nf no nt bd nb fl AI AN AB AL) sz)) 0 0 (va_A (mw ad cA th yr nf no nt bd nb fl AI AN AB AL) sz) := by
  refine Met.ofW (cc := b_Mo_cancel) (maxL := 3) (ret := (some .int)) (by decide) rfl ?_
  intro p e s m args below meth c s₁ B hml hv
  obtain ⟨rfl, hsz, hP, hK, hD0, hN⟩ := hv
  have hx := B.exec
  have hb := B.bytes
  have hr := B.returns
  have hts := atoms_spec (ws := w_Mo_cancel) B.pre
  have hG := fun (w : Cond) (h : w ∈ wG) => hts w (List.mem_cons_of_mem _ h)
  have hown : s.vm.findClass R_Mo = some m.cls := findClass_of_methodNamed B.named
  have hlocks := B.notSynchronized
  subst hsz
  have hD := hD0.self (sz := s.heap.size)
  generalize hAe : va_A (mw ad cA th yr nf no nt bd nb fl AI AN AB AL) s.heap.size = A at hD ⊢
  have hA : ∀ q : Nat, s.heap.size ≤ q → A q := fun q h => by rw [← hAe]; exact Or.inr h
  have hS : va_S A s.heap s.heap [] := va_S.rf
  have hP : va_P (dC, dI) classes (mw ad cA th yr nf no nt bd nb fl AI AN AB AL) s.heap := hP
  have hl := lv_entry ([.ref (ad 0), .int i0]) (n := 3) (Nat.le_of_ble_eq_true rfl)
  rw [lg_entry_eq]
  generalize (lg_sl ([.ref (ad 0), .int i0]) ++ List.replicate (3 - (lg_sl ([.ref (ad 0), .int i0])).length) Slot.unset).toArray = ls at hl ⊢
  have hl : lv_has ls 3 [(0, .ref (ad 0)), (1, .int i0)] := hl
  obtain ⟨hnf, hno, hnt, hnb, hfu, hft, hbf, hrw, hce, hdn⟩ := id hI
  refine lv_aload_n hx hb d_Mo_cancel_0 rfl (lv_at hl 0 rfl) ?_
  refine lv_iconst (v := 0) hx hb d_Mo_cancel_1 (by decide) ?_
  refine va_put (D := (dC, dI)) (ci := 7) (v := .int 0) (ty := .int) (C := R_Mo) (T := F_Mo) (N := 31) hx hb hG iG_Mo t_Mo t_Mo_ok n_Mo hown hK hP hD hS 0 rfl rfl 0 (by decide) (hG _ k_523) (fun _ h9 => h9) rfl (by decide +kernel) rfl rfl (Nat.le_of_ble_eq_true rfl) d_Mo_cancel_2 (fun H locs hP hD hS => ?_)
  have hP : va_P (dC, dI) classes (mw ad cA 0 yr nf no nt bd nb fl AI AN AB AL) H := hP
  have hD : va_D A (mw ad cA 0 yr nf no nt bd nb fl AI AN AB AL) := hD
  refine lv_iload_n hx hb d_Mo_cancel_5 rfl (lv_at hl 1 rfl) ?_
  refine lv_i2l hx hb d_Mo_cancel_6 rfl ?_
  refine lv_lconst (v := 0) hx hb d_Mo_cancel_7 (by decide) ?_
  refine lv_aload_n hx hb d_Mo_cancel_8 rfl (lv_at hl 0 rfl) ?_
  refine va_get (D := (dC, dI)) (ci := 7) (v := .int (nI no)) (C := R_Mo) (T := F_Mo) (N := 31) hx hb hG iG_Mo hown hK hP 0 rfl rfl 6 (by decide) (hG _ k_529) (fun _ h9 => h9) rfl d_Mo_cancel_9 ?_
  refine lv_iconst (v := 1) hx hb d_Mo_cancel_12 (by decide) ?_
  refine lv_isub hx hb d_Mo_cancel_13 ?_
  refine lv_i2l hx hb d_Mo_cancel_14 rfl ?_
  refine rd_calli (va_runS (As := [.long (i0.toInt64), .long 0, .long ((nI no - 1).toInt64)]) (rest := []) ⟨hx, hb, hml, hown, hts⟩ (c_Mo_in l dC dI (mtys cA) (mw ad cA 0 yr nf no nt bd nb fl AI AN AB AL) (i0.toInt64) 0 ((nI no - 1).toInt64)) (cwS 3 hts (gd_S k_629 k_630 k_17 k_631) rfl rfl rfl (by decide +kernel) ⟨Nat.le_of_ble_eq_true rfl, Nat.le_of_ble_eq_true rfl⟩) (rd_preS hK hN hP) rfl rfl hl.1 rfl (lv_room (Nat.le_of_ble_eq_true rfl)) d_Mo_cancel_15 ⟨Nat.zero_le _, Nat.zero_le _⟩) (fun r_1 hr_1 => ?_)
  subst hr_1
  refine lb_if_ne (tgt := 23) hx hb d_Mo_cancel_18 (by decide) (fun c_2 => ?_) (fun c_2 => ?_)
  · obtain ⟨j, hj, rfl⟩ := inN_of (n := no) (by omega) c_2
    have ej : (nI j).toNatClampNeg = j := nI_clamp (by omega)
    have c_2n : inN (nI j) no = true := c_2
    refine lv_aload_n hx hb d_Mo_cancel_23 rfl (lv_at hl 0 rfl) ?_
    refine va_get (D := (dC, dI)) (ci := 7) (v := .ref (ad 7)) (C := R_Mo) (T := F_Mo) (N := 31) hx hb hG iG_Mo hown hK hP 0 rfl rfl 10 (by decide) (hG _ k_533) (fun _ h9 => h9) rfl d_Mo_cancel_24 ?_
    refine lv_iload_n hx hb d_Mo_cancel_27 rfl (lv_at hl 1 rfl) ?_
    refine ra_iald (n := 300) (j := j) (f := AI 7) hx hb hK hP 7 6 rfl rfl (by omega) (by decide) d_Mo_cancel_28 ?_
    refine lv_iconst (v := 1) hx hb d_Mo_cancel_29 (by decide) ?_
    refine lv_icmp_le (tgt := 36) hx hb d_Mo_cancel_30 (by decide) (fun c_3 => ?_) (fun c_3 => ?_)
    · rw [← Int32.not_lt] at c_3
      refine lv_aload_n hx hb d_Mo_cancel_36 rfl (lv_at hl 0 rfl) ?_
      refine va_get (D := (dC, dI)) (ci := 7) (v := .ref (ad 7)) (C := R_Mo) (T := F_Mo) (N := 31) hx hb hG iG_Mo hown hK hP 0 rfl rfl 10 (by decide) (hG _ k_533) (fun _ h9 => h9) rfl d_Mo_cancel_37 ?_
      refine lv_iload_n hx hb d_Mo_cancel_40 rfl (lv_at hl 1 rfl) ?_
      refine ra_iald (n := 300) (j := j) (f := AI 7) hx hb hK hP 7 6 rfl rfl (by omega) (by decide) d_Mo_cancel_41 ?_
      refine lv_iconst (v := 1) hx hb d_Mo_cancel_42 (by decide) ?_
      refine lv_icmp_ne (tgt := 55) hx hb d_Mo_cancel_43 (by decide) (fun c_4 => ?_) (fun c_4 => ?_)
      · refine lv_iconst (v := 0) hx hb d_Mo_cancel_55 (by decide) ?_
        refine lv_istore_n (lv' := [(2, .int 0), (0, .ref (ad 0)), (1, .int (nI j))]) hx hb d_Mo_cancel_56 rfl hl (by decide) rfl (fun ls hl => ?_)
        refine lv_aload_n hx hb d_Mo_cancel_57 rfl (lv_at hl 1 rfl) ?_
        refine va_get (D := (dC, dI)) (ci := 7) (v := .ref (ad 7)) (C := R_Mo) (T := F_Mo) (N := 31) hx hb hG iG_Mo hown hK hP 0 rfl rfl 10 (by decide) (hG _ k_533) (fun _ h9 => h9) rfl d_Mo_cancel_58 ?_
        refine lv_iload_n hx hb d_Mo_cancel_61 rfl (lv_at hl 2 rfl) ?_
        refine lv_iconst (v := 3) hx hb d_Mo_cancel_62 (by decide) ?_
        refine ra_iast (n := 300) (j := j) (f := AI 7) hx hb hK hP hD hS 7 6 rfl rfl (by omega) (by decide) d_Mo_cancel_63 (fun H locs hP hD hS => ?_)
        have hP : va_P (dC, dI) classes (mw ad cA 0 yr nf no nt bd nb fl (va_up AI 7 (va_up (AI 7) j 3)) AN AB AL) H := hP
        have hD : va_D A (mw ad cA 0 yr nf no nt bd nb fl (va_up AI 7 (va_up (AI 7) j 3)) AN AB AL) := hD
        refine lv_iload_n hx hb d_Mo_cancel_64 rfl (lv_at hl 0 rfl) ?_
        exact W.iret (v := 0) hx hb hr (fun t ht hW => ⟨⟨_, (0, yr, nf, no, nt, bd, nb, fl, va_up AI 7 (va_up (AI 7) j 3), AN, AB, AL), rfl, (by simp [m_cancel, ixn, bI, ej, c_2, c_2n, c_3, c_4] <;> (repeat' apply And.intro) <;> rfl), by rw [ht]; exact hP, va_K.moved hW.alike hK, hD⟩, hS.F ht⟩) hS.2.2 d_Mo_cancel_65
      · refine lv_aload_n hx hb d_Mo_cancel_46 rfl (lv_at hl 0 rfl) ?_
        refine va_get (D := (dC, dI)) (ci := 7) (v := .ref (ad 5)) (C := R_Mo) (T := F_Mo) (N := 31) hx hb hG iG_Mo hown hK hP 0 rfl rfl 8 (by decide) (hG _ k_531) (fun _ h9 => h9) rfl d_Mo_cancel_47 ?_
        refine lv_iload_n hx hb d_Mo_cancel_50 rfl (lv_at hl 1 rfl) ?_
        refine ra_iald (n := 300) (j := j) (f := AI 5) hx hb hK hP 5 4 rfl rfl (by omega) (by decide) d_Mo_cancel_51 ?_
        refine lv_goto (tgt := 56) hx hb d_Mo_cancel_52 (by decide) ?_
        refine lv_istore_n (lv' := [(2, .int (AI 5 j)), (0, .ref (ad 0)), (1, .int (nI j))]) hx hb d_Mo_cancel_56 rfl hl (by decide) rfl (fun ls hl => ?_)
        refine lv_aload_n hx hb d_Mo_cancel_57 rfl (lv_at hl 1 rfl) ?_
        refine va_get (D := (dC, dI)) (ci := 7) (v := .ref (ad 7)) (C := R_Mo) (T := F_Mo) (N := 31) hx hb hG iG_Mo hown hK hP 0 rfl rfl 10 (by decide) (hG _ k_533) (fun _ h9 => h9) rfl d_Mo_cancel_58 ?_
        refine lv_iload_n hx hb d_Mo_cancel_61 rfl (lv_at hl 2 rfl) ?_
        refine lv_iconst (v := 3) hx hb d_Mo_cancel_62 (by decide) ?_
        refine ra_iast (n := 300) (j := j) (f := AI 7) hx hb hK hP hD hS 7 6 rfl rfl (by omega) (by decide) d_Mo_cancel_63 (fun H locs hP hD hS => ?_)
        have hP : va_P (dC, dI) classes (mw ad cA 0 yr nf no nt bd nb fl (va_up AI 7 (va_up (AI 7) j 3)) AN AB AL) H := hP
        have hD : va_D A (mw ad cA 0 yr nf no nt bd nb fl (va_up AI 7 (va_up (AI 7) j 3)) AN AB AL) := hD
        refine lv_iload_n hx hb d_Mo_cancel_64 rfl (lv_at hl 0 rfl) ?_
        exact W.iret (v := (AI 5 j)) hx hb hr (fun t ht hW => ⟨⟨_, (0, yr, nf, no, nt, bd, nb, fl, va_up AI 7 (va_up (AI 7) j 3), AN, AB, AL), rfl, (by simp [m_cancel, ixn, bI, ej, c_2, c_2n, c_3, c_4] <;> (repeat' apply And.intro) <;> rfl), by rw [ht]; exact hP, va_K.moved hW.alike hK, hD⟩, hS.F ht⟩) hS.2.2 d_Mo_cancel_65
    · refine lv_bipush (v := (-3)) hx hb d_Mo_cancel_33 (by decide) ?_
      exact W.iret (v := (-3)) hx hb hr (fun t ht hW => ⟨⟨_, (0, yr, nf, no, nt, bd, nb, fl, AI, AN, AB, AL), rfl, (by simp [m_cancel, ixn, bI, ej, c_2, c_2n, c_3] <;> (repeat' apply And.intro) <;> rfl), by rw [ht]; exact hP, va_K.moved hW.alike hK, hD⟩, hS.F ht⟩) hS.2.2 d_Mo_cancel_35
  · have c_2n : inN i0 no = false := c_2
    refine lv_iconst (v := (-1)) hx hb d_Mo_cancel_21 (by decide) ?_
    exact W.iret (v := (-1)) hx hb hr (fun t ht hW => ⟨⟨_, (0, yr, nf, no, nt, bd, nb, fl, AI, AN, AB, AL), rfl, (by simp [m_cancel, ixn, bI, c_2, c_2n] <;> (repeat' apply And.intro) <;> rfl), by rw [ht]; exact hP, va_K.moved hW.alike hK, hD⟩, hS.F ht⟩) hS.2.2 d_Mo_cancel_22

theorem d_Mo_transfer_0 : decode b_Mo_transfer 0 = .ok (.aload_n 0, 1) := by decide +kernel
theorem d_Mo_transfer_1 : decode b_Mo_transfer 1 = .ok (.iconst 0, 1) := by decide +kernel
theorem d_Mo_transfer_2 : decode b_Mo_transfer 2 = .ok (.putfield 91, 3) := by decide +kernel
theorem d_Mo_transfer_5 : decode b_Mo_transfer 5 = .ok (.aload_n 0, 1) := by decide +kernel
theorem d_Mo_transfer_6 : decode b_Mo_transfer 6 = .ok (.iload_n 1, 1) := by decide +kernel
theorem d_Mo_transfer_7 : decode b_Mo_transfer 7 = .ok (.invokevirtual 118, 3) := by decide +kernel
theorem d_Mo_transfer_10 : decode b_Mo_transfer 10 = .ok (.ifCond .eq 11, 3) := by decide +kernel
theorem d_Mo_transfer_13 : decode b_Mo_transfer 13 = .ok (.aload_n 0, 1) := by decide +kernel
theorem d_Mo_transfer_14 : decode b_Mo_transfer 14 = .ok (.iload_n 2, 1) := by decide +kernel
theorem d_Mo_transfer_15 : decode b_Mo_transfer 15 = .ok (.invokevirtual 118, 3) := by decide +kernel
theorem d_Mo_transfer_18 : decode b_Mo_transfer 18 = .ok (.ifCond .ne 5, 3) := by decide +kernel
theorem d_Mo_transfer_21 : decode b_Mo_transfer 21 = .ok (.iconst (-1), 1) := by decide +kernel
theorem d_Mo_transfer_22 : decode b_Mo_transfer 22 = .ok (.ireturn, 1) := by decide +kernel
theorem d_Mo_transfer_23 : decode b_Mo_transfer 23 = .ok (.iload_n 3, 1) := by decide +kernel
theorem d_Mo_transfer_24 : decode b_Mo_transfer 24 = .ok (.i2l, 1) := by decide +kernel
theorem d_Mo_transfer_25 : decode b_Mo_transfer 25 = .ok (.lconst 1, 1) := by decide +kernel
theorem d_Mo_transfer_26 : decode b_Mo_transfer 26 = .ok (.ldc2_w 128, 3) := by decide +kernel
theorem d_Mo_transfer_29 : decode b_Mo_transfer 29 = .ok (.invokestatic 97, 3) := by decide +kernel
theorem d_Mo_transfer_32 : decode b_Mo_transfer 32 = .ok (.ifCond .eq 8, 3) := by decide +kernel
theorem d_Mo_transfer_35 : decode b_Mo_transfer 35 = .ok (.iload_n 1, 1) := by decide +kernel
theorem d_Mo_transfer_36 : decode b_Mo_transfer 36 = .ok (.iload_n 2, 1) := by decide +kernel
theorem d_Mo_transfer_37 : decode b_Mo_transfer 37 = .ok (.if_icmp .ne 6, 3) := by decide +kernel
theorem d_Mo_transfer_40 : decode b_Mo_transfer 40 = .ok (.bipush (-2), 2) := by decide +kernel
theorem d_Mo_transfer_42 : decode b_Mo_transfer 42 = .ok (.ireturn, 1) := by decide +kernel
theorem d_Mo_transfer_43 : decode b_Mo_transfer 43 = .ok (.aload_n 0, 1) := by decide +kernel
theorem d_Mo_transfer_44 : decode b_Mo_transfer 44 = .ok (.getfield 159, 3) := by decide +kernel
theorem d_Mo_transfer_47 : decode b_Mo_transfer 47 = .ok (.bipush 100, 2) := by decide +kernel
theorem d_Mo_transfer_49 : decode b_Mo_transfer 49 = .ok (.if_icmp .ne 6, 3) := by decide +kernel
theorem d_Mo_transfer_52 : decode b_Mo_transfer 52 = .ok (.bipush (-4), 2) := by decide +kernel
theorem d_Mo_transfer_54 : decode b_Mo_transfer 54 = .ok (.ireturn, 1) := by decide +kernel
theorem d_Mo_transfer_55 : decode b_Mo_transfer 55 = .ok (.aload_n 0, 1) := by decide +kernel
theorem d_Mo_transfer_56 : decode b_Mo_transfer 56 = .ok (.getfield 48, 3) := by decide +kernel
theorem d_Mo_transfer_59 : decode b_Mo_transfer 59 = .ok (.aload_n 0, 1) := by decide +kernel
theorem d_Mo_transfer_60 : decode b_Mo_transfer 60 = .ok (.getfield 159, 3) := by decide +kernel
theorem d_Mo_transfer_63 : decode b_Mo_transfer 63 = .ok (.iload_n 1, 1) := by decide +kernel
theorem d_Mo_transfer_64 : decode b_Mo_transfer 64 = .ok (.iastore, 1) := by decide +kernel
theorem d_Mo_transfer_65 : decode b_Mo_transfer 65 = .ok (.aload_n 0, 1) := by decide +kernel
theorem d_Mo_transfer_66 : decode b_Mo_transfer 66 = .ok (.getfield 51, 3) := by decide +kernel
theorem d_Mo_transfer_69 : decode b_Mo_transfer 69 = .ok (.aload_n 0, 1) := by decide +kernel
theorem d_Mo_transfer_70 : decode b_Mo_transfer 70 = .ok (.getfield 159, 3) := by decide +kernel
theorem d_Mo_transfer_73 : decode b_Mo_transfer 73 = .ok (.iload_n 2, 1) := by decide +kernel
theorem d_Mo_transfer_74 : decode b_Mo_transfer 74 = .ok (.iastore, 1) := by decide +kernel
theorem d_Mo_transfer_75 : decode b_Mo_transfer 75 = .ok (.aload_n 0, 1) := by decide +kernel
theorem d_Mo_transfer_76 : decode b_Mo_transfer 76 = .ok (.getfield 54, 3) := by decide +kernel
theorem d_Mo_transfer_79 : decode b_Mo_transfer 79 = .ok (.aload_n 0, 1) := by decide +kernel
theorem d_Mo_transfer_80 : decode b_Mo_transfer 80 = .ok (.getfield 159, 3) := by decide +kernel
theorem d_Mo_transfer_83 : decode b_Mo_transfer 83 = .ok (.iload_n 3, 1) := by decide +kernel
theorem d_Mo_transfer_84 : decode b_Mo_transfer 84 = .ok (.iastore, 1) := by decide +kernel
theorem d_Mo_transfer_85 : decode b_Mo_transfer 85 = .ok (.aload_n 0, 1) := by decide +kernel
theorem d_Mo_transfer_86 : decode b_Mo_transfer 86 = .ok (.dup, 1) := by decide +kernel
theorem d_Mo_transfer_87 : decode b_Mo_transfer 87 = .ok (.getfield 159, 3) := by decide +kernel
theorem d_Mo_transfer_90 : decode b_Mo_transfer 90 = .ok (.iconst 1, 1) := by decide +kernel
theorem d_Mo_transfer_91 : decode b_Mo_transfer 91 = .ok (.iadd, 1) := by decide +kernel
theorem d_Mo_transfer_92 : decode b_Mo_transfer 92 = .ok (.putfield 159, 3) := by decide +kernel
theorem d_Mo_transfer_95 : decode b_Mo_transfer 95 = .ok (.aload_n 0, 1) := by decide +kernel
theorem d_Mo_transfer_96 : decode b_Mo_transfer 96 = .ok (.getfield 159, 3) := by decide +kernel
theorem d_Mo_transfer_99 : decode b_Mo_transfer 99 = .ok (.iconst 1, 1) := by decide +kernel
theorem d_Mo_transfer_100 : decode b_Mo_transfer 100 = .ok (.isub, 1) := by decide +kernel
theorem d_Mo_transfer_101 : decode b_Mo_transfer 101 = .ok (.ireturn, 1) := by decide +kernel
set_option maxHeartbeats 4000000 in
set_option maxRecDepth 100000 in
theorem c_Mo_transfer (l : Launch) (dC : Nat → ClassId) (dI : Nat → Nat → Nat) (ad : Nat → Nat) (cA : Nat → ClassId) (th yr : Int32) (nf no nt : Nat) (bd : Int32) (nb : Nat) (fl : Int32) (AI : Nat → Nat → Int32) (AN : Nat → Nat → Nat) (AB : Nat → Nat → Bool) (AL : Nat → Nat → Int64) (sz : Nat) (fd t0 c0 : Int32) (hI : InvM nf no nt nb AI AN) : Met l y_Mo_transfer w_Mo_transfer { frames := 2, cells := 0, slots := 0, locals := 46 } (mu_P (dC, dI) classes (mtys cA) (mw ad cA th yr nf no nt bd nb fl AI AN AB AL) sz [.ref (ad 0), .int fd, .int t0, .int c0]) (va_Qi (fun r u => (r, u) = m_transfer (th, yr, nf, no, nt, bd, nb, fl, AI, AN, AB, AL) fd t0 c0) (mu_B (dC, dI) classes (mtys cA) (va_A (mw ad cA th yr nf no nt bd nb fl AI AN AB AL) sz) (mwS ad cA)) (va_A (mw ad cA th yr nf no nt bd nb fl AI AN AB AL) sz)) 0 0 (va_A (mw ad cA th yr nf no nt bd nb fl AI AN AB AL) sz) := by
  refine Met.ofW (cc := b_Mo_transfer) (maxL := 4) (ret := (some .int)) (by decide) rfl ?_
  intro p e s m args below meth c s₁ B hml hv
  obtain ⟨rfl, hsz, hP, hK, hD0, hN⟩ := hv
  have hx := B.exec
  have hb := B.bytes
  have hr := B.returns
  have hts := atoms_spec (ws := w_Mo_transfer) B.pre
  have hG := fun (w : Cond) (h : w ∈ wG) => hts w (List.mem_cons_of_mem _ h)
  have hown : s.vm.findClass R_Mo = some m.cls := findClass_of_methodNamed B.named
  have hlocks := B.notSynchronized
  subst hsz
  have hD := hD0.self (sz := s.heap.size)
  generalize hAe : va_A (mw ad cA th yr nf no nt bd nb fl AI AN AB AL) s.heap.size = A at hD ⊢
  have hA : ∀ q : Nat, s.heap.size ≤ q → A q := fun q h => by rw [← hAe]; exact Or.inr h
  have hS : va_S A s.heap s.heap [] := va_S.rf
  have hP : va_P (dC, dI) classes (mw ad cA th yr nf no nt bd nb fl AI AN AB AL) s.heap := hP
  have hl := lv_entry ([.ref (ad 0), .int fd, .int t0, .int c0]) (n := 4) (Nat.le_of_ble_eq_true rfl)
  rw [lg_entry_eq]
  generalize (lg_sl ([.ref (ad 0), .int fd, .int t0, .int c0]) ++ List.replicate (4 - (lg_sl ([.ref (ad 0), .int fd, .int t0, .int c0])).length) Slot.unset).toArray = ls at hl ⊢
  have hl : lv_has ls 4 [(0, .ref (ad 0)), (1, .int fd), (2, .int t0), (3, .int c0)] := hl
  obtain ⟨hnf, hno, hnt, hnb, hfu, hft, hbf, hrw, hce, hdn⟩ := id hI
  refine lv_aload_n hx hb d_Mo_transfer_0 rfl (lv_at hl 0 rfl) ?_
  refine lv_iconst (v := 0) hx hb d_Mo_transfer_1 (by decide) ?_
  refine va_put (D := (dC, dI)) (ci := 7) (v := .int 0) (ty := .int) (C := R_Mo) (T := F_Mo) (N := 31) hx hb hG iG_Mo t_Mo t_Mo_ok n_Mo hown hK hP hD hS 0 rfl rfl 0 (by decide) (hG _ k_523) (fun _ h9 => h9) rfl (by decide +kernel) rfl rfl (Nat.le_of_ble_eq_true rfl) d_Mo_transfer_2 (fun H locs hP hD hS => ?_)
  have hP : va_P (dC, dI) classes (mw ad cA 0 yr nf no nt bd nb fl AI AN AB AL) H := hP
  have hD : va_D A (mw ad cA 0 yr nf no nt bd nb fl AI AN AB AL) := hD
  refine lv_aload_n hx hb d_Mo_transfer_5 rfl (lv_at hl 0 rfl) ?_
  refine lv_iload_n hx hb d_Mo_transfer_6 rfl (lv_at hl 1 rfl) ?_
  refine rd_calli (va_runV (As := [.int fd]) (rest := []) ⟨hx, hb, hml, hown, hts⟩ (c_Mo_isFund l dC dI ad cA 0 yr nf no nt bd nb fl AI AN AB AL fd) (cwV 1 hts (gd_V k_636 k_638 k_7 k_17 k_639) rfl rfl rfl (by decide +kernel) ⟨Nat.le_of_ble_eq_true rfl, Nat.le_of_ble_eq_true rfl⟩) (rd_preV 0 hK hN hP rfl rfl) rfl rfl hl.1 rfl (lv_room (Nat.le_of_ble_eq_true rfl)) d_Mo_transfer_7 ⟨Nat.zero_le _, Nat.zero_le _⟩) (fun r_1 hr_1 => ?_)
  subst hr_1
  refine lb_if_eq (tgt := 21) hx hb d_Mo_transfer_10 (by decide) (fun c_2 => ?_) (fun c_2 => ?_)
  · refine lv_iconst (v := (-1)) hx hb d_Mo_transfer_21 (by decide) ?_
    exact W.iret (v := (-1)) hx hb hr (fun t ht hW => ⟨⟨_, (0, yr, nf, no, nt, bd, nb, fl, AI, AN, AB, AL), rfl, (by simp [m_transfer, ixn, bI, c_2] <;> (repeat' apply And.intro) <;> rfl), by rw [ht]; exact hP, va_K.moved hW.alike hK, hD⟩, hS.F ht⟩) hS.2.2 d_Mo_transfer_22
  · obtain ⟨j, hj, rfl⟩ := inN_of (n := nf) (by omega) c_2
    have ej : (nI j).toNatClampNeg = j := nI_clamp (by omega)
    refine lv_aload_n hx hb d_Mo_transfer_13 rfl (lv_at hl 0 rfl) ?_
    refine lv_iload_n hx hb d_Mo_transfer_14 rfl (lv_at hl 2 rfl) ?_
    refine rd_calli (va_runV (As := [.int t0]) (rest := []) ⟨hx, hb, hml, hown, hts⟩ (c_Mo_isFund l dC dI ad cA 0 yr nf no nt bd nb fl AI AN AB AL t0) (cwV 1 hts (gd_V k_636 k_638 k_7 k_17 k_639) rfl rfl rfl (by decide +kernel) ⟨Nat.le_of_ble_eq_true rfl, Nat.le_of_ble_eq_true rfl⟩) (rd_preV 0 hK hN hP rfl rfl) rfl rfl hl.1 rfl (lv_room (Nat.le_of_ble_eq_true rfl)) d_Mo_transfer_15 ⟨Nat.zero_le _, Nat.zero_le _⟩) (fun r_3 hr_3 => ?_)
    subst hr_3
    refine lb_if_ne (tgt := 23) hx hb d_Mo_transfer_18 (by decide) (fun c_4 => ?_) (fun c_4 => ?_)
    · obtain ⟨k, hk, rfl⟩ := inN_of (n := nf) (by omega) c_4
      have ek : (nI k).toNatClampNeg = k := nI_clamp (by omega)
      refine lv_iload_n hx hb d_Mo_transfer_23 rfl (lv_at hl 3 rfl) ?_
      refine lv_i2l hx hb d_Mo_transfer_24 rfl ?_
      refine lv_lconst (v := 1) hx hb d_Mo_transfer_25 (by decide) ?_
      refine lv_ldc2 (own := R_Mo) (v := 1000000000) hx hb hown (hG _ k_658) d_Mo_transfer_26 ?_
      refine rd_calli (va_runS (As := [.long (c0.toInt64), .long 1, .long 1000000000]) (rest := []) ⟨hx, hb, hml, hown, hts⟩ (c_Mo_in l dC dI (mtys cA) (mw ad cA 0 yr nf no nt bd nb fl AI AN AB AL) (c0.toInt64) 1 1000000000) (cwS 3 hts (gd_S k_629 k_630 k_17 k_631) rfl rfl rfl (by decide +kernel) ⟨Nat.le_of_ble_eq_true rfl, Nat.le_of_ble_eq_true rfl⟩) (rd_preS hK hN hP) rfl rfl hl.1 rfl (lv_room (Nat.le_of_ble_eq_true rfl)) d_Mo_transfer_29 ⟨Nat.zero_le _, Nat.zero_le _⟩) (fun r_5 hr_5 => ?_)
      subst hr_5
      refine lb_if_eq (tgt := 40) hx hb d_Mo_transfer_32 (by decide) (fun c_6 => ?_) (fun c_6 => ?_)
      · refine lv_bipush (v := (-2)) hx hb d_Mo_transfer_40 (by decide) ?_
        exact W.iret (v := (-2)) hx hb hr (fun t ht hW => ⟨⟨_, (0, yr, nf, no, nt, bd, nb, fl, AI, AN, AB, AL), rfl, (by simp [m_transfer, ixn, bI, ej, ek, c_2, c_4, c_6] <;> (repeat' apply And.intro) <;> rfl), by rw [ht]; exact hP, va_K.moved hW.alike hK, hD⟩, hS.F ht⟩) hS.2.2 d_Mo_transfer_42
      · refine lv_iload_n hx hb d_Mo_transfer_35 rfl (lv_at hl 1 rfl) ?_
        refine lv_iload_n hx hb d_Mo_transfer_36 rfl (lv_at hl 2 rfl) ?_
        refine lv_icmp_ne (tgt := 43) hx hb d_Mo_transfer_37 (by decide) (fun c_7 => ?_) (fun c_7 => ?_)
        · refine lv_aload_n hx hb d_Mo_transfer_43 rfl (lv_at hl 0 rfl) ?_
          refine va_get (D := (dC, dI)) (ci := 7) (v := .int (nI nt)) (C := R_Mo) (T := F_Mo) (N := 31) hx hb hG iG_Mo hown hK hP 0 rfl rfl 16 (by decide) (hG _ k_539) (fun _ h9 => h9) rfl d_Mo_transfer_44 ?_
          refine lv_bipush (v := 100) hx hb d_Mo_transfer_47 (by decide) ?_
          refine lv_icmp_ne (tgt := 55) hx hb d_Mo_transfer_49 (by decide) (fun c_8 => ?_) (fun c_8 => ?_)
          · rw [nI_100 hnt] at c_8
            refine lv_aload_n hx hb d_Mo_transfer_55 rfl (lv_at hl 0 rfl) ?_
            refine va_get (D := (dC, dI)) (ci := 7) (v := .ref (ad 13)) (C := R_Mo) (T := F_Mo) (N := 31) hx hb hG iG_Mo hown hK hP 0 rfl rfl 17 (by decide) (hG _ k_540) (fun _ h9 => h9) rfl d_Mo_transfer_56 ?_
            refine lv_aload_n hx hb d_Mo_transfer_59 rfl (lv_at hl 0 rfl) ?_
            refine va_get (D := (dC, dI)) (ci := 7) (v := .int (nI nt)) (C := R_Mo) (T := F_Mo) (N := 31) hx hb hG iG_Mo hown hK hP 0 rfl rfl 16 (by decide) (hG _ k_539) (fun _ h9 => h9) rfl d_Mo_transfer_60 ?_
            refine lv_iload_n hx hb d_Mo_transfer_63 rfl (lv_at hl 1 rfl) ?_
            refine rn_iast (n := 100) (j := nt) (g := AN 13) (b := j) hx hb hK hP hD hS 13 12 rfl rfl (by omega) (by decide) d_Mo_transfer_64 (fun H locs hP hD hS => ?_)
            have hP : va_P (dC, dI) classes (mw ad cA 0 yr nf no nt bd nb fl AI (va_up AN 13 (va_up (AN 13) nt j)) AB AL) H := hP
            have hD : va_D A (mw ad cA 0 yr nf no nt bd nb fl AI (va_up AN 13 (va_up (AN 13) nt j)) AB AL) := hD
            refine lv_aload_n hx hb d_Mo_transfer_65 rfl (lv_at hl 0 rfl) ?_
            refine va_get (D := (dC, dI)) (ci := 7) (v := .ref (ad 14)) (C := R_Mo) (T := F_Mo) (N := 31) hx hb hG iG_Mo hown hK hP 0 rfl rfl 18 (by decide) (hG _ k_541) (fun _ h9 => h9) rfl d_Mo_transfer_66 ?_
            refine lv_aload_n hx hb d_Mo_transfer_69 rfl (lv_at hl 0 rfl) ?_
            refine va_get (D := (dC, dI)) (ci := 7) (v := .int (nI nt)) (C := R_Mo) (T := F_Mo) (N := 31) hx hb hG iG_Mo hown hK hP 0 rfl rfl 16 (by decide) (hG _ k_539) (fun _ h9 => h9) rfl d_Mo_transfer_70 ?_
            refine lv_iload_n hx hb d_Mo_transfer_73 rfl (lv_at hl 2 rfl) ?_
            refine rn_iast (n := 100) (j := nt) (g := AN 14) (b := k) hx hb hK hP hD hS 14 13 rfl rfl (by omega) (by decide) d_Mo_transfer_74 (fun H locs hP hD hS => ?_)
            have hP : va_P (dC, dI) classes (mw ad cA 0 yr nf no nt bd nb fl AI (va_up (va_up AN 13 (va_up (AN 13) nt j)) 14 (va_up (AN 14) nt k)) AB AL) H := hP
            have hD : va_D A (mw ad cA 0 yr nf no nt bd nb fl AI (va_up (va_up AN 13 (va_up (AN 13) nt j)) 14 (va_up (AN 14) nt k)) AB AL) := hD
            refine lv_aload_n hx hb d_Mo_transfer_75 rfl (lv_at hl 0 rfl) ?_
            refine va_get (D := (dC, dI)) (ci := 7) (v := .ref (ad 15)) (C := R_Mo) (T := F_Mo) (N := 31) hx hb hG iG_Mo hown hK hP 0 rfl rfl 19 (by decide) (hG _ k_542) (fun _ h9 => h9) rfl d_Mo_transfer_76 ?_
            refine lv_aload_n hx hb d_Mo_transfer_79 rfl (lv_at hl 0 rfl) ?_
            refine va_get (D := (dC, dI)) (ci := 7) (v := .int (nI nt)) (C := R_Mo) (T := F_Mo) (N := 31) hx hb hG iG_Mo hown hK hP 0 rfl rfl 16 (by decide) (hG _ k_539) (fun _ h9 => h9) rfl d_Mo_transfer_80 ?_
            refine lv_iload_n hx hb d_Mo_transfer_83 rfl (lv_at hl 3 rfl) ?_
            refine ra_iast (n := 100) (j := nt) (f := AI 15) hx hb hK hP hD hS 15 14 rfl rfl (by omega) (by decide) d_Mo_transfer_84 (fun H locs hP hD hS => ?_)
            have hP : va_P (dC, dI) classes (mw ad cA 0 yr nf no nt bd nb fl (va_up AI 15 (va_up (AI 15) nt c0)) (va_up (va_up AN 13 (va_up (AN 13) nt j)) 14 (va_up (AN 14) nt k)) AB AL) H := hP
            have hD : va_D A (mw ad cA 0 yr nf no nt bd nb fl (va_up AI 15 (va_up (AI 15) nt c0)) (va_up (va_up AN 13 (va_up (AN 13) nt j)) 14 (va_up (AN 14) nt k)) AB AL) := hD
            refine lv_aload_n hx hb d_Mo_transfer_85 rfl (lv_at hl 0 rfl) ?_
            refine lv_dup hx hb d_Mo_transfer_86 rfl ?_
            refine va_get (D := (dC, dI)) (ci := 7) (v := .int (nI nt)) (C := R_Mo) (T := F_Mo) (N := 31) hx hb hG iG_Mo hown hK hP 0 rfl rfl 16 (by decide) (hG _ k_539) (fun _ h9 => h9) rfl d_Mo_transfer_87 ?_
            refine lv_iconst (v := 1) hx hb d_Mo_transfer_90 (by decide) ?_
            refine lv_iadd hx hb d_Mo_transfer_91 ?_
            refine lv_topI (y := nI (nt + 1)) (nI_add nt 1) ?_
            refine va_put (D := (dC, dI)) (ci := 7) (v := .int (nI (nt + 1))) (ty := .int) (C := R_Mo) (T := F_Mo) (N := 31) hx hb hG iG_Mo t_Mo t_Mo_ok n_Mo hown hK hP hD hS 0 rfl rfl 16 (by decide) (hG _ k_539) (fun _ h9 => h9) rfl (by decide +kernel) rfl rfl (Nat.le_of_ble_eq_true rfl) d_Mo_transfer_92 (fun H locs hP hD hS => ?_)
            have hP : va_P (dC, dI) classes (mw ad cA 0 yr nf no (nt + 1) bd nb fl (va_up AI 15 (va_up (AI 15) nt c0)) (va_up (va_up AN 13 (va_up (AN 13) nt j)) 14 (va_up (AN 14) nt k)) AB AL) H := hP
            have hD : va_D A (mw ad cA 0 yr nf no (nt + 1) bd nb fl (va_up AI 15 (va_up (AI 15) nt c0)) (va_up (va_up AN 13 (va_up (AN 13) nt j)) 14 (va_up (AN 14) nt k)) AB AL) := hD
            refine lv_aload_n hx hb d_Mo_transfer_95 rfl (lv_at hl 0 rfl) ?_
            refine va_get (D := (dC, dI)) (ci := 7) (v := .int (nI (nt + 1))) (C := R_Mo) (T := F_Mo) (N := 31) hx hb hG iG_Mo hown hK hP 0 rfl rfl 16 (by decide) (hG _ k_539) (fun _ h9 => h9) rfl d_Mo_transfer_96 ?_
            refine lv_iconst (v := 1) hx hb d_Mo_transfer_99 (by decide) ?_
            refine lv_isub hx hb d_Mo_transfer_100 ?_
            refine lv_topI (y := nI nt) (nI_pred nt) ?_
            exact W.iret (v := (nI nt)) hx hb hr (fun t ht hW => ⟨⟨_, (0, yr, nf, no, (nt + 1), bd, nb, fl, va_up AI 15 (va_up (AI 15) nt c0), va_up (va_up AN 13 (va_up (AN 13) nt j)) 14 (va_up (AN 14) nt k), AB, AL), rfl, (by simp [m_transfer, ixn, bI, ej, ek, c_2, c_4, c_6, c_7, c_8] <;> (repeat' apply And.intro) <;> rfl), by rw [ht]; exact hP, va_K.moved hW.alike hK, hD⟩, hS.F ht⟩) hS.2.2 d_Mo_transfer_101
          · rw [nI_100 hnt] at c_8
            refine lv_bipush (v := (-4)) hx hb d_Mo_transfer_52 (by decide) ?_
            exact W.iret (v := (-4)) hx hb hr (fun t ht hW => ⟨⟨_, (0, yr, nf, no, nt, bd, nb, fl, AI, AN, AB, AL), rfl, (by simp [m_transfer, ixn, bI, ej, ek, c_2, c_4, c_6, c_7, c_8] <;> (repeat' apply And.intro) <;> rfl), by rw [ht]; exact hP, va_K.moved hW.alike hK, hD⟩, hS.F ht⟩) hS.2.2 d_Mo_transfer_54
        · refine lv_bipush (v := (-2)) hx hb d_Mo_transfer_40 (by decide) ?_
          exact W.iret (v := (-2)) hx hb hr (fun t ht hW => ⟨⟨_, (0, yr, nf, no, nt, bd, nb, fl, AI, AN, AB, AL), rfl, (by simp [m_transfer, ixn, bI, ej, ek, c_2, c_4, c_6, c_7] <;> (repeat' apply And.intro) <;> rfl), by rw [ht]; exact hP, va_K.moved hW.alike hK, hD⟩, hS.F ht⟩) hS.2.2 d_Mo_transfer_42
    · refine lv_iconst (v := (-1)) hx hb d_Mo_transfer_21 (by decide) ?_
      exact W.iret (v := (-1)) hx hb hr (fun t ht hW => ⟨⟨_, (0, yr, nf, no, nt, bd, nb, fl, AI, AN, AB, AL), rfl, (by simp [m_transfer, ixn, bI, ej, c_2, c_4] <;> (repeat' apply And.intro) <;> rfl), by rw [ht]; exact hP, va_K.moved hW.alike hK, hD⟩, hS.F ht⟩) hS.2.2 d_Mo_transfer_22

theorem d_Mo_row_0 : decode b_Mo_row 0 = .ok (.aload_n 0, 1) := by decide +kernel
theorem d_Mo_row_1 : decode b_Mo_row 1 = .ok (.iconst 0, 1) := by decide +kernel
theorem d_Mo_row_2 : decode b_Mo_row 2 = .ok (.putfield 91, 3) := by decide +kernel
theorem d_Mo_row_5 : decode b_Mo_row 5 = .ok (.aload_n 0, 1) := by decide +kernel
theorem d_Mo_row_6 : decode b_Mo_row 6 = .ok (.iload_n 1, 1) := by decide +kernel
theorem d_Mo_row_7 : decode b_Mo_row 7 = .ok (.invokevirtual 118, 3) := by decide +kernel
theorem d_Mo_row_10 : decode b_Mo_row 10 = .ok (.ifCond .ne 5, 3) := by decide +kernel
theorem d_Mo_row_13 : decode b_Mo_row 13 = .ok (.iconst (-1), 1) := by decide +kernel
theorem d_Mo_row_14 : decode b_Mo_row 14 = .ok (.ireturn, 1) := by decide +kernel
theorem d_Mo_row_15 : decode b_Mo_row 15 = .ok (.iload_n 2, 1) := by decide +kernel
theorem d_Mo_row_16 : decode b_Mo_row 16 = .ok (.i2l, 1) := by decide +kernel
theorem d_Mo_row_17 : decode b_Mo_row 17 = .ok (.ldc2_w 162, 3) := by decide +kernel
theorem d_Mo_row_20 : decode b_Mo_row 20 = .ok (.ldc2_w 128, 3) := by decide +kernel
theorem d_Mo_row_23 : decode b_Mo_row 23 = .ok (.invokestatic 97, 3) := by decide +kernel
theorem d_Mo_row_26 : decode b_Mo_row 26 = .ok (.ifCond .ne 6, 3) := by decide +kernel
theorem d_Mo_row_29 : decode b_Mo_row 29 = .ok (.bipush (-2), 2) := by decide +kernel
theorem d_Mo_row_31 : decode b_Mo_row 31 = .ok (.ireturn, 1) := by decide +kernel
theorem d_Mo_row_32 : decode b_Mo_row 32 = .ok (.aload_n 0, 1) := by decide +kernel
theorem d_Mo_row_33 : decode b_Mo_row 33 = .ok (.getfield 164, 3) := by decide +kernel
theorem d_Mo_row_36 : decode b_Mo_row 36 = .ok (.bipush 20, 2) := by decide +kernel
theorem d_Mo_row_38 : decode b_Mo_row 38 = .ok (.if_icmp .ne 6, 3) := by decide +kernel
theorem d_Mo_row_41 : decode b_Mo_row 41 = .ok (.bipush (-4), 2) := by decide +kernel
theorem d_Mo_row_43 : decode b_Mo_row 43 = .ok (.ireturn, 1) := by decide +kernel
theorem d_Mo_row_44 : decode b_Mo_row 44 = .ok (.aload_n 0, 1) := by decide +kernel
theorem d_Mo_row_45 : decode b_Mo_row 45 = .ok (.getfield 79, 3) := by decide +kernel
theorem d_Mo_row_48 : decode b_Mo_row 48 = .ok (.aload_n 0, 1) := by decide +kernel
theorem d_Mo_row_49 : decode b_Mo_row 49 = .ok (.getfield 164, 3) := by decide +kernel
theorem d_Mo_row_52 : decode b_Mo_row 52 = .ok (.iload_n 1, 1) := by decide +kernel
theorem d_Mo_row_53 : decode b_Mo_row 53 = .ok (.iastore, 1) := by decide +kernel
theorem d_Mo_row_54 : decode b_Mo_row 54 = .ok (.aload_n 0, 1) := by decide +kernel
theorem d_Mo_row_55 : decode b_Mo_row 55 = .ok (.getfield 82, 3) := by decide +kernel
theorem d_Mo_row_58 : decode b_Mo_row 58 = .ok (.aload_n 0, 1) := by decide +kernel
theorem d_Mo_row_59 : decode b_Mo_row 59 = .ok (.getfield 164, 3) := by decide +kernel
theorem d_Mo_row_62 : decode b_Mo_row 62 = .ok (.iload_n 2, 1) := by decide +kernel
theorem d_Mo_row_63 : decode b_Mo_row 63 = .ok (.iastore, 1) := by decide +kernel
theorem d_Mo_row_64 : decode b_Mo_row 64 = .ok (.aload_n 0, 1) := by decide +kernel
theorem d_Mo_row_65 : decode b_Mo_row 65 = .ok (.dup, 1) := by decide +kernel
theorem d_Mo_row_66 : decode b_Mo_row 66 = .ok (.getfield 164, 3) := by decide +kernel
theorem d_Mo_row_69 : decode b_Mo_row 69 = .ok (.iconst 1, 1) := by decide +kernel
theorem d_Mo_row_70 : decode b_Mo_row 70 = .ok (.iadd, 1) := by decide +kernel
theorem d_Mo_row_71 : decode b_Mo_row 71 = .ok (.putfield 164, 3) := by decide +kernel
theorem d_Mo_row_74 : decode b_Mo_row 74 = .ok (.aload_n 0, 1) := by decide +kernel
theorem d_Mo_row_75 : decode b_Mo_row 75 = .ok (.getfield 164, 3) := by decide +kernel
theorem d_Mo_row_78 : decode b_Mo_row 78 = .ok (.ireturn, 1) := by decide +kernel
set_option maxHeartbeats 4000000 in
set_option maxRecDepth 100000 in
theorem c_Mo_row (l : Launch) (dC : Nat → ClassId) (dI : Nat → Nat → Nat) (ad : Nat → Nat) (cA : Nat → ClassId) (th yr : Int32) (nf no nt : Nat) (bd : Int32) (nb : Nat) (fl : Int32) (AI : Nat → Nat → Int32) (AN : Nat → Nat → Nat) (AB : Nat → Nat → Bool) (AL : Nat → Nat → Int64) (sz : Nat) (fd c0 : Int32) (hI : InvM nf no nt nb AI AN) : Met l y_Mo_row w_Mo_row { frames := 2, cells := 0, slots := 0, locals := 46 } (mu_P (dC, dI) classes (mtys cA) (mw ad cA th yr nf no nt bd nb fl AI AN AB AL) sz [.ref (ad 0), .int fd, .int c0]) (va_Qi (fun r u => (r, u) = m_row (th, yr, nf, no, nt, bd, nb, fl, AI, AN, AB, AL) fd c0) (mu_B (dC, dI) classes (mtys cA) (va_A (mw ad cA th yr nf no nt bd nb fl AI AN AB AL) sz) (mwS ad cA)) (va_A (mw ad cA th yr nf no nt bd nb fl AI AN AB AL) sz)) 0 0 (va_A (mw ad cA th yr nf no nt bd nb fl AI AN AB AL) sz) := by
  refine Met.ofW (cc := b_Mo_row) (maxL := 3) (ret := (some .int)) (by decide) rfl ?_
  intro p e s m args below meth c s₁ B hml hv
  obtain ⟨rfl, hsz, hP, hK, hD0, hN⟩ := hv
  have hx := B.exec
  have hb := B.bytes
  have hr := B.returns
  have hts := atoms_spec (ws := w_Mo_row) B.pre
  have hG := fun (w : Cond) (h : w ∈ wG) => hts w (List.mem_cons_of_mem _ h)
  have hown : s.vm.findClass R_Mo = some m.cls := findClass_of_methodNamed B.named
  have hlocks := B.notSynchronized
  subst hsz
  have hD := hD0.self (sz := s.heap.size)
  generalize hAe : va_A (mw ad cA th yr nf no nt bd nb fl AI AN AB AL) s.heap.size = A at hD ⊢
  have hA : ∀ q : Nat, s.heap.size ≤ q → A q := fun q h => by rw [← hAe]; exact Or.inr h
  have hS : va_S A s.heap s.heap [] := va_S.rf
  have hP : va_P (dC, dI) classes (mw ad cA th yr nf no nt bd nb fl AI AN AB AL) s.heap := hP
  have hl := lv_entry ([.ref (ad 0), .int fd, .int c0]) (n := 3) (Nat.le_of_ble_eq_true rfl)
  rw [lg_entry_eq]
  generalize (lg_sl ([.ref (ad 0), .int fd, .int c0]) ++ List.replicate (3 - (lg_sl ([.ref (ad 0), .int fd, .int c0])).length) Slot.unset).toArray = ls at hl ⊢
  have hl : lv_has ls 3 [(0, .ref (ad 0)), (1, .int fd), (2, .int c0)] := hl
  obtain ⟨hnf, hno, hnt, hnb, hfu, hft, hbf, hrw, hce, hdn⟩ := id hI
  refine lv_aload_n hx hb d_Mo_row_0 rfl (lv_at hl 0 rfl) ?_
  refine lv_iconst (v := 0) hx hb d_Mo_row_1 (by decide) ?_
  refine va_put (D := (dC, dI)) (ci := 7) (v := .int 0) (ty := .int) (C := R_Mo) (T := F_Mo) (N := 31) hx hb hG iG_Mo t_Mo t_Mo_ok n_Mo hown hK hP hD hS 0 rfl rfl 0 (by decide) (hG _ k_523) (fun _ h9 => h9) rfl (by decide +kernel) rfl rfl (Nat.le_of_ble_eq_true rfl) d_Mo_row_2 (fun H locs hP hD hS => ?_)
  have hP : va_P (dC, dI) classes (mw ad cA 0 yr nf no nt bd nb fl AI AN AB AL) H := hP
  have hD : va_D A (mw ad cA 0 yr nf no nt bd nb fl AI AN AB AL) := hD
  refine lv_aload_n hx hb d_Mo_row_5 rfl (lv_at hl 0 rfl) ?_
  refine lv_iload_n hx hb d_Mo_row_6 rfl (lv_at hl 1 rfl) ?_
  refine rd_calli (va_runV (As := [.int fd]) (rest := []) ⟨hx, hb, hml, hown, hts⟩ (c_Mo_isFund l dC dI ad cA 0 yr nf no nt bd nb fl AI AN AB AL fd) (cwV 1 hts (gd_V k_636 k_638 k_7 k_17 k_639) rfl rfl rfl (by decide +kernel) ⟨Nat.le_of_ble_eq_true rfl, Nat.le_of_ble_eq_true rfl⟩) (rd_preV 0 hK hN hP rfl rfl) rfl rfl hl.1 rfl (lv_room (Nat.le_of_ble_eq_true rfl)) d_Mo_row_7 ⟨Nat.zero_le _, Nat.zero_le _⟩) (fun r_1 hr_1 => ?_)
  subst hr_1
  refine lb_if_ne (tgt := 15) hx hb d_Mo_row_10 (by decide) (fun c_2 => ?_) (fun c_2 => ?_)
  · obtain ⟨j, hj, rfl⟩ := inN_of (n := nf) (by omega) c_2
    have ej : (nI j).toNatClampNeg = j := nI_clamp (by omega)
    refine lv_iload_n hx hb d_Mo_row_15 rfl (lv_at hl 2 rfl) ?_
    refine lv_i2l hx hb d_Mo_row_16 rfl ?_
    refine lv_ldc2 (own := R_Mo) (v := (-1000000000)) hx hb hown (hG _ k_710) d_Mo_row_17 ?_
    refine lv_ldc2 (own := R_Mo) (v := 1000000000) hx hb hown (hG _ k_658) d_Mo_row_20 ?_
    refine rd_calli (va_runS (As := [.long (c0.toInt64), .long (-1000000000), .long 1000000000]) (rest := []) ⟨hx, hb, hml, hown, hts⟩ (c_Mo_in l dC dI (mtys cA) (mw ad cA 0 yr nf no nt bd nb fl AI AN AB AL) (c0.toInt64) (-1000000000) 1000000000) (cwS 3 hts (gd_S k_629 k_630 k_17 k_631) rfl rfl rfl (by decide +kernel) ⟨Nat.le_of_ble_eq_true rfl, Nat.le_of_ble_eq_true rfl⟩) (rd_preS hK hN hP) rfl rfl hl.1 rfl (lv_room (Nat.le_of_ble_eq_true rfl)) d_Mo_row_23 ⟨Nat.zero_le _, Nat.zero_le _⟩) (fun r_3 hr_3 => ?_)
    subst hr_3
    refine lb_if_ne (tgt := 32) hx hb d_Mo_row_26 (by decide) (fun c_4 => ?_) (fun c_4 => ?_)
    · refine lv_aload_n hx hb d_Mo_row_32 rfl (lv_at hl 0 rfl) ?_
      refine va_get (D := (dC, dI)) (ci := 7) (v := .int (nI nb)) (C := R_Mo) (T := F_Mo) (N := 31) hx hb hG iG_Mo hown hK hP 0 rfl rfl 27 (by decide) (hG _ k_550) (fun _ h9 => h9) rfl d_Mo_row_33 ?_
      refine lv_bipush (v := 20) hx hb d_Mo_row_36 (by decide) ?_
      refine lv_icmp_ne (tgt := 44) hx hb d_Mo_row_38 (by decide) (fun c_5 => ?_) (fun c_5 => ?_)
      · rw [nI_20 hnb] at c_5
        refine lv_aload_n hx hb d_Mo_row_44 rfl (lv_at hl 0 rfl) ?_
        refine va_get (D := (dC, dI)) (ci := 7) (v := .ref (ad 22)) (C := R_Mo) (T := F_Mo) (N := 31) hx hb hG iG_Mo hown hK hP 0 rfl rfl 28 (by decide) (hG _ k_551) (fun _ h9 => h9) rfl d_Mo_row_45 ?_
        refine lv_aload_n hx hb d_Mo_row_48 rfl (lv_at hl 0 rfl) ?_
        refine va_get (D := (dC, dI)) (ci := 7) (v := .int (nI nb)) (C := R_Mo) (T := F_Mo) (N := 31) hx hb hG iG_Mo hown hK hP 0 rfl rfl 27 (by decide) (hG _ k_550) (fun _ h9 => h9) rfl d_Mo_row_49 ?_
        refine lv_iload_n hx hb d_Mo_row_52 rfl (lv_at hl 1 rfl) ?_
        refine rn_iast (n := 20) (j := nb) (g := AN 22) (b := j) hx hb hK hP hD hS 22 21 rfl rfl (by omega) (by decide) d_Mo_row_53 (fun H locs hP hD hS => ?_)
        have hP : va_P (dC, dI) classes (mw ad cA 0 yr nf no nt bd nb fl AI (va_up AN 22 (va_up (AN 22) nb j)) AB AL) H := hP
        have hD : va_D A (mw ad cA 0 yr nf no nt bd nb fl AI (va_up AN 22 (va_up (AN 22) nb j)) AB AL) := hD
        refine lv_aload_n hx hb d_Mo_row_54 rfl (lv_at hl 0 rfl) ?_
        refine va_get (D := (dC, dI)) (ci := 7) (v := .ref (ad 23)) (C := R_Mo) (T := F_Mo) (N := 31) hx hb hG iG_Mo hown hK hP 0 rfl rfl 29 (by decide) (hG _ k_552) (fun _ h9 => h9) rfl d_Mo_row_55 ?_
        refine lv_aload_n hx hb d_Mo_row_58 rfl (lv_at hl 0 rfl) ?_
        refine va_get (D := (dC, dI)) (ci := 7) (v := .int (nI nb)) (C := R_Mo) (T := F_Mo) (N := 31) hx hb hG iG_Mo hown hK hP 0 rfl rfl 27 (by decide) (hG _ k_550) (fun _ h9 => h9) rfl d_Mo_row_59 ?_
        refine lv_iload_n hx hb d_Mo_row_62 rfl (lv_at hl 2 rfl) ?_
        refine ra_iast (n := 20) (j := nb) (f := AI 23) hx hb hK hP hD hS 23 22 rfl rfl (by omega) (by decide) d_Mo_row_63 (fun H locs hP hD hS => ?_)
        have hP : va_P (dC, dI) classes (mw ad cA 0 yr nf no nt bd nb fl (va_up AI 23 (va_up (AI 23) nb c0)) (va_up AN 22 (va_up (AN 22) nb j)) AB AL) H := hP
        have hD : va_D A (mw ad cA 0 yr nf no nt bd nb fl (va_up AI 23 (va_up (AI 23) nb c0)) (va_up AN 22 (va_up (AN 22) nb j)) AB AL) := hD
        refine lv_aload_n hx hb d_Mo_row_64 rfl (lv_at hl 0 rfl) ?_
        refine lv_dup hx hb d_Mo_row_65 rfl ?_
        refine va_get (D := (dC, dI)) (ci := 7) (v := .int (nI nb)) (C := R_Mo) (T := F_Mo) (N := 31) hx hb hG iG_Mo hown hK hP 0 rfl rfl 27 (by decide) (hG _ k_550) (fun _ h9 => h9) rfl d_Mo_row_66 ?_
        refine lv_iconst (v := 1) hx hb d_Mo_row_69 (by decide) ?_
        refine lv_iadd hx hb d_Mo_row_70 ?_
        refine lv_topI (y := nI (nb + 1)) (nI_add nb 1) ?_
        refine va_put (D := (dC, dI)) (ci := 7) (v := .int (nI (nb + 1))) (ty := .int) (C := R_Mo) (T := F_Mo) (N := 31) hx hb hG iG_Mo t_Mo t_Mo_ok n_Mo hown hK hP hD hS 0 rfl rfl 27 (by decide) (hG _ k_550) (fun _ h9 => h9) rfl (by decide +kernel) rfl rfl (Nat.le_of_ble_eq_true rfl) d_Mo_row_71 (fun H locs hP hD hS => ?_)
        have hP : va_P (dC, dI) classes (mw ad cA 0 yr nf no nt bd (nb + 1) fl (va_up AI 23 (va_up (AI 23) nb c0)) (va_up AN 22 (va_up (AN 22) nb j)) AB AL) H := hP
        have hD : va_D A (mw ad cA 0 yr nf no nt bd (nb + 1) fl (va_up AI 23 (va_up (AI 23) nb c0)) (va_up AN 22 (va_up (AN 22) nb j)) AB AL) := hD
        refine lv_aload_n hx hb d_Mo_row_74 rfl (lv_at hl 0 rfl) ?_
        refine va_get (D := (dC, dI)) (ci := 7) (v := .int (nI (nb + 1))) (C := R_Mo) (T := F_Mo) (N := 31) hx hb hG iG_Mo hown hK hP 0 rfl rfl 27 (by decide) (hG _ k_550) (fun _ h9 => h9) rfl d_Mo_row_75 ?_
        exact W.iret (v := (nI (nb + 1))) hx hb hr (fun t ht hW => ⟨⟨_, (0, yr, nf, no, nt, bd, (nb + 1), fl, va_up AI 23 (va_up (AI 23) nb c0), va_up AN 22 (va_up (AN 22) nb j), AB, AL), rfl, (by simp [m_row, ixn, bI, ej, c_2, c_4, c_5] <;> (repeat' apply And.intro) <;> rfl), by rw [ht]; exact hP, va_K.moved hW.alike hK, hD⟩, hS.F ht⟩) hS.2.2 d_Mo_row_78
      · rw [nI_20 hnb] at c_5
        refine lv_bipush (v := (-4)) hx hb d_Mo_row_41 (by decide) ?_
        exact W.iret (v := (-4)) hx hb hr (fun t ht hW => ⟨⟨_, (0, yr, nf, no, nt, bd, nb, fl, AI, AN, AB, AL), rfl, (by simp [m_row, ixn, bI, ej, c_2, c_4, c_5] <;> (repeat' apply And.intro) <;> rfl), by rw [ht]; exact hP, va_K.moved hW.alike hK, hD⟩, hS.F ht⟩) hS.2.2 d_Mo_row_43
    · refine lv_bipush (v := (-2)) hx hb d_Mo_row_29 (by decide) ?_
      exact W.iret (v := (-2)) hx hb hr (fun t ht hW => ⟨⟨_, (0, yr, nf, no, nt, bd, nb, fl, AI, AN, AB, AL), rfl, (by simp [m_row, ixn, bI, ej, c_2, c_4] <;> (repeat' apply And.intro) <;> rfl), by rw [ht]; exact hP, va_K.moved hW.alike hK, hD⟩, hS.F ht⟩) hS.2.2 d_Mo_row_31
  · refine lv_iconst (v := (-1)) hx hb d_Mo_row_13 (by decide) ?_
    exact W.iret (v := (-1)) hx hb hr (fun t ht hW => ⟨⟨_, (0, yr, nf, no, nt, bd, nb, fl, AI, AN, AB, AL), rfl, (by simp [m_row, ixn, bI, c_2] <;> (repeat' apply And.intro) <;> rfl), by rw [ht]; exact hP, va_K.moved hW.alike hK, hD⟩, hS.F ht⟩) hS.2.2 d_Mo_row_14
