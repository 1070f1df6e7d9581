theorem d_Mo_about_0 : decode b_Mo_about 0 = .ok (.aload_n 0, 1) := by decide +kernel
theorem d_Mo_about_1 : decode b_Mo_about 1 = .ok (.iconst 0, 1) := by decide +kernel
theorem d_Mo_about_2 : decode b_Mo_about 2 = .ok (.putfield 91, 3) := by decide +kernel
theorem d_Mo_about_5 : decode b_Mo_about 5 = .ok (.aload_n 0, 1) := by decide +kernel
theorem d_Mo_about_6 : decode b_Mo_about 6 = .ok (.iload_n 1, 1) := by decide +kernel
theorem d_Mo_about_7 : decode b_Mo_about 7 = .ok (.invokevirtual 118, 3) := by decide +kernel
theorem d_Mo_about_10 : decode b_Mo_about 10 = .ok (.ifCond .ne 7, 3) := by decide +kernel
theorem d_Mo_about_13 : decode b_Mo_about 13 = .ok (.ldc2_w 170, 3) := by decide +kernel
theorem d_Mo_about_16 : decode b_Mo_about 16 = .ok (.lreturn, 1) := by decide +kernel
theorem d_Mo_about_17 : decode b_Mo_about 17 = .ok (.iload_n 2, 1) := by decide +kernel
theorem d_Mo_about_18 : decode b_Mo_about 18 = .ok (.tableswitch 56 0 3 #[30, 37, 43, 50], 30) := by decide +kernel
theorem d_Mo_about_48 : decode b_Mo_about 48 = .ok (.aload_n 0, 1) := by decide +kernel
theorem d_Mo_about_49 : decode b_Mo_about 49 = .ok (.getfield 13, 3) := by decide +kernel
theorem d_Mo_about_52 : decode b_Mo_about 52 = .ok (.iload_n 1, 1) := by decide +kernel
theorem d_Mo_about_53 : decode b_Mo_about 53 = .ok (.laload, 1) := by decide +kernel
theorem d_Mo_about_54 : decode b_Mo_about 54 = .ok (.lreturn, 1) := by decide +kernel
theorem d_Mo_about_55 : decode b_Mo_about 55 = .ok (.aload_n 0, 1) := by decide +kernel
theorem d_Mo_about_56 : decode b_Mo_about 56 = .ok (.iload_n 1, 1) := by decide +kernel
theorem d_Mo_about_57 : decode b_Mo_about 57 = .ok (.invokevirtual 104, 3) := by decide +kernel
theorem d_Mo_about_60 : decode b_Mo_about 60 = .ok (.lreturn, 1) := by decide +kernel
theorem d_Mo_about_61 : decode b_Mo_about 61 = .ok (.aload_n 0, 1) := by decide +kernel
theorem d_Mo_about_62 : decode b_Mo_about 62 = .ok (.getfield 17, 3) := by decide +kernel
theorem d_Mo_about_65 : decode b_Mo_about 65 = .ok (.iload_n 1, 1) := by decide +kernel
theorem d_Mo_about_66 : decode b_Mo_about 66 = .ok (.laload, 1) := by decide +kernel
theorem d_Mo_about_67 : decode b_Mo_about 67 = .ok (.lreturn, 1) := by decide +kernel
theorem d_Mo_about_68 : decode b_Mo_about 68 = .ok (.aload_n 0, 1) := by decide +kernel
theorem d_Mo_about_69 : decode b_Mo_about 69 = .ok (.iload_n 1, 1) := by decide +kernel
theorem d_Mo_about_70 : decode b_Mo_about 70 = .ok (.invokevirtual 130, 3) := by decide +kernel
theorem d_Mo_about_73 : decode b_Mo_about 73 = .ok (.lreturn, 1) := by decide +kernel
theorem d_Mo_about_74 : decode b_Mo_about 74 = .ok (.ldc2_w 170, 3) := by decide +kernel
theorem d_Mo_about_77 : decode b_Mo_about 77 = .ok (.lreturn, 1) := by decide +kernel
set_option maxHeartbeats 4000000 in
set_option maxRecDepth 100000 in
theorem c_Mo_about (l : Launch) (dC : Nat → ClassId) (dI : Nat → Nat → Nat) (ad : Nat → Nat) (cA : Nat → ClassId) (th yr : Int32) (nf no nt : Nat) (bd : Int32) (nb : Nat) (fl : Int32) (AI : Nat → Nat → Int32) (AN : Nat → Nat → Nat) (AB : Nat → Nat → Bool) (AL : Nat → Nat → Int64) (sz : Nat) (fd w0 : Int32) (hI : InvM nf no nt nb AI AN) : Met l y_Mo_about w_Mo_about { frames := 2, cells := 0, slots := 0, locals := 46 } (mu_P (dC, dI) classes (mtys cA) (mw ad cA th yr nf no nt bd nb fl AI AN AB AL) sz [.ref (ad 0), .int fd, .int w0]) (va_Ql (fun r u => (r, u) = m_about (th, yr, nf, no, nt, bd, nb, fl, AI, AN, AB, AL) fd w0) (mu_B (dC, dI) classes (mtys cA) (va_A (mw ad cA th yr nf no nt bd nb fl AI AN AB AL) sz) (mwS ad cA)) (va_A (mw ad cA th yr nf no nt bd nb fl AI AN AB AL) sz)) 0 0 (va_A (mw ad cA th yr nf no nt bd nb fl AI AN AB AL) sz) := by
  refine Met.ofW (cc := b_Mo_about) (maxL := 3) (ret := (some .long)) (by decide) rfl ?_
  intro p e s m args below meth c s₁ B hml hv
  obtain ⟨rfl, hsz, hP, hK, hD0, hN⟩ := hv
  have hx := B.exec
  have hb := B.bytes
  have hr := B.returns
  have hts := atoms_spec (ws := w_Mo_about) B.pre
  have hG := fun (w : Cond) (h : w ∈ wG) => hts w (List.mem_cons_of_mem _ h)
  have hown : s.vm.findClass R_Mo = some m.cls := findClass_of_methodNamed B.named
  have hlocks := B.notSynchronized
  subst hsz
  have hD := hD0.self (sz := s.heap.size)
  generalize hAe : va_A (mw ad cA th yr nf no nt bd nb fl AI AN AB AL) s.heap.size = A at hD ⊢
  have hA : ∀ q : Nat, s.heap.size ≤ q → A q := fun q h => by rw [← hAe]; exact Or.inr h
  have hS : va_S A s.heap s.heap [] := va_S.rf
  have hP : va_P (dC, dI) classes (mw ad cA th yr nf no nt bd nb fl AI AN AB AL) s.heap := hP
  have hl := lv_entry ([.ref (ad 0), .int fd, .int w0]) (n := 3) (Nat.le_of_ble_eq_true rfl)
  rw [lg_entry_eq]
  generalize (lg_sl ([.ref (ad 0), .int fd, .int w0]) ++ List.replicate (3 - (lg_sl ([.ref (ad 0), .int fd, .int w0])).length) Slot.unset).toArray = ls at hl ⊢
  have hl : lv_has ls 3 [(0, .ref (ad 0)), (1, .int fd), (2, .int w0)] := hl
  obtain ⟨hnf, hno, hnt, hnb, hfu, hft, hbf, hrw, hce, hdn⟩ := id hI
  refine lv_aload_n hx hb d_Mo_about_0 rfl (lv_at hl 0 rfl) ?_
  refine lv_iconst (v := 0) hx hb d_Mo_about_1 (by decide) ?_
  refine va_put (D := (dC, dI)) (ci := 7) (v := .int 0) (ty := .int) (C := R_Mo) (T := F_Mo) (N := 31) hx hb hG iG_Mo t_Mo t_Mo_ok n_Mo hown hK hP hD hS 0 rfl rfl 0 (by decide) (hG _ k_523) (fun _ h9 => h9) rfl (by decide +kernel) rfl rfl (Nat.le_of_ble_eq_true rfl) d_Mo_about_2 (fun H locs hP hD hS => ?_)
  have hP : va_P (dC, dI) classes (mw ad cA 0 yr nf no nt bd nb fl AI AN AB AL) H := hP
  have hD : va_D A (mw ad cA 0 yr nf no nt bd nb fl AI AN AB AL) := hD
  refine lv_aload_n hx hb d_Mo_about_5 rfl (lv_at hl 0 rfl) ?_
  refine lv_iload_n hx hb d_Mo_about_6 rfl (lv_at hl 1 rfl) ?_
  refine rd_calli (va_runV (As := [.int fd]) (rest := []) ⟨hx, hb, hml, hown, hts⟩ (c_Mo_isFund l dC dI ad cA 0 yr nf no nt bd nb fl AI AN AB AL fd) (cwV 1 hts (gd_V k_636 k_638 k_7 k_17 k_639) rfl rfl rfl (by decide +kernel) ⟨Nat.le_of_ble_eq_true rfl, Nat.le_of_ble_eq_true rfl⟩) (rd_preV 0 hK hN hP rfl rfl) rfl rfl hl.1 rfl (lv_room (Nat.le_of_ble_eq_true rfl)) d_Mo_about_7 ⟨Nat.zero_le _, Nat.zero_le _⟩) (fun r_1 hr_1 => ?_)
  subst hr_1
  refine lb_if_ne (tgt := 17) hx hb d_Mo_about_10 (by decide) (fun c_2 => ?_) (fun c_2 => ?_)
  · obtain ⟨j, hj, rfl⟩ := inN_of (n := nf) (by omega) c_2
    have ej : (nI j).toNatClampNeg = j := nI_clamp (by omega)
    refine lv_iload_n hx hb d_Mo_about_17 rfl (lv_at hl 2 rfl) ?_
    by_cases s_3 : w0 = 0
    · refine lv_tableIn (off := 30) (tgt := 48) hx hb d_Mo_about_18 (by rw [s_3]; decide) (by rw [s_3]; decide) (by rw [s_3]; decide) (by decide) ?_
      refine lv_aload_n hx hb d_Mo_about_48 rfl (lv_at hl 0 rfl) ?_
      refine va_get (D := (dC, dI)) (ci := 7) (v := .ref (ad 2)) (C := R_Mo) (T := F_Mo) (N := 31) hx hb hG iG_Mo hown hK hP 0 rfl rfl 4 (by decide) (hG _ k_527) (fun _ h9 => h9) rfl d_Mo_about_49 ?_
      refine lv_iload_n hx hb d_Mo_about_52 rfl (lv_at hl 1 rfl) ?_
      refine ra_lald (n := 30) (j := j) (f := AL 2) hx hb hK hP 2 1 rfl rfl (by omega) (by decide) d_Mo_about_53 ?_
      exact W.lret (v := (AL 2 j)) hx hb hr (fun t ht hW => ⟨⟨_, (0, yr, nf, no, nt, bd, nb, fl, AI, AN, AB, AL), rfl, (by simp [m_about, ixn, bI, ej, c_2, s_3] <;> (repeat' apply And.intro) <;> rfl), by rw [ht]; exact hP, va_K.moved hW.alike hK, hD⟩, hS.F ht⟩) hS.2.2 d_Mo_about_54
    · by_cases s_4 : w0 = 1
      · refine lv_tableIn (off := 37) (tgt := 55) hx hb d_Mo_about_18 (by rw [s_4]; decide) (by rw [s_4]; decide) (by rw [s_4]; decide) (by decide) ?_
        refine lv_aload_n hx hb d_Mo_about_55 rfl (lv_at hl 0 rfl) ?_
        refine lv_iload_n hx hb d_Mo_about_56 rfl (lv_at hl 1 rfl) ?_
        refine rd_calll (va_runV (As := [.int (nI j)]) (rest := []) ⟨hx, hb, hml, hown, hts⟩ (c_Mo_encumbered l dC dI ad cA 0 yr nf no nt bd nb fl AI AN AB AL (nI j) hno) (cwV 1 hts (gd_V k_645 k_647 k_9 k_17 k_648) rfl rfl rfl (by decide +kernel) ⟨Nat.le_of_ble_eq_true rfl, Nat.le_of_ble_eq_true rfl⟩) (rd_preV 0 hK hN hP rfl rfl) rfl rfl hl.1 rfl (lv_room (Nat.le_of_ble_eq_true rfl)) d_Mo_about_57 ⟨Nat.zero_le _, Nat.zero_le _⟩) (fun r_5 hr_5 => ?_)
        subst hr_5
        exact W.lret (v := (m_enc AI AN no (nI j))) hx hb hr (fun t ht hW => ⟨⟨_, (0, yr, nf, no, nt, bd, nb, fl, AI, AN, AB, AL), rfl, (by simp [m_about, ixn, bI, ej, c_2, s_3, s_4] <;> (repeat' apply And.intro) <;> rfl), by rw [ht]; exact hP, va_K.moved hW.alike hK, hD⟩, hS.F ht⟩) hS.2.2 d_Mo_about_60
      · by_cases s_6 : w0 = 2
        · refine lv_tableIn (off := 43) (tgt := 61) hx hb d_Mo_about_18 (by rw [s_6]; decide) (by rw [s_6]; decide) (by rw [s_6]; decide) (by decide) ?_
          refine lv_aload_n hx hb d_Mo_about_61 rfl (lv_at hl 0 rfl) ?_
          refine va_get (D := (dC, dI)) (ci := 7) (v := .ref (ad 3)) (C := R_Mo) (T := F_Mo) (N := 31) hx hb hG iG_Mo hown hK hP 0 rfl rfl 5 (by decide) (hG _ k_528) (fun _ h9 => h9) rfl d_Mo_about_62 ?_
          refine lv_iload_n hx hb d_Mo_about_65 rfl (lv_at hl 1 rfl) ?_
          refine ra_lald (n := 30) (j := j) (f := AL 3) hx hb hK hP 3 2 rfl rfl (by omega) (by decide) d_Mo_about_66 ?_
          exact W.lret (v := (AL 3 j)) hx hb hr (fun t ht hW => ⟨⟨_, (0, yr, nf, no, nt, bd, nb, fl, AI, AN, AB, AL), rfl, (by simp [m_about, ixn, bI, ej, c_2, s_3, s_4, s_6] <;> (repeat' apply And.intro) <;> rfl), by rw [ht]; exact hP, va_K.moved hW.alike hK, hD⟩, hS.F ht⟩) hS.2.2 d_Mo_about_67
        · by_cases s_7 : w0 = 3
          · refine lv_tableIn (off := 50) (tgt := 68) hx hb d_Mo_about_18 (by rw [s_7]; decide) (by rw [s_7]; decide) (by rw [s_7]; decide) (by decide) ?_
            refine lv_aload_n hx hb d_Mo_about_68 rfl (lv_at hl 0 rfl) ?_
            refine lv_iload_n hx hb d_Mo_about_69 rfl (lv_at hl 1 rfl) ?_
            refine rd_calll (va_runV (As := [.int (nI j)]) (rest := []) ⟨hx, hb, hml, hown, hts⟩ (c_Mo_free l dC dI ad cA 0 yr nf no nt bd nb fl AI AN AB AL j hno (by omega)) (cwV 1 hts (gd_V k_659 k_661 k_10 k_17 k_662) rfl rfl rfl (by decide +kernel) ⟨Nat.le_of_ble_eq_true rfl, Nat.le_of_ble_eq_true rfl⟩) (rd_preV 0 hK hN hP rfl rfl) rfl rfl hl.1 rfl (lv_room (Nat.le_of_ble_eq_true rfl)) d_Mo_about_70 ⟨Nat.zero_le _, Nat.zero_le _⟩) (fun r_8 hr_8 => ?_)
            subst hr_8
            exact W.lret (v := (m_free AI AN AL no j)) hx hb hr (fun t ht hW => ⟨⟨_, (0, yr, nf, no, nt, bd, nb, fl, AI, AN, AB, AL), rfl, (by simp [m_about, ixn, bI, ej, c_2, s_3, s_4, s_6, s_7] <;> (repeat' apply And.intro) <;> rfl), by rw [ht]; exact hP, va_K.moved hW.alike hK, hD⟩, hS.F ht⟩) hS.2.2 d_Mo_about_73
          · refine lv_tableOut (tgt := 74) hx hb d_Mo_about_18 (by have h9 := And.intro trivial trivial; have := lv_neT s_3 (show (0 : Int32).toInt = 0 by decide); have := lv_neT s_4 (show (1 : Int32).toInt = 1 by decide); have := lv_neT s_6 (show (2 : Int32).toInt = 2 by decide); have := lv_neT s_7 (show (3 : Int32).toInt = 3 by decide); omega) (by decide) ?_
            refine lv_ldc2 (own := R_Mo) (v := (-1000000000000000001)) hx hb hown (hG _ k_731) d_Mo_about_74 ?_
            exact W.lret (v := (-1000000000000000001)) hx hb hr (fun t ht hW => ⟨⟨_, (0, yr, nf, no, nt, bd, nb, fl, AI, AN, AB, AL), rfl, (by simp [m_about, ixn, bI, ej, c_2, s_3, s_4, s_6, s_7] <;> (repeat' apply And.intro) <;> rfl), by rw [ht]; exact hP, va_K.moved hW.alike hK, hD⟩, hS.F ht⟩) hS.2.2 d_Mo_about_77
  · refine lv_ldc2 (own := R_Mo) (v := (-1000000000000000001)) hx hb hown (hG _ k_731) d_Mo_about_13 ?_
    exact W.lret (v := (-1000000000000000001)) hx hb hr (fun t ht hW => ⟨⟨_, (0, yr, nf, no, nt, bd, nb, fl, AI, AN, AB, AL), rfl, (by simp [m_about, ixn, bI, c_2] <;> (repeat' apply And.intro) <;> rfl), by rw [ht]; exact hP, va_K.moved hW.alike hK, hD⟩, hS.F ht⟩) hS.2.2 d_Mo_about_16

theorem d_Mo_told_0 : decode b_Mo_told 0 = .ok (.aload_n 0, 1) := by decide +kernel
theorem d_Mo_told_1 : decode b_Mo_told 1 = .ok (.iconst 0, 1) := by decide +kernel
theorem d_Mo_told_2 : decode b_Mo_told 2 = .ok (.putfield 91, 3) := by decide +kernel
theorem d_Mo_told_5 : decode b_Mo_told 5 = .ok (.iload_n 1, 1) := by decide +kernel
theorem d_Mo_told_6 : decode b_Mo_told 6 = .ok (.i2l, 1) := by decide +kernel
theorem d_Mo_told_7 : decode b_Mo_told 7 = .ok (.lconst 0, 1) := by decide +kernel
theorem d_Mo_told_8 : decode b_Mo_told 8 = .ok (.aload_n 0, 1) := by decide +kernel
theorem d_Mo_told_9 : decode b_Mo_told 9 = .ok (.getfield 101, 3) := by decide +kernel
theorem d_Mo_told_12 : decode b_Mo_told 12 = .ok (.iconst 1, 1) := by decide +kernel
theorem d_Mo_told_13 : decode b_Mo_told 13 = .ok (.isub, 1) := by decide +kernel
theorem d_Mo_told_14 : decode b_Mo_told 14 = .ok (.i2l, 1) := by decide +kernel
theorem d_Mo_told_15 : decode b_Mo_told 15 = .ok (.invokestatic 97, 3) := by decide +kernel
theorem d_Mo_told_18 : decode b_Mo_told 18 = .ok (.ifCond .ne 7, 3) := by decide +kernel
theorem d_Mo_told_21 : decode b_Mo_told 21 = .ok (.ldc2_w 170, 3) := by decide +kernel
theorem d_Mo_told_24 : decode b_Mo_told 24 = .ok (.lreturn, 1) := by decide +kernel
theorem d_Mo_told_25 : decode b_Mo_told 25 = .ok (.iload_n 2, 1) := by decide +kernel
theorem d_Mo_told_26 : decode b_Mo_told 26 = .ok (.tableswitch 85 0 5 #[38, 46, 54, 62, 70, 77], 38) := by decide +kernel
theorem d_Mo_told_64 : decode b_Mo_told 64 = .ok (.aload_n 0, 1) := by decide +kernel
theorem d_Mo_told_65 : decode b_Mo_told 65 = .ok (.getfield 20, 3) := by decide +kernel
theorem d_Mo_told_68 : decode b_Mo_told 68 = .ok (.iload_n 1, 1) := by decide +kernel
theorem d_Mo_told_69 : decode b_Mo_told 69 = .ok (.iaload, 1) := by decide +kernel
theorem d_Mo_told_70 : decode b_Mo_told 70 = .ok (.i2l, 1) := by decide +kernel
theorem d_Mo_told_71 : decode b_Mo_told 71 = .ok (.lreturn, 1) := by decide +kernel
theorem d_Mo_told_72 : decode b_Mo_told 72 = .ok (.aload_n 0, 1) := by decide +kernel
theorem d_Mo_told_73 : decode b_Mo_told 73 = .ok (.getfield 23, 3) := by decide +kernel
theorem d_Mo_told_76 : decode b_Mo_told 76 = .ok (.iload_n 1, 1) := by decide +kernel
theorem d_Mo_told_77 : decode b_Mo_told 77 = .ok (.iaload, 1) := by decide +kernel
theorem d_Mo_told_78 : decode b_Mo_told 78 = .ok (.i2l, 1) := by decide +kernel
theorem d_Mo_told_79 : decode b_Mo_told 79 = .ok (.lreturn, 1) := by decide +kernel
theorem d_Mo_told_80 : decode b_Mo_told 80 = .ok (.aload_n 0, 1) := by decide +kernel
theorem d_Mo_told_81 : decode b_Mo_told 81 = .ok (.getfield 30, 3) := by decide +kernel
theorem d_Mo_told_84 : decode b_Mo_told 84 = .ok (.iload_n 1, 1) := by decide +kernel
theorem d_Mo_told_85 : decode b_Mo_told 85 = .ok (.iaload, 1) := by decide +kernel
theorem d_Mo_told_86 : decode b_Mo_told 86 = .ok (.i2l, 1) := by decide +kernel
theorem d_Mo_told_87 : decode b_Mo_told 87 = .ok (.lreturn, 1) := by decide +kernel
theorem d_Mo_told_88 : decode b_Mo_told 88 = .ok (.aload_n 0, 1) := by decide +kernel
theorem d_Mo_told_89 : decode b_Mo_told 89 = .ok (.getfield 36, 3) := by decide +kernel
theorem d_Mo_told_92 : decode b_Mo_told 92 = .ok (.iload_n 1, 1) := by decide +kernel
theorem d_Mo_told_93 : decode b_Mo_told 93 = .ok (.iaload, 1) := by decide +kernel
theorem d_Mo_told_94 : decode b_Mo_told 94 = .ok (.i2l, 1) := by decide +kernel
theorem d_Mo_told_95 : decode b_Mo_told 95 = .ok (.lreturn, 1) := by decide +kernel
theorem d_Mo_told_96 : decode b_Mo_told 96 = .ok (.aload_n 0, 1) := by decide +kernel
theorem d_Mo_told_97 : decode b_Mo_told 97 = .ok (.getfield 39, 3) := by decide +kernel
theorem d_Mo_told_100 : decode b_Mo_told 100 = .ok (.iload_n 1, 1) := by decide +kernel
theorem d_Mo_told_101 : decode b_Mo_told 101 = .ok (.laload, 1) := by decide +kernel
theorem d_Mo_told_102 : decode b_Mo_told 102 = .ok (.lreturn, 1) := by decide +kernel
theorem d_Mo_told_103 : decode b_Mo_told 103 = .ok (.aload_n 0, 1) := by decide +kernel
theorem d_Mo_told_104 : decode b_Mo_told 104 = .ok (.getfield 42, 3) := by decide +kernel
theorem d_Mo_told_107 : decode b_Mo_told 107 = .ok (.iload_n 1, 1) := by decide +kernel
theorem d_Mo_told_108 : decode b_Mo_told 108 = .ok (.iaload, 1) := by decide +kernel
theorem d_Mo_told_109 : decode b_Mo_told 109 = .ok (.i2l, 1) := by decide +kernel
theorem d_Mo_told_110 : decode b_Mo_told 110 = .ok (.lreturn, 1) := by decide +kernel
theorem d_Mo_told_111 : decode b_Mo_told 111 = .ok (.ldc2_w 170, 3) := by decide +kernel
theorem d_Mo_told_114 : decode b_Mo_told 114 = .ok (.lreturn, 1) := by decide +kernel
set_option maxHeartbeats 4000000 in
set_option maxRecDepth 100000 in
theorem c_Mo_told (l : Launch) (dC : Nat → ClassId) (dI : Nat → Nat → Nat) (ad : Nat → Nat) (cA : Nat → ClassId) (th yr : Int32) (nf no nt : Nat) (bd : Int32) (nb : Nat) (fl : Int32) (AI : Nat → Nat → Int32) (AN : Nat → Nat → Nat) (AB : Nat → Nat → Bool) (AL : Nat → Nat → Int64) (sz : Nat) (i0 w0 : Int32) (hI : InvM nf no nt nb AI AN) : Met l y_Mo_told w_Mo_told { frames := 1, cells := 0, slots := 0, locals := 25 } (mu_P (dC, dI) classes (mtys cA) (mw ad cA th yr nf no nt bd nb fl AI AN AB AL) sz [.ref (ad 0), .int i0, .int w0]) (va_Ql (fun r u => (r, u) = m_told (th, yr, nf, no, nt, bd, nb, fl, AI, AN, AB, AL) i0 w0) (mu_B (dC, dI) classes (mtys cA) (va_A (mw ad cA th yr nf no nt bd nb fl AI AN AB AL) sz) (mwS ad cA)) (va_A (mw ad cA th yr nf no nt bd nb fl AI AN AB AL) sz)) 0 0 (va_A (mw ad cA th yr nf no nt bd nb fl AI AN AB AL) sz) := by
  refine Met.ofW (cc := b_Mo_told) (maxL := 3) (ret := (some .long)) (by decide) rfl ?_
  intro p e s m args below meth c s₁ B hml hv
  obtain ⟨rfl, hsz, hP, hK, hD0, hN⟩ := hv
  have hx := B.exec
  have hb := B.bytes
  have hr := B.returns
  have hts := atoms_spec (ws := w_Mo_told) B.pre
  have hG := fun (w : Cond) (h : w ∈ wG) => hts w (List.mem_cons_of_mem _ h)
  have hown : s.vm.findClass R_Mo = some m.cls := findClass_of_methodNamed B.named
  have hlocks := B.notSynchronized
  subst hsz
  have hD := hD0.self (sz := s.heap.size)
  generalize hAe : va_A (mw ad cA th yr nf no nt bd nb fl AI AN AB AL) s.heap.size = A at hD ⊢
  have hA : ∀ q : Nat, s.heap.size ≤ q → A q := fun q h => by rw [← hAe]; exact Or.inr h
  have hS : va_S A s.heap s.heap [] := va_S.rf
  have hP : va_P (dC, dI) classes (mw ad cA th yr nf no nt bd nb fl AI AN AB AL) s.heap := hP
  have hl := lv_entry ([.ref (ad 0), .int i0, .int w0]) (n := 3) (Nat.le_of_ble_eq_true rfl)
  rw [lg_entry_eq]
  generalize (lg_sl ([.ref (ad 0), .int i0, .int w0]) ++ List.replicate (3 - (lg_sl ([.ref (ad 0), .int i0, .int w0])).length) Slot.unset).toArray = ls at hl ⊢
  have hl : lv_has ls 3 [(0, .ref (ad 0)), (1, .int i0), (2, .int w0)] := hl
  obtain ⟨hnf, hno, hnt, hnb, hfu, hft, hbf, hrw, hce, hdn⟩ := id hI
  refine lv_aload_n hx hb d_Mo_told_0 rfl (lv_at hl 0 rfl) ?_
  refine lv_iconst (v := 0) hx hb d_Mo_told_1 (by decide) ?_
  refine va_put (D := (dC, dI)) (ci := 7) (v := .int 0) (ty := .int) (C := R_Mo) (T := F_Mo) (N := 31) hx hb hG iG_Mo t_Mo t_Mo_ok n_Mo hown hK hP hD hS 0 rfl rfl 0 (by decide) (hG _ k_523) (fun _ h9 => h9) rfl (by decide +kernel) rfl rfl (Nat.le_of_ble_eq_true rfl) d_Mo_told_2 (fun H locs hP hD hS => ?_)
  have hP : va_P (dC, dI) classes (mw ad cA 0 yr nf no nt bd nb fl AI AN AB AL) H := hP
  have hD : va_D A (mw ad cA 0 yr nf no nt bd nb fl AI AN AB AL) := hD
  refine lv_iload_n hx hb d_Mo_told_5 rfl (lv_at hl 1 rfl) ?_
  refine lv_i2l hx hb d_Mo_told_6 rfl ?_
  refine lv_lconst (v := 0) hx hb d_Mo_told_7 (by decide) ?_
  refine lv_aload_n hx hb d_Mo_told_8 rfl (lv_at hl 0 rfl) ?_
  refine va_get (D := (dC, dI)) (ci := 7) (v := .int (nI no)) (C := R_Mo) (T := F_Mo) (N := 31) hx hb hG iG_Mo hown hK hP 0 rfl rfl 6 (by decide) (hG _ k_529) (fun _ h9 => h9) rfl d_Mo_told_9 ?_
  refine lv_iconst (v := 1) hx hb d_Mo_told_12 (by decide) ?_
  refine lv_isub hx hb d_Mo_told_13 ?_
  refine lv_i2l hx hb d_Mo_told_14 rfl ?_
  refine rd_calli (va_runS (As := [.long (i0.toInt64), .long 0, .long ((nI no - 1).toInt64)]) (rest := []) ⟨hx, hb, hml, hown, hts⟩ (c_Mo_in l dC dI (mtys cA) (mw ad cA 0 yr nf no nt bd nb fl AI AN AB AL) (i0.toInt64) 0 ((nI no - 1).toInt64)) (cwS 3 hts (gd_S k_629 k_630 k_17 k_631) rfl rfl rfl (by decide +kernel) ⟨Nat.le_of_ble_eq_true rfl, Nat.le_of_ble_eq_true rfl⟩) (rd_preS hK hN hP) rfl rfl hl.1 rfl (lv_room (Nat.le_of_ble_eq_true rfl)) d_Mo_told_15 ⟨Nat.zero_le _, Nat.zero_le _⟩) (fun r_1 hr_1 => ?_)
  subst hr_1
  refine lb_if_ne (tgt := 25) hx hb d_Mo_told_18 (by decide) (fun c_2 => ?_) (fun c_2 => ?_)
  · obtain ⟨j, hj, rfl⟩ := inN_of (n := no) (by omega) c_2
    have ej : (nI j).toNatClampNeg = j := nI_clamp (by omega)
    have c_2n : inN (nI j) no = true := c_2
    refine lv_iload_n hx hb d_Mo_told_25 rfl (lv_at hl 2 rfl) ?_
    by_cases s_3 : w0 = 0
    · refine lv_tableIn (off := 38) (tgt := 64) hx hb d_Mo_told_26 (by rw [s_3]; decide) (by rw [s_3]; decide) (by rw [s_3]; decide) (by decide) ?_
      refine lv_aload_n hx hb d_Mo_told_64 rfl (lv_at hl 0 rfl) ?_
      refine va_get (D := (dC, dI)) (ci := 7) (v := .ref (ad 4)) (C := R_Mo) (T := F_Mo) (N := 31) hx hb hG iG_Mo hown hK hP 0 rfl rfl 7 (by decide) (hG _ k_530) (fun _ h9 => h9) rfl d_Mo_told_65 ?_
      refine lv_iload_n hx hb d_Mo_told_68 rfl (lv_at hl 1 rfl) ?_
      refine rn_iald (n := 300) (j := j) (g := AN 4) hx hb hK hP 4 3 rfl rfl (by omega) (by decide) d_Mo_told_69 ?_
      refine lv_i2l hx hb d_Mo_told_70 rfl ?_
      exact W.lret (v := ((nI ((AN 4 j))).toInt64)) hx hb hr (fun t ht hW => ⟨⟨_, (0, yr, nf, no, nt, bd, nb, fl, AI, AN, AB, AL), rfl, (by simp [m_told, ixn, bI, ej, c_2, c_2n, s_3] <;> (repeat' apply And.intro) <;> rfl), by rw [ht]; exact hP, va_K.moved hW.alike hK, hD⟩, hS.F ht⟩) hS.2.2 d_Mo_told_71
    · by_cases s_4 : w0 = 1
      · refine lv_tableIn (off := 46) (tgt := 72) hx hb d_Mo_told_26 (by rw [s_4]; decide) (by rw [s_4]; decide) (by rw [s_4]; decide) (by decide) ?_
        refine lv_aload_n hx hb d_Mo_told_72 rfl (lv_at hl 0 rfl) ?_
        refine va_get (D := (dC, dI)) (ci := 7) (v := .ref (ad 5)) (C := R_Mo) (T := F_Mo) (N := 31) hx hb hG iG_Mo hown hK hP 0 rfl rfl 8 (by decide) (hG _ k_531) (fun _ h9 => h9) rfl d_Mo_told_73 ?_
        refine lv_iload_n hx hb d_Mo_told_76 rfl (lv_at hl 1 rfl) ?_
        refine ra_iald (n := 300) (j := j) (f := AI 5) hx hb hK hP 5 4 rfl rfl (by omega) (by decide) d_Mo_told_77 ?_
        refine lv_i2l hx hb d_Mo_told_78 rfl ?_
        exact W.lret (v := ((AI 5 j).toInt64)) hx hb hr (fun t ht hW => ⟨⟨_, (0, yr, nf, no, nt, bd, nb, fl, AI, AN, AB, AL), rfl, (by simp [m_told, ixn, bI, ej, c_2, c_2n, s_3, s_4] <;> (repeat' apply And.intro) <;> rfl), by rw [ht]; exact hP, va_K.moved hW.alike hK, hD⟩, hS.F ht⟩) hS.2.2 d_Mo_told_79
      · by_cases s_5 : w0 = 2
        · refine lv_tableIn (off := 54) (tgt := 80) hx hb d_Mo_told_26 (by rw [s_5]; decide) (by rw [s_5]; decide) (by rw [s_5]; decide) (by decide) ?_
          refine lv_aload_n hx hb d_Mo_told_80 rfl (lv_at hl 0 rfl) ?_
          refine va_get (D := (dC, dI)) (ci := 7) (v := .ref (ad 7)) (C := R_Mo) (T := F_Mo) (N := 31) hx hb hG iG_Mo hown hK hP 0 rfl rfl 10 (by decide) (hG _ k_533) (fun _ h9 => h9) rfl d_Mo_told_81 ?_
          refine lv_iload_n hx hb d_Mo_told_84 rfl (lv_at hl 1 rfl) ?_
          refine ra_iald (n := 300) (j := j) (f := AI 7) hx hb hK hP 7 6 rfl rfl (by omega) (by decide) d_Mo_told_85 ?_
          refine lv_i2l hx hb d_Mo_told_86 rfl ?_
          exact W.lret (v := ((AI 7 j).toInt64)) hx hb hr (fun t ht hW => ⟨⟨_, (0, yr, nf, no, nt, bd, nb, fl, AI, AN, AB, AL), rfl, (by simp [m_told, ixn, bI, ej, c_2, c_2n, s_3, s_4, s_5] <;> (repeat' apply And.intro) <;> rfl), by rw [ht]; exact hP, va_K.moved hW.alike hK, hD⟩, hS.F ht⟩) hS.2.2 d_Mo_told_87
        · by_cases s_6 : w0 = 3
          · refine lv_tableIn (off := 62) (tgt := 88) hx hb d_Mo_told_26 (by rw [s_6]; decide) (by rw [s_6]; decide) (by rw [s_6]; decide) (by decide) ?_
            refine lv_aload_n hx hb d_Mo_told_88 rfl (lv_at hl 0 rfl) ?_
            refine va_get (D := (dC, dI)) (ci := 7) (v := .ref (ad 9)) (C := R_Mo) (T := F_Mo) (N := 31) hx hb hG iG_Mo hown hK hP 0 rfl rfl 12 (by decide) (hG _ k_535) (fun _ h9 => h9) rfl d_Mo_told_89 ?_
            refine lv_iload_n hx hb d_Mo_told_92 rfl (lv_at hl 1 rfl) ?_
            refine ra_iald (n := 300) (j := j) (f := AI 9) hx hb hK hP 9 8 rfl rfl (by omega) (by decide) d_Mo_told_93 ?_
            refine lv_i2l hx hb d_Mo_told_94 rfl ?_
            exact W.lret (v := ((AI 9 j).toInt64)) hx hb hr (fun t ht hW => ⟨⟨_, (0, yr, nf, no, nt, bd, nb, fl, AI, AN, AB, AL), rfl, (by simp [m_told, ixn, bI, ej, c_2, c_2n, s_3, s_4, s_5, s_6] <;> (repeat' apply And.intro) <;> rfl), by rw [ht]; exact hP, va_K.moved hW.alike hK, hD⟩, hS.F ht⟩) hS.2.2 d_Mo_told_95
          · by_cases s_7 : w0 = 4
            · refine lv_tableIn (off := 70) (tgt := 96) hx hb d_Mo_told_26 (by rw [s_7]; decide) (by rw [s_7]; decide) (by rw [s_7]; decide) (by decide) ?_
              refine lv_aload_n hx hb d_Mo_told_96 rfl (lv_at hl 0 rfl) ?_
              refine va_get (D := (dC, dI)) (ci := 7) (v := .ref (ad 10)) (C := R_Mo) (T := F_Mo) (N := 31) hx hb hG iG_Mo hown hK hP 0 rfl rfl 13 (by decide) (hG _ k_536) (fun _ h9 => h9) rfl d_Mo_told_97 ?_
              refine lv_iload_n hx hb d_Mo_told_100 rfl (lv_at hl 1 rfl) ?_
              refine ra_lald (n := 300) (j := j) (f := AL 10) hx hb hK hP 10 9 rfl rfl (by omega) (by decide) d_Mo_told_101 ?_
              exact W.lret (v := (AL 10 j)) hx hb hr (fun t ht hW => ⟨⟨_, (0, yr, nf, no, nt, bd, nb, fl, AI, AN, AB, AL), rfl, (by simp [m_told, ixn, bI, ej, c_2, c_2n, s_3, s_4, s_5, s_6, s_7] <;> (repeat' apply And.intro) <;> rfl), by rw [ht]; exact hP, va_K.moved hW.alike hK, hD⟩, hS.F ht⟩) hS.2.2 d_Mo_told_102
            · by_cases s_8 : w0 = 5
              · refine lv_tableIn (off := 77) (tgt := 103) hx hb d_Mo_told_26 (by rw [s_8]; decide) (by rw [s_8]; decide) (by rw [s_8]; decide) (by decide) ?_
                refine lv_aload_n hx hb d_Mo_told_103 rfl (lv_at hl 0 rfl) ?_
                refine va_get (D := (dC, dI)) (ci := 7) (v := .ref (ad 11)) (C := R_Mo) (T := F_Mo) (N := 31) hx hb hG iG_Mo hown hK hP 0 rfl rfl 14 (by decide) (hG _ k_537) (fun _ h9 => h9) rfl d_Mo_told_104 ?_
                refine lv_iload_n hx hb d_Mo_told_107 rfl (lv_at hl 1 rfl) ?_
                refine ra_iald (n := 300) (j := j) (f := AI 11) hx hb hK hP 11 10 rfl rfl (by omega) (by decide) d_Mo_told_108 ?_
                refine lv_i2l hx hb d_Mo_told_109 rfl ?_
                exact W.lret (v := ((AI 11 j).toInt64)) hx hb hr (fun t ht hW => ⟨⟨_, (0, yr, nf, no, nt, bd, nb, fl, AI, AN, AB, AL), rfl, (by simp [m_told, ixn, bI, ej, c_2, c_2n, s_3, s_4, s_5, s_6, s_7, s_8] <;> (repeat' apply And.intro) <;> rfl), by rw [ht]; exact hP, va_K.moved hW.alike hK, hD⟩, hS.F ht⟩) hS.2.2 d_Mo_told_110
              · refine lv_tableOut (tgt := 111) hx hb d_Mo_told_26 (by have h9 := And.intro trivial trivial; have := lv_neT s_3 (show (0 : Int32).toInt = 0 by decide); have := lv_neT s_4 (show (1 : Int32).toInt = 1 by decide); have := lv_neT s_5 (show (2 : Int32).toInt = 2 by decide); have := lv_neT s_6 (show (3 : Int32).toInt = 3 by decide); have := lv_neT s_7 (show (4 : Int32).toInt = 4 by decide); have := lv_neT s_8 (show (5 : Int32).toInt = 5 by decide); omega) (by decide) ?_
                refine lv_ldc2 (own := R_Mo) (v := (-1000000000000000001)) hx hb hown (hG _ k_731) d_Mo_told_111 ?_
                exact W.lret (v := (-1000000000000000001)) hx hb hr (fun t ht hW => ⟨⟨_, (0, yr, nf, no, nt, bd, nb, fl, AI, AN, AB, AL), rfl, (by simp [m_told, ixn, bI, ej, c_2, c_2n, s_3, s_4, s_5, s_6, s_7, s_8] <;> (repeat' apply And.intro) <;> rfl), by rw [ht]; exact hP, va_K.moved hW.alike hK, hD⟩, hS.F ht⟩) hS.2.2 d_Mo_told_114
  · have c_2n : inN i0 no = false := c_2
    refine lv_ldc2 (own := R_Mo) (v := (-1000000000000000001)) hx hb hown (hG _ k_731) d_Mo_told_21 ?_
    exact W.lret (v := (-1000000000000000001)) hx hb hr (fun t ht hW => ⟨⟨_, (0, yr, nf, no, nt, bd, nb, fl, AI, AN, AB, AL), rfl, (by simp [m_told, ixn, bI, c_2, c_2n] <;> (repeat' apply And.intro) <;> rfl), by rw [ht]; exact hP, va_K.moved hW.alike hK, hD⟩, hS.F ht⟩) hS.2.2 d_Mo_told_24

theorem d_Mo_sum_0 : decode b_Mo_sum 0 = .ok (.aload_n 0, 1) := by decide +kernel
theorem d_Mo_sum_1 : decode b_Mo_sum 1 = .ok (.iconst 0, 1) := by decide +kernel
theorem d_Mo_sum_2 : decode b_Mo_sum 2 = .ok (.putfield 91, 3) := by decide +kernel
theorem d_Mo_sum_5 : decode b_Mo_sum 5 = .ok (.iload_n 1, 1) := by decide +kernel
theorem d_Mo_sum_6 : decode b_Mo_sum 6 = .ok (.ifCond .ne 35, 3) := by decide +kernel
theorem d_Mo_sum_9 : decode b_Mo_sum 9 = .ok (.lconst 0, 1) := by decide +kernel
theorem d_Mo_sum_10 : decode b_Mo_sum 10 = .ok (.lstore_n 2, 1) := by decide +kernel
theorem d_Mo_sum_11 : decode b_Mo_sum 11 = .ok (.iconst 0, 1) := by decide +kernel
theorem d_Mo_sum_12 : decode b_Mo_sum 12 = .ok (.istore 4, 2) := by decide +kernel
theorem d_Mo_sum_14 : decode b_Mo_sum 14 = .ok (.iload 4, 2) := by decide +kernel
theorem d_Mo_sum_16 : decode b_Mo_sum 16 = .ok (.aload_n 0, 1) := by decide +kernel
theorem d_Mo_sum_17 : decode b_Mo_sum 17 = .ok (.getfield 94, 3) := by decide +kernel
theorem d_Mo_sum_20 : decode b_Mo_sum 20 = .ok (.if_icmp .ge 19, 3) := by decide +kernel
theorem d_Mo_sum_23 : decode b_Mo_sum 23 = .ok (.lload_n 2, 1) := by decide +kernel
theorem d_Mo_sum_24 : decode b_Mo_sum 24 = .ok (.aload_n 0, 1) := by decide +kernel
theorem d_Mo_sum_25 : decode b_Mo_sum 25 = .ok (.getfield 13, 3) := by decide +kernel
theorem d_Mo_sum_28 : decode b_Mo_sum 28 = .ok (.iload 4, 2) := by decide +kernel
theorem d_Mo_sum_30 : decode b_Mo_sum 30 = .ok (.laload, 1) := by decide +kernel
theorem d_Mo_sum_31 : decode b_Mo_sum 31 = .ok (.ladd, 1) := by decide +kernel
theorem d_Mo_sum_32 : decode b_Mo_sum 32 = .ok (.lstore_n 2, 1) := by decide +kernel
theorem d_Mo_sum_33 : decode b_Mo_sum 33 = .ok (.iinc 4 1, 3) := by decide +kernel
theorem d_Mo_sum_36 : decode b_Mo_sum 36 = .ok (.goto (-22), 3) := by decide +kernel
theorem d_Mo_sum_39 : decode b_Mo_sum 39 = .ok (.lload_n 2, 1) := by decide +kernel
theorem d_Mo_sum_40 : decode b_Mo_sum 40 = .ok (.lreturn, 1) := by decide +kernel
theorem d_Mo_sum_41 : decode b_Mo_sum 41 = .ok (.iload_n 1, 1) := by decide +kernel
theorem d_Mo_sum_42 : decode b_Mo_sum 42 = .ok (.iconst 1, 1) := by decide +kernel
theorem d_Mo_sum_43 : decode b_Mo_sum 43 = .ok (.if_icmp .ne 11, 3) := by decide +kernel
theorem d_Mo_sum_46 : decode b_Mo_sum 46 = .ok (.aload_n 0, 1) := by decide +kernel
theorem d_Mo_sum_47 : decode b_Mo_sum 47 = .ok (.getfield 88, 3) := by decide +kernel
theorem d_Mo_sum_50 : decode b_Mo_sum 50 = .ok (.i2l, 1) := by decide +kernel
theorem d_Mo_sum_51 : decode b_Mo_sum 51 = .ok (.goto 32, 3) := by decide +kernel
theorem d_Mo_sum_54 : decode b_Mo_sum 54 = .ok (.iload_n 1, 1) := by decide +kernel
theorem d_Mo_sum_55 : decode b_Mo_sum 55 = .ok (.iconst 2, 1) := by decide +kernel
theorem d_Mo_sum_56 : decode b_Mo_sum 56 = .ok (.if_icmp .ne 11, 3) := by decide +kernel
theorem d_Mo_sum_59 : decode b_Mo_sum 59 = .ok (.aload_n 0, 1) := by decide +kernel
theorem d_Mo_sum_60 : decode b_Mo_sum 60 = .ok (.getfield 101, 3) := by decide +kernel
theorem d_Mo_sum_63 : decode b_Mo_sum 63 = .ok (.i2l, 1) := by decide +kernel
theorem d_Mo_sum_64 : decode b_Mo_sum 64 = .ok (.goto 19, 3) := by decide +kernel
theorem d_Mo_sum_67 : decode b_Mo_sum 67 = .ok (.iload_n 1, 1) := by decide +kernel
theorem d_Mo_sum_68 : decode b_Mo_sum 68 = .ok (.iconst 3, 1) := by decide +kernel
theorem d_Mo_sum_69 : decode b_Mo_sum 69 = .ok (.if_icmp .ne 11, 3) := by decide +kernel
theorem d_Mo_sum_72 : decode b_Mo_sum 72 = .ok (.aload_n 0, 1) := by decide +kernel
theorem d_Mo_sum_73 : decode b_Mo_sum 73 = .ok (.getfield 159, 3) := by decide +kernel
theorem d_Mo_sum_76 : decode b_Mo_sum 76 = .ok (.i2l, 1) := by decide +kernel
theorem d_Mo_sum_77 : decode b_Mo_sum 77 = .ok (.goto 6, 3) := by decide +kernel
theorem d_Mo_sum_80 : decode b_Mo_sum 80 = .ok (.ldc2_w 135, 3) := by decide +kernel
theorem d_Mo_sum_83 : decode b_Mo_sum 83 = .ok (.lreturn, 1) := by decide +kernel
set_option maxHeartbeats 4000000 in
set_option maxRecDepth 100000 in
theorem lp_Mo_sum {p : Program} {l : Launch} {e : Env} {s : State} {m : MethodId} {args : Array Value} {below : List Frame} {meth : Method} {c : Code} {Q : State → Prop} {R : Room} {H : Heap} {locs : List Loc} {cells slots : Nat} {dC : Nat → ClassId} {dI : Nat → Nat → Nat} {ad : Nat → Nat} {cA : Nat → ClassId} {th yr : Int32} {nf no nt : Nat} {bd : Int32} {nb : Nat} {fl : Int32} {AI : Nat → Nat → Int32} {AN : Nat → Nat → Nat} {AB : Nat → Nat → Bool} {AL : Nat → Nat → Int64} (hx : p.tables.exec = Jvm.exec) (hb : c.code = b_Mo_sum) (hml : c.maxLocals = 5) (hown : s.vm.findClass R_Mo = some m.cls) (hts : ∀ w ∈ w_Mo_sum, w.before args s = true) (hK : va_K (dC, dI) classes (mtys cA) s) (hP : va_P (dC, dI) classes (mw ad cA th yr nf no nt bd nb fl AI AN AB AL) H) (hnf : nf ≤ 30) (w0 : Int32)
    (exit : ∀ ls : Array Slot, lv_has ls 5 [(4, .int (nI nf)), (2, .long (sumL (AL 2) nf)), (0, .ref (ad 0)), (1, .int w0)] → W p l e R s m args below meth c H locs cells slots Q (F0 m 39 ls [])) :
    ∀ n i : Nat, i ≤ nf → nf + 1 ≤ i + n → ∀ ls : Array Slot, lv_has ls 5 [(4, .int (nI i)), (2, .long (sumL (AL 2) i)), (0, .ref (ad 0)), (1, .int w0)] → W p l e R s m args below meth c H locs cells slots Q (F0 m 14 ls []) := by
  have hG := fun (w : Cond) (h : w ∈ wG) => hts w (List.mem_cons_of_mem _ h)
  intro n
  induction n with
  | zero =>
    intro i h1 h2
    omega
  | succ n ih =>
    intro i hi hin ls hl
    refine lv_iload hx hb d_Mo_sum_14 (lv_at hl 0 rfl) ?_
    refine lv_aload_n hx hb d_Mo_sum_16 rfl (lv_at hl 2 rfl) ?_
    refine va_get (D := (dC, dI)) (ci := 7) (v := .int (nI nf)) (C := R_Mo) (T := F_Mo) (N := 31) hx hb hG iG_Mo hown hK hP 0 rfl rfl 2 (by decide) (hG _ k_525) (fun _ h9 => h9) rfl d_Mo_sum_17 ?_
    refine lv_icmp_ge (tgt := 39) hx hb d_Mo_sum_20 (by decide) (fun c_1 => ?_) (fun c_1 => ?_)
    · obtain rfl : i = nf := by have := (nI_leI (by omega) (by omega)).mp c_1; omega
      exact exit ls (lv_sub hl [0, 1, 2, 3] rfl)
    · have hlt : i < nf := by have h9 := c_1; rw [nI_leI (by omega) (by omega)] at h9; omega
      refine lv_lload_n hx hb d_Mo_sum_23 rfl (lv_at hl 1 rfl) ?_
      refine lv_aload_n hx hb d_Mo_sum_24 rfl (lv_at hl 2 rfl) ?_
      refine va_get (D := (dC, dI)) (ci := 7) (v := .ref (ad 2)) (C := R_Mo) (T := F_Mo) (N := 31) hx hb hG iG_Mo hown hK hP 0 rfl rfl 4 (by decide) (hG _ k_527) (fun _ h9 => h9) rfl d_Mo_sum_25 ?_
      refine lv_iload hx hb d_Mo_sum_28 (lv_at hl 0 rfl) ?_
      refine ra_lald (n := 30) (j := i) (f := AL 2) hx hb hK hP 2 1 rfl rfl (by omega) (by decide) d_Mo_sum_30 ?_
      refine lv_ladd hx hb d_Mo_sum_31 ?_
      refine lv_topL (y := sumL (AL 2) (i + 1)) rfl ?_
      refine lv_lstore_n (lv' := [(2, .long (sumL (AL 2) (i + 1))), (4, .int (nI i)), (0, .ref (ad 0)), (1, .int w0)]) hx hb d_Mo_sum_32 rfl hl (by decide) rfl (fun ls hl => ?_)
      refine lv_iinc (v := nI (i + 1)) (lv' := [(4, .int (nI (i + 1))), (2, .long (sumL (AL 2) (i + 1))), (0, .ref (ad 0)), (1, .int w0)]) hx hb d_Mo_sum_33 hl (k := 1) rfl (nI_1 i) (by decide) rfl (fun ls hl => ?_)
      refine lv_goto (tgt := 14) hx hb d_Mo_sum_36 (by decide) ?_
      exact ih (i + 1) (by omega) (by omega) ls (lv_sub hl [0, 1, 2, 3] rfl)
set_option maxHeartbeats 4000000 in
set_option maxRecDepth 100000 in
theorem c_Mo_sum (l : Launch) (dC : Nat → ClassId) (dI : Nat → Nat → Nat) (ad : Nat → Nat) (cA : Nat → ClassId) (th yr : Int32) (nf no nt : Nat) (bd : Int32) (nb : Nat) (fl : Int32) (AI : Nat → Nat → Int32) (AN : Nat → Nat → Nat) (AB : Nat → Nat → Bool) (AL : Nat → Nat → Int64) (sz : Nat) (w0 : Int32) (hI : InvM nf no nt nb AI AN) : Met l y_Mo_sum w_Mo_sum { frames := 0, cells := 0, slots := 0, locals := 0 } (mu_P (dC, dI) classes (mtys cA) (mw ad cA th yr nf no nt bd nb fl AI AN AB AL) sz [.ref (ad 0), .int w0]) (va_Ql (fun r u => (r, u) = m_sum (th, yr, nf, no, nt, bd, nb, fl, AI, AN, AB, AL) w0) (mu_B (dC, dI) classes (mtys cA) (va_A (mw ad cA th yr nf no nt bd nb fl AI AN AB AL) sz) (mwS ad cA)) (va_A (mw ad cA th yr nf no nt bd nb fl AI AN AB AL) sz)) 0 0 (va_A (mw ad cA th yr nf no nt bd nb fl AI AN AB AL) sz) := by
  refine Met.ofW (cc := b_Mo_sum) (maxL := 5) (ret := (some .long)) (by decide) rfl ?_
  intro p e s m args below meth c s₁ B hml hv
  obtain ⟨rfl, hsz, hP, hK, hD0, hN⟩ := hv
  have hx := B.exec
  have hb := B.bytes
  have hr := B.returns
  have hts := atoms_spec (ws := w_Mo_sum) B.pre
  have hG := fun (w : Cond) (h : w ∈ wG) => hts w (List.mem_cons_of_mem _ h)
  have hown : s.vm.findClass R_Mo = some m.cls := findClass_of_methodNamed B.named
  have hlocks := B.notSynchronized
  subst hsz
  have hD := hD0.self (sz := s.heap.size)
  generalize hAe : va_A (mw ad cA th yr nf no nt bd nb fl AI AN AB AL) s.heap.size = A at hD ⊢
  have hA : ∀ q : Nat, s.heap.size ≤ q → A q := fun q h => by rw [← hAe]; exact Or.inr h
  have hS : va_S A s.heap s.heap [] := va_S.rf
  have hP : va_P (dC, dI) classes (mw ad cA th yr nf no nt bd nb fl AI AN AB AL) s.heap := hP
  have hl := lv_entry ([.ref (ad 0), .int w0]) (n := 5) (Nat.le_of_ble_eq_true rfl)
  rw [lg_entry_eq]
  generalize (lg_sl ([.ref (ad 0), .int w0]) ++ List.replicate (5 - (lg_sl ([.ref (ad 0), .int w0])).length) Slot.unset).toArray = ls at hl ⊢
  have hl : lv_has ls 5 [(0, .ref (ad 0)), (1, .int w0)] := hl
  obtain ⟨hnf, hno, hnt, hnb, hfu, hft, hbf, hrw, hce, hdn⟩ := id hI
  refine lv_aload_n hx hb d_Mo_sum_0 rfl (lv_at hl 0 rfl) ?_
  refine lv_iconst (v := 0) hx hb d_Mo_sum_1 (by decide) ?_
  refine va_put (D := (dC, dI)) (ci := 7) (v := .int 0) (ty := .int) (C := R_Mo) (T := F_Mo) (N := 31) hx hb hG iG_Mo t_Mo t_Mo_ok n_Mo hown hK hP hD hS 0 rfl rfl 0 (by decide) (hG _ k_523) (fun _ h9 => h9) rfl (by decide +kernel) rfl rfl (Nat.le_of_ble_eq_true rfl) d_Mo_sum_2 (fun H locs hP hD hS => ?_)
  have hP : va_P (dC, dI) classes (mw ad cA 0 yr nf no nt bd nb fl AI AN AB AL) H := hP
  have hD : va_D A (mw ad cA 0 yr nf no nt bd nb fl AI AN AB AL) := hD
  refine lv_iload_n hx hb d_Mo_sum_5 rfl (lv_at hl 1 rfl) ?_
  refine lv_if_ne (tgt := 41) hx hb d_Mo_sum_6 (by decide) (fun c_1 => ?_) (fun c_1 => ?_)
  · refine lv_iload_n hx hb d_Mo_sum_41 rfl (lv_at hl 1 rfl) ?_
    refine lv_iconst (v := 1) hx hb d_Mo_sum_42 (by decide) ?_
    refine lv_icmp_ne (tgt := 54) hx hb d_Mo_sum_43 (by decide) (fun c_2 => ?_) (fun c_2 => ?_)
    · refine lv_iload_n hx hb d_Mo_sum_54 rfl (lv_at hl 1 rfl) ?_
      refine lv_iconst (v := 2) hx hb d_Mo_sum_55 (by decide) ?_
      refine lv_icmp_ne (tgt := 67) hx hb d_Mo_sum_56 (by decide) (fun c_3 => ?_) (fun c_3 => ?_)
      · refine lv_iload_n hx hb d_Mo_sum_67 rfl (lv_at hl 1 rfl) ?_
        refine lv_iconst (v := 3) hx hb d_Mo_sum_68 (by decide) ?_
        refine lv_icmp_ne (tgt := 80) hx hb d_Mo_sum_69 (by decide) (fun c_4 => ?_) (fun c_4 => ?_)
        · refine lv_ldc2 (own := R_Mo) (v := (-1)) hx hb hown (hG _ k_672) d_Mo_sum_80 ?_
          exact W.lret (v := (-1)) hx hb hr (fun t ht hW => ⟨⟨_, (0, yr, nf, no, nt, bd, nb, fl, AI, AN, AB, AL), rfl, (by simp [m_sum, ixn, bI, c_1, c_2, c_3, c_4] <;> (repeat' apply And.intro) <;> rfl), by rw [ht]; exact hP, va_K.moved hW.alike hK, hD⟩, hS.F ht⟩) hS.2.2 d_Mo_sum_83
        · refine lv_aload_n hx hb d_Mo_sum_72 rfl (lv_at hl 0 rfl) ?_
          refine va_get (D := (dC, dI)) (ci := 7) (v := .int (nI nt)) (C := R_Mo) (T := F_Mo) (N := 31) hx hb hG iG_Mo hown hK hP 0 rfl rfl 16 (by decide) (hG _ k_539) (fun _ h9 => h9) rfl d_Mo_sum_73 ?_
          refine lv_i2l hx hb d_Mo_sum_76 rfl ?_
          refine lv_goto (tgt := 83) hx hb d_Mo_sum_77 (by decide) ?_
          exact W.lret (v := ((nI nt).toInt64)) hx hb hr (fun t ht hW => ⟨⟨_, (0, yr, nf, no, nt, bd, nb, fl, AI, AN, AB, AL), rfl, (by simp [m_sum, ixn, bI, c_1, c_2, c_3, c_4] <;> (repeat' apply And.intro) <;> rfl), by rw [ht]; exact hP, va_K.moved hW.alike hK, hD⟩, hS.F ht⟩) hS.2.2 d_Mo_sum_83
      · refine lv_aload_n hx hb d_Mo_sum_59 rfl (lv_at hl 0 rfl) ?_
        refine va_get (D := (dC, dI)) (ci := 7) (v := .int (nI no)) (C := R_Mo) (T := F_Mo) (N := 31) hx hb hG iG_Mo hown hK hP 0 rfl rfl 6 (by decide) (hG _ k_529) (fun _ h9 => h9) rfl d_Mo_sum_60 ?_
        refine lv_i2l hx hb d_Mo_sum_63 rfl ?_
        refine lv_goto (tgt := 83) hx hb d_Mo_sum_64 (by decide) ?_
        exact W.lret (v := ((nI no).toInt64)) hx hb hr (fun t ht hW => ⟨⟨_, (0, yr, nf, no, nt, bd, nb, fl, AI, AN, AB, AL), rfl, (by simp [m_sum, ixn, bI, c_1, c_2, c_3] <;> (repeat' apply And.intro) <;> rfl), by rw [ht]; exact hP, va_K.moved hW.alike hK, hD⟩, hS.F ht⟩) hS.2.2 d_Mo_sum_83
    · refine lv_aload_n hx hb d_Mo_sum_46 rfl (lv_at hl 0 rfl) ?_
      refine va_get (D := (dC, dI)) (ci := 7) (v := .int yr) (C := R_Mo) (T := F_Mo) (N := 31) hx hb hG iG_Mo hown hK hP 0 rfl rfl 1 (by decide) (hG _ k_524) (fun _ h9 => h9) rfl d_Mo_sum_47 ?_
      refine lv_i2l hx hb d_Mo_sum_50 rfl ?_
      refine lv_goto (tgt := 83) hx hb d_Mo_sum_51 (by decide) ?_
      exact W.lret (v := (yr.toInt64)) hx hb hr (fun t ht hW => ⟨⟨_, (0, yr, nf, no, nt, bd, nb, fl, AI, AN, AB, AL), rfl, (by simp [m_sum, ixn, bI, c_1, c_2] <;> (repeat' apply And.intro) <;> rfl), by rw [ht]; exact hP, va_K.moved hW.alike hK, hD⟩, hS.F ht⟩) hS.2.2 d_Mo_sum_83
  · refine lv_lconst (v := 0) hx hb d_Mo_sum_9 (by decide) ?_
    refine lv_lstore_n (lv' := [(2, .long 0), (0, .ref (ad 0)), (1, .int w0)]) hx hb d_Mo_sum_10 rfl hl (by decide) rfl (fun ls hl => ?_)
    refine lv_iconst (v := 0) hx hb d_Mo_sum_11 (by decide) ?_
    refine lv_istore (lv' := [(4, .int 0), (2, .long 0), (0, .ref (ad 0)), (1, .int w0)]) hx hb d_Mo_sum_12 hl (by decide) rfl (fun ls hl => ?_)
    refine lp_Mo_sum hx hb hml hown hts hK hP hnf w0 (fun ls hl => ?_) (nf + 1) 0 (by omega) (by omega) ls (lv_sub hl [0, 1, 2, 3] rfl)
    refine lv_lload_n hx hb d_Mo_sum_39 rfl (lv_at hl 1 rfl) ?_
    exact W.lret (v := (sumL (AL 2) nf)) hx hb hr (fun t ht hW => ⟨⟨_, (0, yr, nf, no, nt, bd, nb, fl, AI, AN, AB, AL), rfl, (by simp [m_sum, ixn, bI, c_1] <;> (repeat' apply And.intro) <;> rfl), by rw [ht]; exact hP, va_K.moved hW.alike hK, hD⟩, hS.F ht⟩) hS.2.2 d_Mo_sum_40
