theorem d_Mo_order_0 : decode b_Mo_order 0 = .ok (.aload_n 0, 1) := by decide +kernel
theorem d_Mo_order_1 : decode b_Mo_order 1 = .ok (.iconst 0, 1) := by decide +kernel
theorem d_Mo_order_2 : decode b_Mo_order 2 = .ok (.putfield 91, 3) := by decide +kernel
theorem d_Mo_order_5 : decode b_Mo_order 5 = .ok (.aload_n 0, 1) := by decide +kernel
theorem d_Mo_order_6 : decode b_Mo_order 6 = .ok (.iload_n 1, 1) := by decide +kernel
theorem d_Mo_order_7 : decode b_Mo_order 7 = .ok (.invokevirtual 118, 3) := by decide +kernel
theorem d_Mo_order_10 : decode b_Mo_order 10 = .ok (.ifCond .ne 5, 3) := by decide +kernel
theorem d_Mo_order_13 : decode b_Mo_order 13 = .ok (.iconst (-1), 1) := by decide +kernel
theorem d_Mo_order_14 : decode b_Mo_order 14 = .ok (.ireturn, 1) := by decide +kernel
theorem d_Mo_order_15 : decode b_Mo_order 15 = .ok (.iload_n 2, 1) := by decide +kernel
theorem d_Mo_order_16 : decode b_Mo_order 16 = .ok (.i2l, 1) := by decide +kernel
theorem d_Mo_order_17 : decode b_Mo_order 17 = .ok (.lconst 1, 1) := by decide +kernel
theorem d_Mo_order_18 : decode b_Mo_order 18 = .ok (.ldc2_w 128, 3) := by decide +kernel
theorem d_Mo_order_21 : decode b_Mo_order 21 = .ok (.invokestatic 97, 3) := by decide +kernel
theorem d_Mo_order_24 : decode b_Mo_order 24 = .ok (.ifCond .ne 6, 3) := by decide +kernel
theorem d_Mo_order_27 : decode b_Mo_order 27 = .ok (.bipush (-2), 2) := by decide +kernel
theorem d_Mo_order_29 : decode b_Mo_order 29 = .ok (.ireturn, 1) := by decide +kernel
theorem d_Mo_order_30 : decode b_Mo_order 30 = .ok (.aload_n 0, 1) := by decide +kernel
theorem d_Mo_order_31 : decode b_Mo_order 31 = .ok (.getfield 101, 3) := by decide +kernel
theorem d_Mo_order_34 : decode b_Mo_order 34 = .ok (.sipush 300, 3) := by decide +kernel
theorem d_Mo_order_37 : decode b_Mo_order 37 = .ok (.if_icmp .ne 6, 3) := by decide +kernel
theorem d_Mo_order_40 : decode b_Mo_order 40 = .ok (.bipush (-4), 2) := by decide +kernel
theorem d_Mo_order_42 : decode b_Mo_order 42 = .ok (.ireturn, 1) := by decide +kernel
theorem d_Mo_order_43 : decode b_Mo_order 43 = .ok (.iload_n 2, 1) := by decide +kernel
theorem d_Mo_order_44 : decode b_Mo_order 44 = .ok (.i2l, 1) := by decide +kernel
theorem d_Mo_order_45 : decode b_Mo_order 45 = .ok (.aload_n 0, 1) := by decide +kernel
theorem d_Mo_order_46 : decode b_Mo_order 46 = .ok (.iload_n 1, 1) := by decide +kernel
theorem d_Mo_order_47 : decode b_Mo_order 47 = .ok (.invokevirtual 130, 3) := by decide +kernel
theorem d_Mo_order_50 : decode b_Mo_order 50 = .ok (.lcmp, 1) := by decide +kernel
theorem d_Mo_order_51 : decode b_Mo_order 51 = .ok (.ifCond .gt 7, 3) := by decide +kernel
theorem d_Mo_order_54 : decode b_Mo_order 54 = .ok (.iconst 1, 1) := by decide +kernel
theorem d_Mo_order_55 : decode b_Mo_order 55 = .ok (.goto 4, 3) := by decide +kernel
theorem d_Mo_order_58 : decode b_Mo_order 58 = .ok (.iconst 0, 1) := by decide +kernel
theorem d_Mo_order_59 : decode b_Mo_order 59 = .ok (.istore 4, 2) := by decide +kernel
theorem d_Mo_order_61 : decode b_Mo_order 61 = .ok (.aload_n 0, 1) := by decide +kernel
theorem d_Mo_order_62 : decode b_Mo_order 62 = .ok (.getfield 20, 3) := by decide +kernel
theorem d_Mo_order_65 : decode b_Mo_order 65 = .ok (.aload_n 0, 1) := by decide +kernel
theorem d_Mo_order_66 : decode b_Mo_order 66 = .ok (.getfield 101, 3) := by decide +kernel
theorem d_Mo_order_69 : decode b_Mo_order 69 = .ok (.iload_n 1, 1) := by decide +kernel
theorem d_Mo_order_70 : decode b_Mo_order 70 = .ok (.iastore, 1) := by decide +kernel
theorem d_Mo_order_71 : decode b_Mo_order 71 = .ok (.aload_n 0, 1) := by decide +kernel
theorem d_Mo_order_72 : decode b_Mo_order 72 = .ok (.getfield 23, 3) := by decide +kernel
theorem d_Mo_order_75 : decode b_Mo_order 75 = .ok (.aload_n 0, 1) := by decide +kernel
theorem d_Mo_order_76 : decode b_Mo_order 76 = .ok (.getfield 101, 3) := by decide +kernel
theorem d_Mo_order_79 : decode b_Mo_order 79 = .ok (.iload_n 2, 1) := by decide +kernel
theorem d_Mo_order_80 : decode b_Mo_order 80 = .ok (.iastore, 1) := by decide +kernel
theorem d_Mo_order_81 : decode b_Mo_order 81 = .ok (.aload_n 0, 1) := by decide +kernel
theorem d_Mo_order_82 : decode b_Mo_order 82 = .ok (.getfield 26, 3) := by decide +kernel
theorem d_Mo_order_85 : decode b_Mo_order 85 = .ok (.aload_n 0, 1) := by decide +kernel
theorem d_Mo_order_86 : decode b_Mo_order 86 = .ok (.getfield 101, 3) := by decide +kernel
theorem d_Mo_order_89 : decode b_Mo_order 89 = .ok (.iload_n 3, 1) := by decide +kernel
theorem d_Mo_order_90 : decode b_Mo_order 90 = .ok (.bastore, 1) := by decide +kernel
theorem d_Mo_order_91 : decode b_Mo_order 91 = .ok (.aload_n 0, 1) := by decide +kernel
theorem d_Mo_order_92 : decode b_Mo_order 92 = .ok (.getfield 30, 3) := by decide +kernel
theorem d_Mo_order_95 : decode b_Mo_order 95 = .ok (.aload_n 0, 1) := by decide +kernel
theorem d_Mo_order_96 : decode b_Mo_order 96 = .ok (.getfield 101, 3) := by decide +kernel
theorem d_Mo_order_99 : decode b_Mo_order 99 = .ok (.iload 4, 2) := by decide +kernel
theorem d_Mo_order_101 : decode b_Mo_order 101 = .ok (.iastore, 1) := by decide +kernel
theorem d_Mo_order_102 : decode b_Mo_order 102 = .ok (.aload_n 0, 1) := by decide +kernel
theorem d_Mo_order_103 : decode b_Mo_order 103 = .ok (.getfield 36, 3) := by decide +kernel
theorem d_Mo_order_106 : decode b_Mo_order 106 = .ok (.aload_n 0, 1) := by decide +kernel
theorem d_Mo_order_107 : decode b_Mo_order 107 = .ok (.getfield 101, 3) := by decide +kernel
theorem d_Mo_order_110 : decode b_Mo_order 110 = .ok (.iconst 0, 1) := by decide +kernel
theorem d_Mo_order_111 : decode b_Mo_order 111 = .ok (.iastore, 1) := by decide +kernel
theorem d_Mo_order_112 : decode b_Mo_order 112 = .ok (.aload_n 0, 1) := by decide +kernel
theorem d_Mo_order_113 : decode b_Mo_order 113 = .ok (.getfield 39, 3) := by decide +kernel
theorem d_Mo_order_116 : decode b_Mo_order 116 = .ok (.aload_n 0, 1) := by decide +kernel
theorem d_Mo_order_117 : decode b_Mo_order 117 = .ok (.getfield 101, 3) := by decide +kernel
theorem d_Mo_order_120 : decode b_Mo_order 120 = .ok (.lconst 0, 1) := by decide +kernel
theorem d_Mo_order_121 : decode b_Mo_order 121 = .ok (.lastore, 1) := by decide +kernel
theorem d_Mo_order_122 : decode b_Mo_order 122 = .ok (.aload_n 0, 1) := by decide +kernel
theorem d_Mo_order_123 : decode b_Mo_order 123 = .ok (.getfield 42, 3) := by decide +kernel
theorem d_Mo_order_126 : decode b_Mo_order 126 = .ok (.aload_n 0, 1) := by decide +kernel
theorem d_Mo_order_127 : decode b_Mo_order 127 = .ok (.getfield 101, 3) := by decide +kernel
theorem d_Mo_order_130 : decode b_Mo_order 130 = .ok (.iconst 0, 1) := by decide +kernel
theorem d_Mo_order_131 : decode b_Mo_order 131 = .ok (.iastore, 1) := by decide +kernel
theorem d_Mo_order_132 : decode b_Mo_order 132 = .ok (.aload_n 0, 1) := by decide +kernel
theorem d_Mo_order_133 : decode b_Mo_order 133 = .ok (.getfield 45, 3) := by decide +kernel
theorem d_Mo_order_136 : decode b_Mo_order 136 = .ok (.aload_n 0, 1) := by decide +kernel
theorem d_Mo_order_137 : decode b_Mo_order 137 = .ok (.getfield 101, 3) := by decide +kernel
theorem d_Mo_order_140 : decode b_Mo_order 140 = .ok (.iconst (-1), 1) := by decide +kernel
theorem d_Mo_order_141 : decode b_Mo_order 141 = .ok (.iastore, 1) := by decide +kernel
theorem d_Mo_order_142 : decode b_Mo_order 142 = .ok (.aload_n 0, 1) := by decide +kernel
theorem d_Mo_order_143 : decode b_Mo_order 143 = .ok (.dup, 1) := by decide +kernel
theorem d_Mo_order_144 : decode b_Mo_order 144 = .ok (.getfield 101, 3) := by decide +kernel
theorem d_Mo_order_147 : decode b_Mo_order 147 = .ok (.iconst 1, 1) := by decide +kernel
theorem d_Mo_order_148 : decode b_Mo_order 148 = .ok (.iadd, 1) := by decide +kernel
theorem d_Mo_order_149 : decode b_Mo_order 149 = .ok (.putfield 101, 3) := by decide +kernel
theorem d_Mo_order_152 : decode b_Mo_order 152 = .ok (.iload 4, 2) := by decide +kernel
theorem d_Mo_order_154 : decode b_Mo_order 154 = .ok (.iconst 1, 1) := by decide +kernel
theorem d_Mo_order_155 : decode b_Mo_order 155 = .ok (.if_icmp .ne 12, 3) := by decide +kernel
theorem d_Mo_order_158 : decode b_Mo_order 158 = .ok (.aload_n 0, 1) := by decide +kernel
theorem d_Mo_order_159 : decode b_Mo_order 159 = .ok (.getfield 101, 3) := by decide +kernel
theorem d_Mo_order_162 : decode b_Mo_order 162 = .ok (.iconst 1, 1) := by decide +kernel
theorem d_Mo_order_163 : decode b_Mo_order 163 = .ok (.isub, 1) := by decide +kernel
theorem d_Mo_order_164 : decode b_Mo_order 164 = .ok (.goto 12, 3) := by decide +kernel
theorem d_Mo_order_167 : decode b_Mo_order 167 = .ok (.bipush (-10), 2) := by decide +kernel
theorem d_Mo_order_169 : decode b_Mo_order 169 = .ok (.aload_n 0, 1) := by decide +kernel
theorem d_Mo_order_170 : decode b_Mo_order 170 = .ok (.getfield 101, 3) := by decide +kernel
theorem d_Mo_order_173 : decode b_Mo_order 173 = .ok (.iconst 1, 1) := by decide +kernel
theorem d_Mo_order_174 : decode b_Mo_order 174 = .ok (.isub, 1) := by decide +kernel
theorem d_Mo_order_175 : decode b_Mo_order 175 = .ok (.isub, 1) := by decide +kernel
theorem d_Mo_order_176 : decode b_Mo_order 176 = .ok (.ireturn, 1) := by decide +kernel
set_option maxHeartbeats 4000000 in
set_option maxRecDepth 100000 in
theorem c_Mo_order (l : Launch) (dC : Nat → ClassId) (dI : Nat → Nat → Nat) (ad : Nat → Nat) (cA : Nat → ClassId) (th yr : Int32) (nf no nt : Nat) (bd : Int32) (nb : Nat) (fl : Int32) (AI : Nat → Nat → Int32) (AN : Nat → Nat → Nat) (AB : Nat → Nat → Bool) (AL : Nat → Nat → Int64) (sz : Nat) (fd c0 : Int32) (st : Bool) (hI : InvM nf no nt nb AI AN) : Met l y_Mo_order w_Mo_order { frames := 2, cells := 0, slots := 0, locals := 46 } (mu_P (dC, dI) classes (mtys cA) (mw ad cA th yr nf no nt bd nb fl AI AN AB AL) sz [.ref (ad 0), .int fd, .int c0, .int (bI st)]) (va_Qi (fun r u => (r, u) = m_order (th, yr, nf, no, nt, bd, nb, fl, AI, AN, AB, AL) fd c0 st) (mu_B (dC, dI) classes (mtys cA) (va_A (mw ad cA th yr nf no nt bd nb fl AI AN AB AL) sz) (mwS ad cA)) (va_A (mw ad cA th yr nf no nt bd nb fl AI AN AB AL) sz)) 0 0 (va_A (mw ad cA th yr nf no nt bd nb fl AI AN AB AL) sz) := by
  refine Met.ofW (cc := b_Mo_order) (maxL := 5) (ret := (some .int)) (by decide) rfl ?_
  intro p e s m args below meth c s₁ B hml hv
  obtain ⟨rfl, hsz, hP, hK, hD0, hN⟩ := hv
  have hx := B.exec
  have hb := B.bytes
  have hr := B.returns
  have hts := atoms_spec (ws := w_Mo_order) B.pre
  have hG := fun (w : Cond) (h : w ∈ wG) => hts w (List.mem_cons_of_mem _ h)
  have hown : s.vm.findClass R_Mo = some m.cls := findClass_of_methodNamed B.named
  have hlocks := B.notSynchronized
  subst hsz
  have hD := hD0.self (sz := s.heap.size)
  generalize hAe : va_A (mw ad cA th yr nf no nt bd nb fl AI AN AB AL) s.heap.size = A at hD ⊢
  have hA : ∀ q : Nat, s.heap.size ≤ q → A q := fun q h => by rw [← hAe]; exact Or.inr h
  have hS : va_S A s.heap s.heap [] := va_S.rf
  have hP : va_P (dC, dI) classes (mw ad cA th yr nf no nt bd nb fl AI AN AB AL) s.heap := hP
  have hl := lv_entry ([.ref (ad 0), .int fd, .int c0, .int (bI st)]) (n := 5) (Nat.le_of_ble_eq_true rfl)
  rw [lg_entry_eq]
  generalize (lg_sl ([.ref (ad 0), .int fd, .int c0, .int (bI st)]) ++ List.replicate (5 - (lg_sl ([.ref (ad 0), .int fd, .int c0, .int (bI st)])).length) Slot.unset).toArray = ls at hl ⊢
  have hl : lv_has ls 5 [(0, .ref (ad 0)), (1, .int fd), (2, .int c0), (3, .int (bI st))] := hl
  obtain ⟨hnf, hno, hnt, hnb, hfu, hft, hbf, hrw, hce, hdn⟩ := id hI
  refine lv_aload_n hx hb d_Mo_order_0 rfl (lv_at hl 0 rfl) ?_
  refine lv_iconst (v := 0) hx hb d_Mo_order_1 (by decide) ?_
  refine va_put (D := (dC, dI)) (ci := 7) (v := .int 0) (ty := .int) (C := R_Mo) (T := F_Mo) (N := 31) hx hb hG iG_Mo t_Mo t_Mo_ok n_Mo hown hK hP hD hS 0 rfl rfl 0 (by decide) (hG _ k_523) (fun _ h9 => h9) rfl (by decide +kernel) rfl rfl (Nat.le_of_ble_eq_true rfl) d_Mo_order_2 (fun H locs hP hD hS => ?_)
  have hP : va_P (dC, dI) classes (mw ad cA 0 yr nf no nt bd nb fl AI AN AB AL) H := hP
  have hD : va_D A (mw ad cA 0 yr nf no nt bd nb fl AI AN AB AL) := hD
  refine lv_aload_n hx hb d_Mo_order_5 rfl (lv_at hl 0 rfl) ?_
  refine lv_iload_n hx hb d_Mo_order_6 rfl (lv_at hl 1 rfl) ?_
  refine rd_calli (va_runV (As := [.int fd]) (rest := []) ⟨hx, hb, hml, hown, hts⟩ (c_Mo_isFund l dC dI ad cA 0 yr nf no nt bd nb fl AI AN AB AL fd) (cwV 1 hts (gd_V k_636 k_638 k_7 k_17 k_639) rfl rfl rfl (by decide +kernel) ⟨Nat.le_of_ble_eq_true rfl, Nat.le_of_ble_eq_true rfl⟩) (rd_preV 0 hK hN hP rfl rfl) rfl rfl hl.1 rfl (lv_room (Nat.le_of_ble_eq_true rfl)) d_Mo_order_7 ⟨Nat.zero_le _, Nat.zero_le _⟩) (fun r_1 hr_1 => ?_)
  subst hr_1
  refine lb_if_ne (tgt := 15) hx hb d_Mo_order_10 (by decide) (fun c_2 => ?_) (fun c_2 => ?_)
  · obtain ⟨j, hj, rfl⟩ := inN_of (n := nf) (by omega) c_2
    have ej : (nI j).toNatClampNeg = j := nI_clamp (by omega)
    refine lv_iload_n hx hb d_Mo_order_15 rfl (lv_at hl 2 rfl) ?_
    refine lv_i2l hx hb d_Mo_order_16 rfl ?_
    refine lv_lconst (v := 1) hx hb d_Mo_order_17 (by decide) ?_
    refine lv_ldc2 (own := R_Mo) (v := 1000000000) hx hb hown (hG _ k_658) d_Mo_order_18 ?_
    refine rd_calli (va_runS (As := [.long (c0.toInt64), .long 1, .long 1000000000]) (rest := []) ⟨hx, hb, hml, hown, hts⟩ (c_Mo_in l dC dI (mtys cA) (mw ad cA 0 yr nf no nt bd nb fl AI AN AB AL) (c0.toInt64) 1 1000000000) (cwS 3 hts (gd_S k_629 k_630 k_17 k_631) rfl rfl rfl (by decide +kernel) ⟨Nat.le_of_ble_eq_true rfl, Nat.le_of_ble_eq_true rfl⟩) (rd_preS hK hN hP) rfl rfl hl.1 rfl (lv_room (Nat.le_of_ble_eq_true rfl)) d_Mo_order_21 ⟨Nat.zero_le _, Nat.zero_le _⟩) (fun r_3 hr_3 => ?_)
    subst hr_3
    refine lb_if_ne (tgt := 30) hx hb d_Mo_order_24 (by decide) (fun c_4 => ?_) (fun c_4 => ?_)
    · refine lv_aload_n hx hb d_Mo_order_30 rfl (lv_at hl 0 rfl) ?_
      refine va_get (D := (dC, dI)) (ci := 7) (v := .int (nI no)) (C := R_Mo) (T := F_Mo) (N := 31) hx hb hG iG_Mo hown hK hP 0 rfl rfl 6 (by decide) (hG _ k_529) (fun _ h9 => h9) rfl d_Mo_order_31 ?_
      refine lv_sipush (v := 300) hx hb d_Mo_order_34 (by decide) ?_
      refine lv_icmp_ne (tgt := 43) hx hb d_Mo_order_37 (by decide) (fun c_5 => ?_) (fun c_5 => ?_)
      · rw [nI_300 hno] at c_5
        refine lv_iload_n hx hb d_Mo_order_43 rfl (lv_at hl 2 rfl) ?_
        refine lv_i2l hx hb d_Mo_order_44 rfl ?_
        refine lv_aload_n hx hb d_Mo_order_45 rfl (lv_at hl 0 rfl) ?_
        refine lv_iload_n hx hb d_Mo_order_46 rfl (lv_at hl 1 rfl) ?_
        refine rd_calll (va_runV (As := [.int (nI j)]) (rest := [.long (c0.toInt64)]) ⟨hx, hb, hml, hown, hts⟩ (c_Mo_free l dC dI ad cA 0 yr nf no nt bd nb fl AI AN AB AL j hno (by omega)) (cwV 1 hts (gd_V k_659 k_661 k_10 k_17 k_662) rfl rfl rfl (by decide +kernel) ⟨Nat.le_of_ble_eq_true rfl, Nat.le_of_ble_eq_true rfl⟩) (rd_preV 0 hK hN hP rfl rfl) rfl rfl hl.1 rfl (lv_room (Nat.le_of_ble_eq_true rfl)) d_Mo_order_47 ⟨Nat.zero_le _, Nat.zero_le _⟩) (fun r_6 hr_6 => ?_)
        subst hr_6
        refine lc_gt (tgt := 58) hx hb d_Mo_order_50 d_Mo_order_51 (by decide) (fun c_7 => ?_) (fun c_7 => ?_)
        · rw [← Int64.not_le] at c_7
          refine lv_iconst (v := 0) hx hb d_Mo_order_58 (by decide) ?_
          refine lv_istore (lv' := [(4, .int 0), (0, .ref (ad 0)), (1, .int (nI j)), (2, .int c0), (3, .int (bI st))]) hx hb d_Mo_order_59 hl (by decide) rfl (fun ls hl => ?_)
          refine lv_aload_n hx hb d_Mo_order_61 rfl (lv_at hl 1 rfl) ?_
          refine va_get (D := (dC, dI)) (ci := 7) (v := .ref (ad 4)) (C := R_Mo) (T := F_Mo) (N := 31) hx hb hG iG_Mo hown hK hP 0 rfl rfl 7 (by decide) (hG _ k_530) (fun _ h9 => h9) rfl d_Mo_order_62 ?_
          refine lv_aload_n hx hb d_Mo_order_65 rfl (lv_at hl 1 rfl) ?_
          refine va_get (D := (dC, dI)) (ci := 7) (v := .int (nI no)) (C := R_Mo) (T := F_Mo) (N := 31) hx hb hG iG_Mo hown hK hP 0 rfl rfl 6 (by decide) (hG _ k_529) (fun _ h9 => h9) rfl d_Mo_order_66 ?_
          refine lv_iload_n hx hb d_Mo_order_69 rfl (lv_at hl 2 rfl) ?_
          refine rn_iast (n := 300) (j := no) (g := AN 4) (b := j) hx hb hK hP hD hS 4 3 rfl rfl (by omega) (by decide) d_Mo_order_70 (fun H locs hP hD hS => ?_)
          have hP : va_P (dC, dI) classes (mw ad cA 0 yr nf no nt bd nb fl AI (va_up AN 4 (va_up (AN 4) no j)) AB AL) H := hP
          have hD : va_D A (mw ad cA 0 yr nf no nt bd nb fl AI (va_up AN 4 (va_up (AN 4) no j)) AB AL) := hD
          refine lv_aload_n hx hb d_Mo_order_71 rfl (lv_at hl 1 rfl) ?_
          refine va_get (D := (dC, dI)) (ci := 7) (v := .ref (ad 5)) (C := R_Mo) (T := F_Mo) (N := 31) hx hb hG iG_Mo hown hK hP 0 rfl rfl 8 (by decide) (hG _ k_531) (fun _ h9 => h9) rfl d_Mo_order_72 ?_
          refine lv_aload_n hx hb d_Mo_order_75 rfl (lv_at hl 1 rfl) ?_
          refine va_get (D := (dC, dI)) (ci := 7) (v := .int (nI no)) (C := R_Mo) (T := F_Mo) (N := 31) hx hb hG iG_Mo hown hK hP 0 rfl rfl 6 (by decide) (hG _ k_529) (fun _ h9 => h9) rfl d_Mo_order_76 ?_
          refine lv_iload_n hx hb d_Mo_order_79 rfl (lv_at hl 3 rfl) ?_
          refine ra_iast (n := 300) (j := no) (f := AI 5) hx hb hK hP hD hS 5 4 rfl rfl (by omega) (by decide) d_Mo_order_80 (fun H locs hP hD hS => ?_)
          have hP : va_P (dC, dI) classes (mw ad cA 0 yr nf no nt bd nb fl (va_up AI 5 (va_up (AI 5) no c0)) (va_up AN 4 (va_up (AN 4) no j)) AB AL) H := hP
          have hD : va_D A (mw ad cA 0 yr nf no nt bd nb fl (va_up AI 5 (va_up (AI 5) no c0)) (va_up AN 4 (va_up (AN 4) no j)) AB AL) := hD
          refine lv_aload_n hx hb d_Mo_order_81 rfl (lv_at hl 1 rfl) ?_
          refine va_get (D := (dC, dI)) (ci := 7) (v := .ref (ad 6)) (C := R_Mo) (T := F_Mo) (N := 31) hx hb hG iG_Mo hown hK hP 0 rfl rfl 9 (by decide) (hG _ k_532) (fun _ h9 => h9) rfl d_Mo_order_82 ?_
          refine lv_aload_n hx hb d_Mo_order_85 rfl (lv_at hl 1 rfl) ?_
          refine va_get (D := (dC, dI)) (ci := 7) (v := .int (nI no)) (C := R_Mo) (T := F_Mo) (N := 31) hx hb hG iG_Mo hown hK hP 0 rfl rfl 6 (by decide) (hG _ k_529) (fun _ h9 => h9) rfl d_Mo_order_86 ?_
          refine lv_iload_n hx hb d_Mo_order_89 rfl (lv_at hl 4 rfl) ?_
          refine rb_zast (n := 300) (j := no) (g := AB 6) (b := st) hx hb hK hP hD hS 6 5 rfl rfl (by omega) (by decide) d_Mo_order_90 (fun H locs hP hD hS => ?_)
          have hP : va_P (dC, dI) classes (mw ad cA 0 yr nf no nt bd nb fl (va_up AI 5 (va_up (AI 5) no c0)) (va_up AN 4 (va_up (AN 4) no j)) (va_up AB 6 (va_up (AB 6) no st)) AL) H := hP
          have hD : va_D A (mw ad cA 0 yr nf no nt bd nb fl (va_up AI 5 (va_up (AI 5) no c0)) (va_up AN 4 (va_up (AN 4) no j)) (va_up AB 6 (va_up (AB 6) no st)) AL) := hD
          refine lv_aload_n hx hb d_Mo_order_91 rfl (lv_at hl 1 rfl) ?_
          refine va_get (D := (dC, dI)) (ci := 7) (v := .ref (ad 7)) (C := R_Mo) (T := F_Mo) (N := 31) hx hb hG iG_Mo hown hK hP 0 rfl rfl 10 (by decide) (hG _ k_533) (fun _ h9 => h9) rfl d_Mo_order_92 ?_
          refine lv_aload_n hx hb d_Mo_order_95 rfl (lv_at hl 1 rfl) ?_
          refine va_get (D := (dC, dI)) (ci := 7) (v := .int (nI no)) (C := R_Mo) (T := F_Mo) (N := 31) hx hb hG iG_Mo hown hK hP 0 rfl rfl 6 (by decide) (hG _ k_529) (fun _ h9 => h9) rfl d_Mo_order_96 ?_
          refine lv_iload hx hb d_Mo_order_99 (lv_at hl 0 rfl) ?_
          refine ra_iast (n := 300) (j := no) (f := AI 7) hx hb hK hP hD hS 7 6 rfl rfl (by omega) (by decide) d_Mo_order_101 (fun H locs hP hD hS => ?_)
          have hP : va_P (dC, dI) classes (mw ad cA 0 yr nf no nt bd nb fl (va_up (va_up AI 5 (va_up (AI 5) no c0)) 7 (va_up (AI 7) no 0)) (va_up AN 4 (va_up (AN 4) no j)) (va_up AB 6 (va_up (AB 6) no st)) AL) H := hP
          have hD : va_D A (mw ad cA 0 yr nf no nt bd nb fl (va_up (va_up AI 5 (va_up (AI 5) no c0)) 7 (va_up (AI 7) no 0)) (va_up AN 4 (va_up (AN 4) no j)) (va_up AB 6 (va_up (AB 6) no st)) AL) := hD
          refine lv_aload_n hx hb d_Mo_order_102 rfl (lv_at hl 1 rfl) ?_
          refine va_get (D := (dC, dI)) (ci := 7) (v := .ref (ad 9)) (C := R_Mo) (T := F_Mo) (N := 31) hx hb hG iG_Mo hown hK hP 0 rfl rfl 12 (by decide) (hG _ k_535) (fun _ h9 => h9) rfl d_Mo_order_103 ?_
          refine lv_aload_n hx hb d_Mo_order_106 rfl (lv_at hl 1 rfl) ?_
          refine va_get (D := (dC, dI)) (ci := 7) (v := .int (nI no)) (C := R_Mo) (T := F_Mo) (N := 31) hx hb hG iG_Mo hown hK hP 0 rfl rfl 6 (by decide) (hG _ k_529) (fun _ h9 => h9) rfl d_Mo_order_107 ?_
          refine lv_iconst (v := 0) hx hb d_Mo_order_110 (by decide) ?_
          refine ra_iast (n := 300) (j := no) (f := AI 9) hx hb hK hP hD hS 9 8 rfl rfl (by omega) (by decide) d_Mo_order_111 (fun H locs hP hD hS => ?_)
          have hP : va_P (dC, dI) classes (mw ad cA 0 yr nf no nt bd nb fl (va_up (va_up (va_up AI 5 (va_up (AI 5) no c0)) 7 (va_up (AI 7) no 0)) 9 (va_up (AI 9) no 0)) (va_up AN 4 (va_up (AN 4) no j)) (va_up AB 6 (va_up (AB 6) no st)) AL) H := hP
          have hD : va_D A (mw ad cA 0 yr nf no nt bd nb fl (va_up (va_up (va_up AI 5 (va_up (AI 5) no c0)) 7 (va_up (AI 7) no 0)) 9 (va_up (AI 9) no 0)) (va_up AN 4 (va_up (AN 4) no j)) (va_up AB 6 (va_up (AB 6) no st)) AL) := hD
          refine lv_aload_n hx hb d_Mo_order_112 rfl (lv_at hl 1 rfl) ?_
          refine va_get (D := (dC, dI)) (ci := 7) (v := .ref (ad 10)) (C := R_Mo) (T := F_Mo) (N := 31) hx hb hG iG_Mo hown hK hP 0 rfl rfl 13 (by decide) (hG _ k_536) (fun _ h9 => h9) rfl d_Mo_order_113 ?_
          refine lv_aload_n hx hb d_Mo_order_116 rfl (lv_at hl 1 rfl) ?_
          refine va_get (D := (dC, dI)) (ci := 7) (v := .int (nI no)) (C := R_Mo) (T := F_Mo) (N := 31) hx hb hG iG_Mo hown hK hP 0 rfl rfl 6 (by decide) (hG _ k_529) (fun _ h9 => h9) rfl d_Mo_order_117 ?_
          refine lv_lconst (v := 0) hx hb d_Mo_order_120 (by decide) ?_
          refine ra_last (n := 300) (j := no) (f := AL 10) hx hb hK hP hD hS 10 9 rfl rfl (by omega) (by decide) d_Mo_order_121 (fun H locs hP hD hS => ?_)
          have hP : va_P (dC, dI) classes (mw ad cA 0 yr nf no nt bd nb fl (va_up (va_up (va_up AI 5 (va_up (AI 5) no c0)) 7 (va_up (AI 7) no 0)) 9 (va_up (AI 9) no 0)) (va_up AN 4 (va_up (AN 4) no j)) (va_up AB 6 (va_up (AB 6) no st)) (va_up AL 10 (va_up (AL 10) no 0))) H := hP
          have hD : va_D A (mw ad cA 0 yr nf no nt bd nb fl (va_up (va_up (va_up AI 5 (va_up (AI 5) no c0)) 7 (va_up (AI 7) no 0)) 9 (va_up (AI 9) no 0)) (va_up AN 4 (va_up (AN 4) no j)) (va_up AB 6 (va_up (AB 6) no st)) (va_up AL 10 (va_up (AL 10) no 0))) := hD
          refine lv_aload_n hx hb d_Mo_order_122 rfl (lv_at hl 1 rfl) ?_
          refine va_get (D := (dC, dI)) (ci := 7) (v := .ref (ad 11)) (C := R_Mo) (T := F_Mo) (N := 31) hx hb hG iG_Mo hown hK hP 0 rfl rfl 14 (by decide) (hG _ k_537) (fun _ h9 => h9) rfl d_Mo_order_123 ?_
          refine lv_aload_n hx hb d_Mo_order_126 rfl (lv_at hl 1 rfl) ?_
          refine va_get (D := (dC, dI)) (ci := 7) (v := .int (nI no)) (C := R_Mo) (T := F_Mo) (N := 31) hx hb hG iG_Mo hown hK hP 0 rfl rfl 6 (by decide) (hG _ k_529) (fun _ h9 => h9) rfl d_Mo_order_127 ?_
          refine lv_iconst (v := 0) hx hb d_Mo_order_130 (by decide) ?_
          refine ra_iast (n := 300) (j := no) (f := AI 11) hx hb hK hP hD hS 11 10 rfl rfl (by omega) (by decide) d_Mo_order_131 (fun H locs hP hD hS => ?_)
          have hP : va_P (dC, dI) classes (mw ad cA 0 yr nf no nt bd nb fl (va_up (va_up (va_up (va_up AI 5 (va_up (AI 5) no c0)) 7 (va_up (AI 7) no 0)) 9 (va_up (AI 9) no 0)) 11 (va_up (AI 11) no 0)) (va_up AN 4 (va_up (AN 4) no j)) (va_up AB 6 (va_up (AB 6) no st)) (va_up AL 10 (va_up (AL 10) no 0))) H := hP
          have hD : va_D A (mw ad cA 0 yr nf no nt bd nb fl (va_up (va_up (va_up (va_up AI 5 (va_up (AI 5) no c0)) 7 (va_up (AI 7) no 0)) 9 (va_up (AI 9) no 0)) 11 (va_up (AI 11) no 0)) (va_up AN 4 (va_up (AN 4) no j)) (va_up AB 6 (va_up (AB 6) no st)) (va_up AL 10 (va_up (AL 10) no 0))) := hD
          refine lv_aload_n hx hb d_Mo_order_132 rfl (lv_at hl 1 rfl) ?_
          refine va_get (D := (dC, dI)) (ci := 7) (v := .ref (ad 12)) (C := R_Mo) (T := F_Mo) (N := 31) hx hb hG iG_Mo hown hK hP 0 rfl rfl 15 (by decide) (hG _ k_538) (fun _ h9 => h9) rfl d_Mo_order_133 ?_
          refine lv_aload_n hx hb d_Mo_order_136 rfl (lv_at hl 1 rfl) ?_
          refine va_get (D := (dC, dI)) (ci := 7) (v := .int (nI no)) (C := R_Mo) (T := F_Mo) (N := 31) hx hb hG iG_Mo hown hK hP 0 rfl rfl 6 (by decide) (hG _ k_529) (fun _ h9 => h9) rfl d_Mo_order_137 ?_
          refine lv_iconst (v := (-1)) hx hb d_Mo_order_140 (by decide) ?_
          refine ra_iast (n := 300) (j := no) (f := AI 12) hx hb hK hP hD hS 12 11 rfl rfl (by omega) (by decide) d_Mo_order_141 (fun H locs hP hD hS => ?_)
          have hP : va_P (dC, dI) classes (mw ad cA 0 yr nf no nt bd nb fl (va_up (va_up (va_up (va_up (va_up AI 5 (va_up (AI 5) no c0)) 7 (va_up (AI 7) no 0)) 9 (va_up (AI 9) no 0)) 11 (va_up (AI 11) no 0)) 12 (va_up (AI 12) no (-1))) (va_up AN 4 (va_up (AN 4) no j)) (va_up AB 6 (va_up (AB 6) no st)) (va_up AL 10 (va_up (AL 10) no 0))) H := hP
          have hD : va_D A (mw ad cA 0 yr nf no nt bd nb fl (va_up (va_up (va_up (va_up (va_up AI 5 (va_up (AI 5) no c0)) 7 (va_up (AI 7) no 0)) 9 (va_up (AI 9) no 0)) 11 (va_up (AI 11) no 0)) 12 (va_up (AI 12) no (-1))) (va_up AN 4 (va_up (AN 4) no j)) (va_up AB 6 (va_up (AB 6) no st)) (va_up AL 10 (va_up (AL 10) no 0))) := hD
          refine lv_aload_n hx hb d_Mo_order_142 rfl (lv_at hl 1 rfl) ?_
          refine lv_dup hx hb d_Mo_order_143 rfl ?_
          refine va_get (D := (dC, dI)) (ci := 7) (v := .int (nI no)) (C := R_Mo) (T := F_Mo) (N := 31) hx hb hG iG_Mo hown hK hP 0 rfl rfl 6 (by decide) (hG _ k_529) (fun _ h9 => h9) rfl d_Mo_order_144 ?_
          refine lv_iconst (v := 1) hx hb d_Mo_order_147 (by decide) ?_
          refine lv_iadd hx hb d_Mo_order_148 ?_
          refine lv_topI (y := nI (no + 1)) (nI_add no 1) ?_
          refine va_put (D := (dC, dI)) (ci := 7) (v := .int (nI (no + 1))) (ty := .int) (C := R_Mo) (T := F_Mo) (N := 31) hx hb hG iG_Mo t_Mo t_Mo_ok n_Mo hown hK hP hD hS 0 rfl rfl 6 (by decide) (hG _ k_529) (fun _ h9 => h9) rfl (by decide +kernel) rfl rfl (Nat.le_of_ble_eq_true rfl) d_Mo_order_149 (fun H locs hP hD hS => ?_)
          have hP : va_P (dC, dI) classes (mw ad cA 0 yr nf (no + 1) nt bd nb fl (va_up (va_up (va_up (va_up (va_up AI 5 (va_up (AI 5) no c0)) 7 (va_up (AI 7) no 0)) 9 (va_up (AI 9) no 0)) 11 (va_up (AI 11) no 0)) 12 (va_up (AI 12) no (-1))) (va_up AN 4 (va_up (AN 4) no j)) (va_up AB 6 (va_up (AB 6) no st)) (va_up AL 10 (va_up (AL 10) no 0))) H := hP
          have hD : va_D A (mw ad cA 0 yr nf (no + 1) nt bd nb fl (va_up (va_up (va_up (va_up (va_up AI 5 (va_up (AI 5) no c0)) 7 (va_up (AI 7) no 0)) 9 (va_up (AI 9) no 0)) 11 (va_up (AI 11) no 0)) 12 (va_up (AI 12) no (-1))) (va_up AN 4 (va_up (AN 4) no j)) (va_up AB 6 (va_up (AB 6) no st)) (va_up AL 10 (va_up (AL 10) no 0))) := hD
          refine lv_iload hx hb d_Mo_order_152 (lv_at hl 0 rfl) ?_
          refine lv_iconst (v := 1) hx hb d_Mo_order_154 (by decide) ?_
          refine lv_icmp_ne (tgt := 167) hx hb d_Mo_order_155 (by decide) (fun c_8 => ?_) (fun c_8 => ?_)
          · refine lv_bipush (v := (-10)) hx hb d_Mo_order_167 (by decide) ?_
            refine lv_aload_n hx hb d_Mo_order_169 rfl (lv_at hl 1 rfl) ?_
            refine va_get (D := (dC, dI)) (ci := 7) (v := .int (nI (no + 1))) (C := R_Mo) (T := F_Mo) (N := 31) hx hb hG iG_Mo hown hK hP 0 rfl rfl 6 (by decide) (hG _ k_529) (fun _ h9 => h9) rfl d_Mo_order_170 ?_
            refine lv_iconst (v := 1) hx hb d_Mo_order_173 (by decide) ?_
            refine lv_isub hx hb d_Mo_order_174 ?_
            refine lv_topI (y := nI no) (nI_pred no) ?_
            refine lv_isub hx hb d_Mo_order_175 ?_
            exact W.iret (v := ((-10) - nI no)) hx hb hr (fun t ht hW => ⟨⟨_, (0, yr, nf, (no + 1), nt, bd, nb, fl, va_up (va_up (va_up (va_up (va_up AI 5 (va_up (AI 5) no c0)) 7 (va_up (AI 7) no 0)) 9 (va_up (AI 9) no 0)) 11 (va_up (AI 11) no 0)) 12 (va_up (AI 12) no (-1)), va_up AN 4 (va_up (AN 4) no j), va_up AB 6 (va_up (AB 6) no st), va_up AL 10 (va_up (AL 10) no 0)), rfl, (by simp [m_order, ixn, bI, ej, c_2, c_4, c_5, c_7] <;> (repeat' apply And.intro) <;> rfl), by rw [ht]; exact hP, va_K.moved hW.alike hK, hD⟩, hS.F ht⟩) hS.2.2 d_Mo_order_176
          · exact absurd c_8 (by decide)
        · rw [Int64.not_lt] at c_7
          refine lv_iconst (v := 1) hx hb d_Mo_order_54 (by decide) ?_
          refine lv_goto (tgt := 59) hx hb d_Mo_order_55 (by decide) ?_
          refine lv_istore (lv' := [(4, .int 1), (0, .ref (ad 0)), (1, .int (nI j)), (2, .int c0), (3, .int (bI st))]) hx hb d_Mo_order_59 hl (by decide) rfl (fun ls hl => ?_)
          refine lv_aload_n hx hb d_Mo_order_61 rfl (lv_at hl 1 rfl) ?_
          refine va_get (D := (dC, dI)) (ci := 7) (v := .ref (ad 4)) (C := R_Mo) (T := F_Mo) (N := 31) hx hb hG iG_Mo hown hK hP 0 rfl rfl 7 (by decide) (hG _ k_530) (fun _ h9 => h9) rfl d_Mo_order_62 ?_
          refine lv_aload_n hx hb d_Mo_order_65 rfl (lv_at hl 1 rfl) ?_
          refine va_get (D := (dC, dI)) (ci := 7) (v := .int (nI no)) (C := R_Mo) (T := F_Mo) (N := 31) hx hb hG iG_Mo hown hK hP 0 rfl rfl 6 (by decide) (hG _ k_529) (fun _ h9 => h9) rfl d_Mo_order_66 ?_
          refine lv_iload_n hx hb d_Mo_order_69 rfl (lv_at hl 2 rfl) ?_
          refine rn_iast (n := 300) (j := no) (g := AN 4) (b := j) hx hb hK hP hD hS 4 3 rfl rfl (by omega) (by decide) d_Mo_order_70 (fun H locs hP hD hS => ?_)
          have hP : va_P (dC, dI) classes (mw ad cA 0 yr nf no nt bd nb fl AI (va_up AN 4 (va_up (AN 4) no j)) AB AL) H := hP
          have hD : va_D A (mw ad cA 0 yr nf no nt bd nb fl AI (va_up AN 4 (va_up (AN 4) no j)) AB AL) := hD
          refine lv_aload_n hx hb d_Mo_order_71 rfl (lv_at hl 1 rfl) ?_
          refine va_get (D := (dC, dI)) (ci := 7) (v := .ref (ad 5)) (C := R_Mo) (T := F_Mo) (N := 31) hx hb hG iG_Mo hown hK hP 0 rfl rfl 8 (by decide) (hG _ k_531) (fun _ h9 => h9) rfl d_Mo_order_72 ?_
          refine lv_aload_n hx hb d_Mo_order_75 rfl (lv_at hl 1 rfl) ?_
          refine va_get (D := (dC, dI)) (ci := 7) (v := .int (nI no)) (C := R_Mo) (T := F_Mo) (N := 31) hx hb hG iG_Mo hown hK hP 0 rfl rfl 6 (by decide) (hG _ k_529) (fun _ h9 => h9) rfl d_Mo_order_76 ?_
          refine lv_iload_n hx hb d_Mo_order_79 rfl (lv_at hl 3 rfl) ?_
          refine ra_iast (n := 300) (j := no) (f := AI 5) hx hb hK hP hD hS 5 4 rfl rfl (by omega) (by decide) d_Mo_order_80 (fun H locs hP hD hS => ?_)
          have hP : va_P (dC, dI) classes (mw ad cA 0 yr nf no nt bd nb fl (va_up AI 5 (va_up (AI 5) no c0)) (va_up AN 4 (va_up (AN 4) no j)) AB AL) H := hP
          have hD : va_D A (mw ad cA 0 yr nf no nt bd nb fl (va_up AI 5 (va_up (AI 5) no c0)) (va_up AN 4 (va_up (AN 4) no j)) AB AL) := hD
          refine lv_aload_n hx hb d_Mo_order_81 rfl (lv_at hl 1 rfl) ?_
          refine va_get (D := (dC, dI)) (ci := 7) (v := .ref (ad 6)) (C := R_Mo) (T := F_Mo) (N := 31) hx hb hG iG_Mo hown hK hP 0 rfl rfl 9 (by decide) (hG _ k_532) (fun _ h9 => h9) rfl d_Mo_order_82 ?_
          refine lv_aload_n hx hb d_Mo_order_85 rfl (lv_at hl 1 rfl) ?_
          refine va_get (D := (dC, dI)) (ci := 7) (v := .int (nI no)) (C := R_Mo) (T := F_Mo) (N := 31) hx hb hG iG_Mo hown hK hP 0 rfl rfl 6 (by decide) (hG _ k_529) (fun _ h9 => h9) rfl d_Mo_order_86 ?_
          refine lv_iload_n hx hb d_Mo_order_89 rfl (lv_at hl 4 rfl) ?_
          refine rb_zast (n := 300) (j := no) (g := AB 6) (b := st) hx hb hK hP hD hS 6 5 rfl rfl (by omega) (by decide) d_Mo_order_90 (fun H locs hP hD hS => ?_)
          have hP : va_P (dC, dI) classes (mw ad cA 0 yr nf no nt bd nb fl (va_up AI 5 (va_up (AI 5) no c0)) (va_up AN 4 (va_up (AN 4) no j)) (va_up AB 6 (va_up (AB 6) no st)) AL) H := hP
          have hD : va_D A (mw ad cA 0 yr nf no nt bd nb fl (va_up AI 5 (va_up (AI 5) no c0)) (va_up AN 4 (va_up (AN 4) no j)) (va_up AB 6 (va_up (AB 6) no st)) AL) := hD
          refine lv_aload_n hx hb d_Mo_order_91 rfl (lv_at hl 1 rfl) ?_
          refine va_get (D := (dC, dI)) (ci := 7) (v := .ref (ad 7)) (C := R_Mo) (T := F_Mo) (N := 31) hx hb hG iG_Mo hown hK hP 0 rfl rfl 10 (by decide) (hG _ k_533) (fun _ h9 => h9) rfl d_Mo_order_92 ?_
          refine lv_aload_n hx hb d_Mo_order_95 rfl (lv_at hl 1 rfl) ?_
          refine va_get (D := (dC, dI)) (ci := 7) (v := .int (nI no)) (C := R_Mo) (T := F_Mo) (N := 31) hx hb hG iG_Mo hown hK hP 0 rfl rfl 6 (by decide) (hG _ k_529) (fun _ h9 => h9) rfl d_Mo_order_96 ?_
          refine lv_iload hx hb d_Mo_order_99 (lv_at hl 0 rfl) ?_
          refine ra_iast (n := 300) (j := no) (f := AI 7) hx hb hK hP hD hS 7 6 rfl rfl (by omega) (by decide) d_Mo_order_101 (fun H locs hP hD hS => ?_)
          have hP : va_P (dC, dI) classes (mw ad cA 0 yr nf no nt bd nb fl (va_up (va_up AI 5 (va_up (AI 5) no c0)) 7 (va_up (AI 7) no 1)) (va_up AN 4 (va_up (AN 4) no j)) (va_up AB 6 (va_up (AB 6) no st)) AL) H := hP
          have hD : va_D A (mw ad cA 0 yr nf no nt bd nb fl (va_up (va_up AI 5 (va_up (AI 5) no c0)) 7 (va_up (AI 7) no 1)) (va_up AN 4 (va_up (AN 4) no j)) (va_up AB 6 (va_up (AB 6) no st)) AL) := hD
          refine lv_aload_n hx hb d_Mo_order_102 rfl (lv_at hl 1 rfl) ?_
          refine va_get (D := (dC, dI)) (ci := 7) (v := .ref (ad 9)) (C := R_Mo) (T := F_Mo) (N := 31) hx hb hG iG_Mo hown hK hP 0 rfl rfl 12 (by decide) (hG _ k_535) (fun _ h9 => h9) rfl d_Mo_order_103 ?_
          refine lv_aload_n hx hb d_Mo_order_106 rfl (lv_at hl 1 rfl) ?_
          refine va_get (D := (dC, dI)) (ci := 7) (v := .int (nI no)) (C := R_Mo) (T := F_Mo) (N := 31) hx hb hG iG_Mo hown hK hP 0 rfl rfl 6 (by decide) (hG _ k_529) (fun _ h9 => h9) rfl d_Mo_order_107 ?_
          refine lv_iconst (v := 0) hx hb d_Mo_order_110 (by decide) ?_
          refine ra_iast (n := 300) (j := no) (f := AI 9) hx hb hK hP hD hS 9 8 rfl rfl (by omega) (by decide) d_Mo_order_111 (fun H locs hP hD hS => ?_)
          have hP : va_P (dC, dI) classes (mw ad cA 0 yr nf no nt bd nb fl (va_up (va_up (va_up AI 5 (va_up (AI 5) no c0)) 7 (va_up (AI 7) no 1)) 9 (va_up (AI 9) no 0)) (va_up AN 4 (va_up (AN 4) no j)) (va_up AB 6 (va_up (AB 6) no st)) AL) H := hP
          have hD : va_D A (mw ad cA 0 yr nf no nt bd nb fl (va_up (va_up (va_up AI 5 (va_up (AI 5) no c0)) 7 (va_up (AI 7) no 1)) 9 (va_up (AI 9) no 0)) (va_up AN 4 (va_up (AN 4) no j)) (va_up AB 6 (va_up (AB 6) no st)) AL) := hD
          refine lv_aload_n hx hb d_Mo_order_112 rfl (lv_at hl 1 rfl) ?_
          refine va_get (D := (dC, dI)) (ci := 7) (v := .ref (ad 10)) (C := R_Mo) (T := F_Mo) (N := 31) hx hb hG iG_Mo hown hK hP 0 rfl rfl 13 (by decide) (hG _ k_536) (fun _ h9 => h9) rfl d_Mo_order_113 ?_
          refine lv_aload_n hx hb d_Mo_order_116 rfl (lv_at hl 1 rfl) ?_
          refine va_get (D := (dC, dI)) (ci := 7) (v := .int (nI no)) (C := R_Mo) (T := F_Mo) (N := 31) hx hb hG iG_Mo hown hK hP 0 rfl rfl 6 (by decide) (hG _ k_529) (fun _ h9 => h9) rfl d_Mo_order_117 ?_
          refine lv_lconst (v := 0) hx hb d_Mo_order_120 (by decide) ?_
          refine ra_last (n := 300) (j := no) (f := AL 10) hx hb hK hP hD hS 10 9 rfl rfl (by omega) (by decide) d_Mo_order_121 (fun H locs hP hD hS => ?_)
          have hP : va_P (dC, dI) classes (mw ad cA 0 yr nf no nt bd nb fl (va_up (va_up (va_up AI 5 (va_up (AI 5) no c0)) 7 (va_up (AI 7) no 1)) 9 (va_up (AI 9) no 0)) (va_up AN 4 (va_up (AN 4) no j)) (va_up AB 6 (va_up (AB 6) no st)) (va_up AL 10 (va_up (AL 10) no 0))) H := hP
          have hD : va_D A (mw ad cA 0 yr nf no nt bd nb fl (va_up (va_up (va_up AI 5 (va_up (AI 5) no c0)) 7 (va_up (AI 7) no 1)) 9 (va_up (AI 9) no 0)) (va_up AN 4 (va_up (AN 4) no j)) (va_up AB 6 (va_up (AB 6) no st)) (va_up AL 10 (va_up (AL 10) no 0))) := hD
          refine lv_aload_n hx hb d_Mo_order_122 rfl (lv_at hl 1 rfl) ?_
          refine va_get (D := (dC, dI)) (ci := 7) (v := .ref (ad 11)) (C := R_Mo) (T := F_Mo) (N := 31) hx hb hG iG_Mo hown hK hP 0 rfl rfl 14 (by decide) (hG _ k_537) (fun _ h9 => h9) rfl d_Mo_order_123 ?_
          refine lv_aload_n hx hb d_Mo_order_126 rfl (lv_at hl 1 rfl) ?_
          refine va_get (D := (dC, dI)) (ci := 7) (v := .int (nI no)) (C := R_Mo) (T := F_Mo) (N := 31) hx hb hG iG_Mo hown hK hP 0 rfl rfl 6 (by decide) (hG _ k_529) (fun _ h9 => h9) rfl d_Mo_order_127 ?_
          refine lv_iconst (v := 0) hx hb d_Mo_order_130 (by decide) ?_
          refine ra_iast (n := 300) (j := no) (f := AI 11) hx hb hK hP hD hS 11 10 rfl rfl (by omega) (by decide) d_Mo_order_131 (fun H locs hP hD hS => ?_)
          have hP : va_P (dC, dI) classes (mw ad cA 0 yr nf no nt bd nb fl (va_up (va_up (va_up (va_up AI 5 (va_up (AI 5) no c0)) 7 (va_up (AI 7) no 1)) 9 (va_up (AI 9) no 0)) 11 (va_up (AI 11) no 0)) (va_up AN 4 (va_up (AN 4) no j)) (va_up AB 6 (va_up (AB 6) no st)) (va_up AL 10 (va_up (AL 10) no 0))) H := hP
          have hD : va_D A (mw ad cA 0 yr nf no nt bd nb fl (va_up (va_up (va_up (va_up AI 5 (va_up (AI 5) no c0)) 7 (va_up (AI 7) no 1)) 9 (va_up (AI 9) no 0)) 11 (va_up (AI 11) no 0)) (va_up AN 4 (va_up (AN 4) no j)) (va_up AB 6 (va_up (AB 6) no st)) (va_up AL 10 (va_up (AL 10) no 0))) := hD
          refine lv_aload_n hx hb d_Mo_order_132 rfl (lv_at hl 1 rfl) ?_
          refine va_get (D := (dC, dI)) (ci := 7) (v := .ref (ad 12)) (C := R_Mo) (T := F_Mo) (N := 31) hx hb hG iG_Mo hown hK hP 0 rfl rfl 15 (by decide) (hG _ k_538) (fun _ h9 => h9) rfl d_Mo_order_133 ?_
          refine lv_aload_n hx hb d_Mo_order_136 rfl (lv_at hl 1 rfl) ?_
          refine va_get (D := (dC, dI)) (ci := 7) (v := .int (nI no)) (C := R_Mo) (T := F_Mo) (N := 31) hx hb hG iG_Mo hown hK hP 0 rfl rfl 6 (by decide) (hG _ k_529) (fun _ h9 => h9) rfl d_Mo_order_137 ?_
          refine lv_iconst (v := (-1)) hx hb d_Mo_order_140 (by decide) ?_
          refine ra_iast (n := 300) (j := no) (f := AI 12) hx hb hK hP hD hS 12 11 rfl rfl (by omega) (by decide) d_Mo_order_141 (fun H locs hP hD hS => ?_)
          have hP : va_P (dC, dI) classes (mw ad cA 0 yr nf no nt bd nb fl (va_up (va_up (va_up (va_up (va_up AI 5 (va_up (AI 5) no c0)) 7 (va_up (AI 7) no 1)) 9 (va_up (AI 9) no 0)) 11 (va_up (AI 11) no 0)) 12 (va_up (AI 12) no (-1))) (va_up AN 4 (va_up (AN 4) no j)) (va_up AB 6 (va_up (AB 6) no st)) (va_up AL 10 (va_up (AL 10) no 0))) H := hP
          have hD : va_D A (mw ad cA 0 yr nf no nt bd nb fl (va_up (va_up (va_up (va_up (va_up AI 5 (va_up (AI 5) no c0)) 7 (va_up (AI 7) no 1)) 9 (va_up (AI 9) no 0)) 11 (va_up (AI 11) no 0)) 12 (va_up (AI 12) no (-1))) (va_up AN 4 (va_up (AN 4) no j)) (va_up AB 6 (va_up (AB 6) no st)) (va_up AL 10 (va_up (AL 10) no 0))) := hD
          refine lv_aload_n hx hb d_Mo_order_142 rfl (lv_at hl 1 rfl) ?_
          refine lv_dup hx hb d_Mo_order_143 rfl ?_
          refine va_get (D := (dC, dI)) (ci := 7) (v := .int (nI no)) (C := R_Mo) (T := F_Mo) (N := 31) hx hb hG iG_Mo hown hK hP 0 rfl rfl 6 (by decide) (hG _ k_529) (fun _ h9 => h9) rfl d_Mo_order_144 ?_
          refine lv_iconst (v := 1) hx hb d_Mo_order_147 (by decide) ?_
          refine lv_iadd hx hb d_Mo_order_148 ?_
          refine lv_topI (y := nI (no + 1)) (nI_add no 1) ?_
          refine va_put (D := (dC, dI)) (ci := 7) (v := .int (nI (no + 1))) (ty := .int) (C := R_Mo) (T := F_Mo) (N := 31) hx hb hG iG_Mo t_Mo t_Mo_ok n_Mo hown hK hP hD hS 0 rfl rfl 6 (by decide) (hG _ k_529) (fun _ h9 => h9) rfl (by decide +kernel) rfl rfl (Nat.le_of_ble_eq_true rfl) d_Mo_order_149 (fun H locs hP hD hS => ?_)
          have hP : va_P (dC, dI) classes (mw ad cA 0 yr nf (no + 1) nt bd nb fl (va_up (va_up (va_up (va_up (va_up AI 5 (va_up (AI 5) no c0)) 7 (va_up (AI 7) no 1)) 9 (va_up (AI 9) no 0)) 11 (va_up (AI 11) no 0)) 12 (va_up (AI 12) no (-1))) (va_up AN 4 (va_up (AN 4) no j)) (va_up AB 6 (va_up (AB 6) no st)) (va_up AL 10 (va_up (AL 10) no 0))) H := hP
          have hD : va_D A (mw ad cA 0 yr nf (no + 1) nt bd nb fl (va_up (va_up (va_up (va_up (va_up AI 5 (va_up (AI 5) no c0)) 7 (va_up (AI 7) no 1)) 9 (va_up (AI 9) no 0)) 11 (va_up (AI 11) no 0)) 12 (va_up (AI 12) no (-1))) (va_up AN 4 (va_up (AN 4) no j)) (va_up AB 6 (va_up (AB 6) no st)) (va_up AL 10 (va_up (AL 10) no 0))) := hD
          refine lv_iload hx hb d_Mo_order_152 (lv_at hl 0 rfl) ?_
          refine lv_iconst (v := 1) hx hb d_Mo_order_154 (by decide) ?_
          refine lv_icmp_ne (tgt := 167) hx hb d_Mo_order_155 (by decide) (fun c_9 => ?_) (fun c_9 => ?_)
          · exact absurd c_9 (by decide)
          · refine lv_aload_n hx hb d_Mo_order_158 rfl (lv_at hl 1 rfl) ?_
            refine va_get (D := (dC, dI)) (ci := 7) (v := .int (nI (no + 1))) (C := R_Mo) (T := F_Mo) (N := 31) hx hb hG iG_Mo hown hK hP 0 rfl rfl 6 (by decide) (hG _ k_529) (fun _ h9 => h9) rfl d_Mo_order_159 ?_
            refine lv_iconst (v := 1) hx hb d_Mo_order_162 (by decide) ?_
            refine lv_isub hx hb d_Mo_order_163 ?_
            refine lv_topI (y := nI no) (nI_pred no) ?_
            refine lv_goto (tgt := 176) hx hb d_Mo_order_164 (by decide) ?_
            exact W.iret (v := (nI no)) hx hb hr (fun t ht hW => ⟨⟨_, (0, yr, nf, (no + 1), nt, bd, nb, fl, va_up (va_up (va_up (va_up (va_up AI 5 (va_up (AI 5) no c0)) 7 (va_up (AI 7) no 1)) 9 (va_up (AI 9) no 0)) 11 (va_up (AI 11) no 0)) 12 (va_up (AI 12) no (-1)), va_up AN 4 (va_up (AN 4) no j), va_up AB 6 (va_up (AB 6) no st), va_up AL 10 (va_up (AL 10) no 0)), rfl, (by simp [m_order, ixn, bI, ej, c_2, c_4, c_5, c_7] <;> (repeat' apply And.intro) <;> rfl), by rw [ht]; exact hP, va_K.moved hW.alike hK, hD⟩, hS.F ht⟩) hS.2.2 d_Mo_order_176
      · rw [nI_300 hno] at c_5
        refine lv_bipush (v := (-4)) hx hb d_Mo_order_40 (by decide) ?_
        exact W.iret (v := (-4)) hx hb hr (fun t ht hW => ⟨⟨_, (0, yr, nf, no, nt, bd, nb, fl, AI, AN, AB, AL), rfl, (by simp [m_order, ixn, bI, ej, c_2, c_4, c_5] <;> (repeat' apply And.intro) <;> rfl), by rw [ht]; exact hP, va_K.moved hW.alike hK, hD⟩, hS.F ht⟩) hS.2.2 d_Mo_order_42
    · refine lv_bipush (v := (-2)) hx hb d_Mo_order_27 (by decide) ?_
      exact W.iret (v := (-2)) hx hb hr (fun t ht hW => ⟨⟨_, (0, yr, nf, no, nt, bd, nb, fl, AI, AN, AB, AL), rfl, (by simp [m_order, ixn, bI, ej, c_2, c_4] <;> (repeat' apply And.intro) <;> rfl), by rw [ht]; exact hP, va_K.moved hW.alike hK, hD⟩, hS.F ht⟩) hS.2.2 d_Mo_order_29
  · refine lv_iconst (v := (-1)) hx hb d_Mo_order_13 (by decide) ?_
    exact W.iret (v := (-1)) hx hb hr (fun t ht hW => ⟨⟨_, (0, yr, nf, no, nt, bd, nb, fl, AI, AN, AB, AL), rfl, (by simp [m_order, ixn, bI, c_2] <;> (repeat' apply And.intro) <;> rfl), by rw [ht]; exact hP, va_K.moved hW.alike hK, hD⟩, hS.F ht⟩) hS.2.2 d_Mo_order_14
