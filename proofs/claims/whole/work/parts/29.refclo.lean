def clL (AI : Nat → Nat → Int32) (AN : Nat → Nat → Nat) (AL : Nat → Nat → Int64) (no i : Nat) : Nat → Nat → Int64 := va_up (va_up AL 2 (fun j => if j < i then m_carried (AI 1 j) (m_free AI AN AL no j) + m_enc AI AN no (nI j) else AL 2 j)) 3 (fun j => if j < i then 0 else AL 3 j)
theorem clL_0 (AI : Nat → Nat → Int32) (AN : Nat → Nat → Nat) (AL : Nat → Nat → Int64) (no : Nat) : clL AI AN AL no 0 = AL := by
  funext k j
  simp only [clL, va_up, Nat.not_lt_zero, if_false]
  split
  · simp [*]
  · split
    · simp [*]
    · rfl
theorem clL_free (AI : Nat → Nat → Int32) (AN : Nat → Nat → Nat) (AL : Nat → Nat → Int64) (no i : Nat) : m_free AI AN (clL AI AN AL no i) no i = m_free AI AN AL no i := by
  simp [m_free, clL, va_up]
theorem clL_s (AI : Nat → Nat → Int32) (AN : Nat → Nat → Nat) (AL : Nat → Nat → Int64) (no i : Nat) : clL AI AN AL no (i + 1) = va_up (va_up (clL AI AN AL no i) 2 (va_up (clL AI AN AL no i 2) i (m_carried (AI 1 i) (m_free AI AN AL no i) + m_enc AI AN no (nI i)))) 3 (va_up (clL AI AN AL no i 3) i 0) := by
  funext k j
  simp only [clL, va_up]
  by_cases h3 : k = 3
  · subst h3
    by_cases hj : j = i
    · subst hj; simp [va_up]
    · have e : (j < i + 1) ↔ (j < i) := by omega
      simp [hj, e, va_up]
  · by_cases h2 : k = 2
    · subst h2
      by_cases hj : j = i
      · subst hj; simp [va_up]
      · have e : (j < i + 1) ↔ (j < i) := by omega
        simp [hj, e, va_up]
    · simp [h2, h3]

theorem d_Mo_close_0 : decode b_Mo_close 0 = .ok (.aload_n 0, 1) := by decide +kernel
theorem d_Mo_close_1 : decode b_Mo_close 1 = .ok (.iconst 0, 1) := by decide +kernel
theorem d_Mo_close_2 : decode b_Mo_close 2 = .ok (.putfield 91, 3) := by decide +kernel
theorem d_Mo_close_5 : decode b_Mo_close 5 = .ok (.aload_n 0, 1) := by decide +kernel
theorem d_Mo_close_6 : decode b_Mo_close 6 = .ok (.getfield 88, 3) := by decide +kernel
theorem d_Mo_close_9 : decode b_Mo_close 9 = .ok (.sipush 9999, 3) := by decide +kernel
theorem d_Mo_close_12 : decode b_Mo_close 12 = .ok (.if_icmp .ne 6, 3) := by decide +kernel
theorem d_Mo_close_15 : decode b_Mo_close 15 = .ok (.bipush (-3), 2) := by decide +kernel
theorem d_Mo_close_17 : decode b_Mo_close 17 = .ok (.ireturn, 1) := by decide +kernel
theorem d_Mo_close_18 : decode b_Mo_close 18 = .ok (.iconst 0, 1) := by decide +kernel
theorem d_Mo_close_19 : decode b_Mo_close 19 = .ok (.istore_n 1, 1) := by decide +kernel
theorem d_Mo_close_20 : decode b_Mo_close 20 = .ok (.iload_n 1, 1) := by decide +kernel
theorem d_Mo_close_21 : decode b_Mo_close 21 = .ok (.aload_n 0, 1) := by decide +kernel
theorem d_Mo_close_22 : decode b_Mo_close 22 = .ok (.getfield 94, 3) := by decide +kernel
theorem d_Mo_close_25 : decode b_Mo_close 25 = .ok (.if_icmp .ge 76, 3) := by decide +kernel
theorem d_Mo_close_28 : decode b_Mo_close 28 = .ok (.aload_n 0, 1) := by decide +kernel
theorem d_Mo_close_29 : decode b_Mo_close 29 = .ok (.iload_n 1, 1) := by decide +kernel
theorem d_Mo_close_30 : decode b_Mo_close 30 = .ok (.invokevirtual 130, 3) := by decide +kernel
theorem d_Mo_close_33 : decode b_Mo_close 33 = .ok (.lstore_n 2, 1) := by decide +kernel
theorem d_Mo_close_34 : decode b_Mo_close 34 = .ok (.lload_n 2, 1) := by decide +kernel
theorem d_Mo_close_35 : decode b_Mo_close 35 = .ok (.lconst 0, 1) := by decide +kernel
theorem d_Mo_close_36 : decode b_Mo_close 36 = .ok (.lcmp, 1) := by decide +kernel
theorem d_Mo_close_37 : decode b_Mo_close 37 = .ok (.ifCond .lt 12, 3) := by decide +kernel
theorem d_Mo_close_40 : decode b_Mo_close 40 = .ok (.aload_n 0, 1) := by decide +kernel
theorem d_Mo_close_41 : decode b_Mo_close 41 = .ok (.getfield 7, 3) := by decide +kernel
theorem d_Mo_close_44 : decode b_Mo_close 44 = .ok (.iload_n 1, 1) := by decide +kernel
theorem d_Mo_close_45 : decode b_Mo_close 45 = .ok (.iaload, 1) := by decide +kernel
theorem d_Mo_close_46 : decode b_Mo_close 46 = .ok (.ifCond .ne 7, 3) := by decide +kernel
theorem d_Mo_close_49 : decode b_Mo_close 49 = .ok (.lconst 0, 1) := by decide +kernel
theorem d_Mo_close_50 : decode b_Mo_close 50 = .ok (.goto 22, 3) := by decide +kernel
theorem d_Mo_close_53 : decode b_Mo_close 53 = .ok (.aload_n 0, 1) := by decide +kernel
theorem d_Mo_close_54 : decode b_Mo_close 54 = .ok (.getfield 7, 3) := by decide +kernel
theorem d_Mo_close_57 : decode b_Mo_close 57 = .ok (.iload_n 1, 1) := by decide +kernel
theorem d_Mo_close_58 : decode b_Mo_close 58 = .ok (.iaload, 1) := by decide +kernel
theorem d_Mo_close_59 : decode b_Mo_close 59 = .ok (.iconst 1, 1) := by decide +kernel
theorem d_Mo_close_60 : decode b_Mo_close 60 = .ok (.if_icmp .ne 7, 3) := by decide +kernel
theorem d_Mo_close_63 : decode b_Mo_close 63 = .ok (.lload_n 2, 1) := by decide +kernel
theorem d_Mo_close_64 : decode b_Mo_close 64 = .ok (.goto 8, 3) := by decide +kernel
theorem d_Mo_close_67 : decode b_Mo_close 67 = .ok (.lload_n 2, 1) := by decide +kernel
theorem d_Mo_close_68 : decode b_Mo_close 68 = .ok (.ldc2_w 116, 3) := by decide +kernel
theorem d_Mo_close_71 : decode b_Mo_close 71 = .ok (.ldiv, 1) := by decide +kernel
theorem d_Mo_close_72 : decode b_Mo_close 72 = .ok (.lstore 4, 2) := by decide +kernel
theorem d_Mo_close_74 : decode b_Mo_close 74 = .ok (.aload_n 0, 1) := by decide +kernel
theorem d_Mo_close_75 : decode b_Mo_close 75 = .ok (.getfield 13, 3) := by decide +kernel
theorem d_Mo_close_78 : decode b_Mo_close 78 = .ok (.iload_n 1, 1) := by decide +kernel
theorem d_Mo_close_79 : decode b_Mo_close 79 = .ok (.lload 4, 2) := by decide +kernel
theorem d_Mo_close_81 : decode b_Mo_close 81 = .ok (.aload_n 0, 1) := by decide +kernel
theorem d_Mo_close_82 : decode b_Mo_close 82 = .ok (.iload_n 1, 1) := by decide +kernel
theorem d_Mo_close_83 : decode b_Mo_close 83 = .ok (.invokevirtual 104, 3) := by decide +kernel
theorem d_Mo_close_86 : decode b_Mo_close 86 = .ok (.ladd, 1) := by decide +kernel
theorem d_Mo_close_87 : decode b_Mo_close 87 = .ok (.lastore, 1) := by decide +kernel
theorem d_Mo_close_88 : decode b_Mo_close 88 = .ok (.aload_n 0, 1) := by decide +kernel
theorem d_Mo_close_89 : decode b_Mo_close 89 = .ok (.getfield 17, 3) := by decide +kernel
theorem d_Mo_close_92 : decode b_Mo_close 92 = .ok (.iload_n 1, 1) := by decide +kernel
theorem d_Mo_close_93 : decode b_Mo_close 93 = .ok (.lconst 0, 1) := by decide +kernel
theorem d_Mo_close_94 : decode b_Mo_close 94 = .ok (.lastore, 1) := by decide +kernel
theorem d_Mo_close_95 : decode b_Mo_close 95 = .ok (.iinc 1 1, 3) := by decide +kernel
theorem d_Mo_close_98 : decode b_Mo_close 98 = .ok (.goto (-78), 3) := by decide +kernel
theorem d_Mo_close_101 : decode b_Mo_close 101 = .ok (.aload_n 0, 1) := by decide +kernel
theorem d_Mo_close_102 : decode b_Mo_close 102 = .ok (.dup, 1) := by decide +kernel
theorem d_Mo_close_103 : decode b_Mo_close 103 = .ok (.getfield 88, 3) := by decide +kernel
theorem d_Mo_close_106 : decode b_Mo_close 106 = .ok (.iconst 1, 1) := by decide +kernel
theorem d_Mo_close_107 : decode b_Mo_close 107 = .ok (.iadd, 1) := by decide +kernel
theorem d_Mo_close_108 : decode b_Mo_close 108 = .ok (.putfield 88, 3) := by decide +kernel
theorem d_Mo_close_111 : decode b_Mo_close 111 = .ok (.aload_n 0, 1) := by decide +kernel
theorem d_Mo_close_112 : decode b_Mo_close 112 = .ok (.getfield 88, 3) := by decide +kernel
theorem d_Mo_close_115 : decode b_Mo_close 115 = .ok (.ireturn, 1) := by decide +kernel
set_option maxHeartbeats 4000000 in
set_option maxRecDepth 100000 in
theorem lp_Mo_close {p : Program} {l : Launch} {e : Env} {s : State} {m : MethodId} {args : Array Value} {below : List Frame} {meth : Method} {c : Code} {Q : State → Prop} {A : Nat → Prop} {H0 : Heap} {dC : Nat → ClassId} {dI : Nat → Nat → Nat} {ad : Nat → Nat} {cA : Nat → ClassId} {th yr : Int32} {nf no nt : Nat} {bd : Int32} {nb : Nat} {fl : Int32} {AI : Nat → Nat → Int32} {AN : Nat → Nat → Nat} {AB : Nat → Nat → Bool} {AL : Nat → Nat → Int64} (hx : p.tables.exec = Jvm.exec) (hb : c.code = b_Mo_close) (hml : c.maxLocals = 6) (hown : s.vm.findClass R_Mo = some m.cls) (hts : ∀ w ∈ w_Mo_close, w.before args s = true) (hK : va_K (dC, dI) classes (mtys cA) s) (hN : NK s) (hnf : nf ≤ 30) (hno : no ≤ 300)
    (exit : ∀ (H : Heap) (locs : List Loc) (ls : Array Slot), va_P (dC, dI) classes (mw ad cA th yr nf no nt bd nb fl AI AN AB (clL AI AN AL no nf)) H → va_D A (mw ad cA th yr nf no nt bd nb fl AI AN AB (clL AI AN AL no nf)) → va_S A H0 H locs → lv_has ls 6 [(1, .int (nI nf)), (0, .ref (ad 0))] → W p l e { frames := 2, cells := 0, slots := 0, locals := 45 } s m args below meth c H locs 0 0 Q (F0 m 101 ls [])) :
    ∀ (n i : Nat), i ≤ nf → nf + 1 ≤ i + n → ∀ (H : Heap) (locs : List Loc) (ls : Array Slot), va_P (dC, dI) classes (mw ad cA th yr nf no nt bd nb fl AI AN AB (clL AI AN AL no i)) H → va_D A (mw ad cA th yr nf no nt bd nb fl AI AN AB (clL AI AN AL no i)) → va_S A H0 H locs → lv_has ls 6 [(1, .int (nI i)), (0, .ref (ad 0))] → W p l e { frames := 2, cells := 0, slots := 0, locals := 45 } s m args below meth c H locs 0 0 Q (F0 m 20 ls []) := by
  have hG := fun (w : Cond) (h : w ∈ wG) => hts w (List.mem_cons_of_mem _ h)
  intro n
  induction n with
  | zero =>
    intro i h1 h2
    omega
  | succ n ih =>
    intro i hi hin H locs ls hP hD hS hl
    refine lv_iload_n hx hb d_Mo_close_20 rfl (lv_at hl 0 rfl) ?_
    refine lv_aload_n hx hb d_Mo_close_21 rfl (lv_at hl 1 rfl) ?_
    refine va_get (D := (dC, dI)) (ci := 7) (v := .int (nI nf)) (C := R_Mo) (T := F_Mo) (N := 31) hx hb hG iG_Mo hown hK hP 0 rfl rfl 2 (by decide) (hG _ k_525) (fun _ h9 => h9) rfl d_Mo_close_22 ?_
    refine lv_icmp_ge (tgt := 101) hx hb d_Mo_close_25 (by decide) (fun c_1 => ?_) (fun c_1 => ?_)
    · obtain rfl : i = nf := by have := (nI_leI (by omega) (by omega)).mp c_1; omega
      exact exit H locs ls hP hD hS (lv_sub hl [0, 1] rfl)
    · have hlt : i < nf := by have h9 := c_1; rw [nI_leI (by omega) (by omega)] at h9; omega
      refine lv_aload_n hx hb d_Mo_close_28 rfl (lv_at hl 1 rfl) ?_
      refine lv_iload_n hx hb d_Mo_close_29 rfl (lv_at hl 0 rfl) ?_
      refine rd_calll (va_runV (As := [.int (nI i)]) (rest := []) ⟨hx, hb, hml, hown, hts⟩ (c_Mo_free l dC dI ad cA th yr nf no nt bd nb fl AI AN AB (clL AI AN AL no i) i hno (by omega)) (cwV 1 hts (gd_V k_659 k_661 k_10 k_17 k_662) rfl rfl rfl (by decide +kernel) ⟨Nat.le_of_ble_eq_true rfl, Nat.le_of_ble_eq_true rfl⟩) (rd_preV 0 hK hN hP rfl rfl) rfl rfl hl.1 rfl (lv_room (Nat.le_of_ble_eq_true rfl)) d_Mo_close_30 ⟨Nat.zero_le _, Nat.zero_le _⟩) (fun r_2 hr_2 => ?_)
      subst hr_2
      refine lv_topL (y := m_free AI AN AL no i) (clL_free AI AN AL no i) ?_
      refine lv_lstore_n (lv' := [(2, .long (m_free AI AN AL no i)), (1, .int (nI i)), (0, .ref (ad 0))]) hx hb d_Mo_close_33 rfl hl (by decide) rfl (fun ls hl => ?_)
      refine lv_lload_n hx hb d_Mo_close_34 rfl (lv_at hl 0 rfl) ?_
      refine lv_lconst (v := 0) hx hb d_Mo_close_35 (by decide) ?_
      refine lc_lt (tgt := 49) hx hb d_Mo_close_36 d_Mo_close_37 (by decide) (fun c_3 => ?_) (fun c_3 => ?_)
      · refine lv_lconst (v := 0) hx hb d_Mo_close_49 (by decide) ?_
        refine lv_goto (tgt := 72) hx hb d_Mo_close_50 (by decide) ?_
        refine lv_topL (y := m_carried (AI 1 i) (m_free AI AN AL no i)) (by simp [m_carried, c_3]) ?_
        refine lv_lstore (lv' := [(4, .long (m_carried (AI 1 i) (m_free AI AN AL no i))), (2, .long (m_free AI AN AL no i)), (1, .int (nI i)), (0, .ref (ad 0))]) hx hb d_Mo_close_72 hl (by decide) rfl (fun ls hl => ?_)
        refine lv_aload_n hx hb d_Mo_close_74 rfl (lv_at hl 3 rfl) ?_
        refine va_get (D := (dC, dI)) (ci := 7) (v := .ref (ad 2)) (C := R_Mo) (T := F_Mo) (N := 31) hx hb hG iG_Mo hown hK hP 0 rfl rfl 4 (by decide) (hG _ k_527) (fun _ h9 => h9) rfl d_Mo_close_75 ?_
        refine lv_iload_n hx hb d_Mo_close_78 rfl (lv_at hl 2 rfl) ?_
        refine lv_lload hx hb d_Mo_close_79 (lv_at hl 0 rfl) ?_
        refine lv_aload_n hx hb d_Mo_close_81 rfl (lv_at hl 3 rfl) ?_
        refine lv_iload_n hx hb d_Mo_close_82 rfl (lv_at hl 2 rfl) ?_
        refine rd_calll (va_runV (As := [.int (nI i)]) (rest := [.long (m_carried (AI 1 i) (m_free AI AN AL no i)), .int (nI i), .ref (ad 2)]) ⟨hx, hb, hml, hown, hts⟩ (c_Mo_encumbered l dC dI ad cA th yr nf no nt bd nb fl AI AN AB (clL AI AN AL no i) (nI i) hno) (cwV 1 hts (gd_V k_645 k_647 k_9 k_17 k_648) rfl rfl rfl (by decide +kernel) ⟨Nat.le_of_ble_eq_true rfl, Nat.le_of_ble_eq_true rfl⟩) (rd_preV 0 hK hN hP rfl rfl) rfl rfl hl.1 rfl (lv_room (Nat.le_of_ble_eq_true rfl)) d_Mo_close_83 ⟨Nat.zero_le _, Nat.zero_le _⟩) (fun r_4 hr_4 => ?_)
        subst hr_4
        refine lv_ladd hx hb d_Mo_close_86 ?_
        refine ra_last (n := 30) (j := i) (f := (clL AI AN AL no i) 2) hx hb hK hP hD hS 2 1 rfl rfl (by omega) (by decide) d_Mo_close_87 (fun H locs hP hD hS => ?_)
        have hP : va_P (dC, dI) classes (mw ad cA th yr nf no nt bd nb fl AI AN AB (va_up (clL AI AN AL no i) 2 (va_up ((clL AI AN AL no i) 2) i (m_carried (AI 1 i) (m_free AI AN AL no i) + (m_enc AI AN no (nI i)))))) H := hP
        have hD : va_D A (mw ad cA th yr nf no nt bd nb fl AI AN AB (va_up (clL AI AN AL no i) 2 (va_up ((clL AI AN AL no i) 2) i (m_carried (AI 1 i) (m_free AI AN AL no i) + (m_enc AI AN no (nI i)))))) := hD
        refine lv_aload_n hx hb d_Mo_close_88 rfl (lv_at hl 3 rfl) ?_
        refine va_get (D := (dC, dI)) (ci := 7) (v := .ref (ad 3)) (C := R_Mo) (T := F_Mo) (N := 31) hx hb hG iG_Mo hown hK hP 0 rfl rfl 5 (by decide) (hG _ k_528) (fun _ h9 => h9) rfl d_Mo_close_89 ?_
        refine lv_iload_n hx hb d_Mo_close_92 rfl (lv_at hl 2 rfl) ?_
        refine lv_lconst (v := 0) hx hb d_Mo_close_93 (by decide) ?_
        refine ra_last (n := 30) (j := i) (f := (clL AI AN AL no i) 3) hx hb hK hP hD hS 3 2 rfl rfl (by omega) (by decide) d_Mo_close_94 (fun H locs hP hD hS => ?_)
        have hP : va_P (dC, dI) classes (mw ad cA th yr nf no nt bd nb fl AI AN AB (va_up (va_up (clL AI AN AL no i) 2 (va_up ((clL AI AN AL no i) 2) i (m_carried (AI 1 i) (m_free AI AN AL no i) + (m_enc AI AN no (nI i))))) 3 (va_up ((clL AI AN AL no i) 3) i 0))) H := hP
        have hD : va_D A (mw ad cA th yr nf no nt bd nb fl AI AN AB (va_up (va_up (clL AI AN AL no i) 2 (va_up ((clL AI AN AL no i) 2) i (m_carried (AI 1 i) (m_free AI AN AL no i) + (m_enc AI AN no (nI i))))) 3 (va_up ((clL AI AN AL no i) 3) i 0))) := hD
        refine lv_iinc (v := nI (i + 1)) (lv' := [(1, .int (nI (i + 1))), (4, .long (m_carried (AI 1 i) (m_free AI AN AL no i))), (2, .long (m_free AI AN AL no i)), (0, .ref (ad 0))]) hx hb d_Mo_close_95 hl (k := 2) rfl (nI_1 i) (by decide) rfl (fun ls hl => ?_)
        refine lv_goto (tgt := 20) hx hb d_Mo_close_98 (by decide) ?_
        exact ih (i + 1) (by omega) (by omega) H locs ls (by rw [clL_s]; exact hP) (by rw [clL_s]; exact hD) hS (lv_sub hl [0, 3] rfl)
      · refine lv_aload_n hx hb d_Mo_close_40 rfl (lv_at hl 2 rfl) ?_
        refine va_get (D := (dC, dI)) (ci := 7) (v := .ref (ad 1)) (C := R_Mo) (T := F_Mo) (N := 31) hx hb hG iG_Mo hown hK hP 0 rfl rfl 3 (by decide) (hG _ k_526) (fun _ h9 => h9) rfl d_Mo_close_41 ?_
        refine lv_iload_n hx hb d_Mo_close_44 rfl (lv_at hl 1 rfl) ?_
        refine ra_iald (n := 30) (j := i) (f := AI 1) hx hb hK hP 1 0 rfl rfl (by omega) (by decide) d_Mo_close_45 ?_
        refine lv_if_ne (tgt := 53) hx hb d_Mo_close_46 (by decide) (fun c_5 => ?_) (fun c_5 => ?_)
        · refine lv_aload_n hx hb d_Mo_close_53 rfl (lv_at hl 2 rfl) ?_
          refine va_get (D := (dC, dI)) (ci := 7) (v := .ref (ad 1)) (C := R_Mo) (T := F_Mo) (N := 31) hx hb hG iG_Mo hown hK hP 0 rfl rfl 3 (by decide) (hG _ k_526) (fun _ h9 => h9) rfl d_Mo_close_54 ?_
          refine lv_iload_n hx hb d_Mo_close_57 rfl (lv_at hl 1 rfl) ?_
          refine ra_iald (n := 30) (j := i) (f := AI 1) hx hb hK hP 1 0 rfl rfl (by omega) (by decide) d_Mo_close_58 ?_
          refine lv_iconst (v := 1) hx hb d_Mo_close_59 (by decide) ?_
          refine lv_icmp_ne (tgt := 67) hx hb d_Mo_close_60 (by decide) (fun c_6 => ?_) (fun c_6 => ?_)
          · refine lv_lload_n hx hb d_Mo_close_67 rfl (lv_at hl 0 rfl) ?_
            refine lv_ldc2 (own := R_Mo) (v := 2) hx hb hown (hG _ k_628) d_Mo_close_68 ?_
            refine lv_ldiv hx hb d_Mo_close_71 (by decide) ?_
            refine lv_topL (y := m_carried (AI 1 i) (m_free AI AN AL no i)) (by simp [m_carried, c_3, c_5, c_6]) ?_
            refine lv_lstore (lv' := [(4, .long (m_carried (AI 1 i) (m_free AI AN AL no i))), (2, .long (m_free AI AN AL no i)), (1, .int (nI i)), (0, .ref (ad 0))]) hx hb d_Mo_close_72 hl (by decide) rfl (fun ls hl => ?_)
            refine lv_aload_n hx hb d_Mo_close_74 rfl (lv_at hl 3 rfl) ?_
            refine va_get (D := (dC, dI)) (ci := 7) (v := .ref (ad 2)) (C := R_Mo) (T := F_Mo) (N := 31) hx hb hG iG_Mo hown hK hP 0 rfl rfl 4 (by decide) (hG _ k_527) (fun _ h9 => h9) rfl d_Mo_close_75 ?_
            refine lv_iload_n hx hb d_Mo_close_78 rfl (lv_at hl 2 rfl) ?_
            refine lv_lload hx hb d_Mo_close_79 (lv_at hl 0 rfl) ?_
            refine lv_aload_n hx hb d_Mo_close_81 rfl (lv_at hl 3 rfl) ?_
            refine lv_iload_n hx hb d_Mo_close_82 rfl (lv_at hl 2 rfl) ?_
            refine rd_calll (va_runV (As := [.int (nI i)]) (rest := [.long (m_carried (AI 1 i) (m_free AI AN AL no i)), .int (nI i), .ref (ad 2)]) ⟨hx, hb, hml, hown, hts⟩ (c_Mo_encumbered l dC dI ad cA th yr nf no nt bd nb fl AI AN AB (clL AI AN AL no i) (nI i) hno) (cwV 1 hts (gd_V k_645 k_647 k_9 k_17 k_648) rfl rfl rfl (by decide +kernel) ⟨Nat.le_of_ble_eq_true rfl, Nat.le_of_ble_eq_true rfl⟩) (rd_preV 0 hK hN hP rfl rfl) rfl rfl hl.1 rfl (lv_room (Nat.le_of_ble_eq_true rfl)) d_Mo_close_83 ⟨Nat.zero_le _, Nat.zero_le _⟩) (fun r_7 hr_7 => ?_)
            subst hr_7
            refine lv_ladd hx hb d_Mo_close_86 ?_
            refine ra_last (n := 30) (j := i) (f := (clL AI AN AL no i) 2) hx hb hK hP hD hS 2 1 rfl rfl (by omega) (by decide) d_Mo_close_87 (fun H locs hP hD hS => ?_)
            have hP : va_P (dC, dI) classes (mw ad cA th yr nf no nt bd nb fl AI AN AB (va_up (clL AI AN AL no i) 2 (va_up ((clL AI AN AL no i) 2) i (m_carried (AI 1 i) (m_free AI AN AL no i) + (m_enc AI AN no (nI i)))))) H := hP
            have hD : va_D A (mw ad cA th yr nf no nt bd nb fl AI AN AB (va_up (clL AI AN AL no i) 2 (va_up ((clL AI AN AL no i) 2) i (m_carried (AI 1 i) (m_free AI AN AL no i) + (m_enc AI AN no (nI i)))))) := hD
            refine lv_aload_n hx hb d_Mo_close_88 rfl (lv_at hl 3 rfl) ?_
            refine va_get (D := (dC, dI)) (ci := 7) (v := .ref (ad 3)) (C := R_Mo) (T := F_Mo) (N := 31) hx hb hG iG_Mo hown hK hP 0 rfl rfl 5 (by decide) (hG _ k_528) (fun _ h9 => h9) rfl d_Mo_close_89 ?_
            refine lv_iload_n hx hb d_Mo_close_92 rfl (lv_at hl 2 rfl) ?_
            refine lv_lconst (v := 0) hx hb d_Mo_close_93 (by decide) ?_
            refine ra_last (n := 30) (j := i) (f := (clL AI AN AL no i) 3) hx hb hK hP hD hS 3 2 rfl rfl (by omega) (by decide) d_Mo_close_94 (fun H locs hP hD hS => ?_)
            have hP : va_P (dC, dI) classes (mw ad cA th yr nf no nt bd nb fl AI AN AB (va_up (va_up (clL AI AN AL no i) 2 (va_up ((clL AI AN AL no i) 2) i (m_carried (AI 1 i) (m_free AI AN AL no i) + (m_enc AI AN no (nI i))))) 3 (va_up ((clL AI AN AL no i) 3) i 0))) H := hP
            have hD : va_D A (mw ad cA th yr nf no nt bd nb fl AI AN AB (va_up (va_up (clL AI AN AL no i) 2 (va_up ((clL AI AN AL no i) 2) i (m_carried (AI 1 i) (m_free AI AN AL no i) + (m_enc AI AN no (nI i))))) 3 (va_up ((clL AI AN AL no i) 3) i 0))) := hD
            refine lv_iinc (v := nI (i + 1)) (lv' := [(1, .int (nI (i + 1))), (4, .long (m_carried (AI 1 i) (m_free AI AN AL no i))), (2, .long (m_free AI AN AL no i)), (0, .ref (ad 0))]) hx hb d_Mo_close_95 hl (k := 2) rfl (nI_1 i) (by decide) rfl (fun ls hl => ?_)
            refine lv_goto (tgt := 20) hx hb d_Mo_close_98 (by decide) ?_
            exact ih (i + 1) (by omega) (by omega) H locs ls (by rw [clL_s]; exact hP) (by rw [clL_s]; exact hD) hS (lv_sub hl [0, 3] rfl)
          · refine lv_lload_n hx hb d_Mo_close_63 rfl (lv_at hl 0 rfl) ?_
            refine lv_goto (tgt := 72) hx hb d_Mo_close_64 (by decide) ?_
            refine lv_topL (y := m_carried (AI 1 i) (m_free AI AN AL no i)) (by simp [m_carried, c_3, c_5, c_6]) ?_
            refine lv_lstore (lv' := [(4, .long (m_carried (AI 1 i) (m_free AI AN AL no i))), (2, .long (m_free AI AN AL no i)), (1, .int (nI i)), (0, .ref (ad 0))]) hx hb d_Mo_close_72 hl (by decide) rfl (fun ls hl => ?_)
            refine lv_aload_n hx hb d_Mo_close_74 rfl (lv_at hl 3 rfl) ?_
            refine va_get (D := (dC, dI)) (ci := 7) (v := .ref (ad 2)) (C := R_Mo) (T := F_Mo) (N := 31) hx hb hG iG_Mo hown hK hP 0 rfl rfl 4 (by decide) (hG _ k_527) (fun _ h9 => h9) rfl d_Mo_close_75 ?_
            refine lv_iload_n hx hb d_Mo_close_78 rfl (lv_at hl 2 rfl) ?_
            refine lv_lload hx hb d_Mo_close_79 (lv_at hl 0 rfl) ?_
            refine lv_aload_n hx hb d_Mo_close_81 rfl (lv_at hl 3 rfl) ?_
            refine lv_iload_n hx hb d_Mo_close_82 rfl (lv_at hl 2 rfl) ?_
            refine rd_calll (va_runV (As := [.int (nI i)]) (rest := [.long (m_carried (AI 1 i) (m_free AI AN AL no i)), .int (nI i), .ref (ad 2)]) ⟨hx, hb, hml, hown, hts⟩ (c_Mo_encumbered l dC dI ad cA th yr nf no nt bd nb fl AI AN AB (clL AI AN AL no i) (nI i) hno) (cwV 1 hts (gd_V k_645 k_647 k_9 k_17 k_648) rfl rfl rfl (by decide +kernel) ⟨Nat.le_of_ble_eq_true rfl, Nat.le_of_ble_eq_true rfl⟩) (rd_preV 0 hK hN hP rfl rfl) rfl rfl hl.1 rfl (lv_room (Nat.le_of_ble_eq_true rfl)) d_Mo_close_83 ⟨Nat.zero_le _, Nat.zero_le _⟩) (fun r_8 hr_8 => ?_)
            subst hr_8
            refine lv_ladd hx hb d_Mo_close_86 ?_
            refine ra_last (n := 30) (j := i) (f := (clL AI AN AL no i) 2) hx hb hK hP hD hS 2 1 rfl rfl (by omega) (by decide) d_Mo_close_87 (fun H locs hP hD hS => ?_)
            have hP : va_P (dC, dI) classes (mw ad cA th yr nf no nt bd nb fl AI AN AB (va_up (clL AI AN AL no i) 2 (va_up ((clL AI AN AL no i) 2) i (m_carried (AI 1 i) (m_free AI AN AL no i) + (m_enc AI AN no (nI i)))))) H := hP
            have hD : va_D A (mw ad cA th yr nf no nt bd nb fl AI AN AB (va_up (clL AI AN AL no i) 2 (va_up ((clL AI AN AL no i) 2) i (m_carried (AI 1 i) (m_free AI AN AL no i) + (m_enc AI AN no (nI i)))))) := hD
            refine lv_aload_n hx hb d_Mo_close_88 rfl (lv_at hl 3 rfl) ?_
            refine va_get (D := (dC, dI)) (ci := 7) (v := .ref (ad 3)) (C := R_Mo) (T := F_Mo) (N := 31) hx hb hG iG_Mo hown hK hP 0 rfl rfl 5 (by decide) (hG _ k_528) (fun _ h9 => h9) rfl d_Mo_close_89 ?_
            refine lv_iload_n hx hb d_Mo_close_92 rfl (lv_at hl 2 rfl) ?_
            refine lv_lconst (v := 0) hx hb d_Mo_close_93 (by decide) ?_
            refine ra_last (n := 30) (j := i) (f := (clL AI AN AL no i) 3) hx hb hK hP hD hS 3 2 rfl rfl (by omega) (by decide) d_Mo_close_94 (fun H locs hP hD hS => ?_)
            have hP : va_P (dC, dI) classes (mw ad cA th yr nf no nt bd nb fl AI AN AB (va_up (va_up (clL AI AN AL no i) 2 (va_up ((clL AI AN AL no i) 2) i (m_carried (AI 1 i) (m_free AI AN AL no i) + (m_enc AI AN no (nI i))))) 3 (va_up ((clL AI AN AL no i) 3) i 0))) H := hP
            have hD : va_D A (mw ad cA th yr nf no nt bd nb fl AI AN AB (va_up (va_up (clL AI AN AL no i) 2 (va_up ((clL AI AN AL no i) 2) i (m_carried (AI 1 i) (m_free AI AN AL no i) + (m_enc AI AN no (nI i))))) 3 (va_up ((clL AI AN AL no i) 3) i 0))) := hD
            refine lv_iinc (v := nI (i + 1)) (lv' := [(1, .int (nI (i + 1))), (4, .long (m_carried (AI 1 i) (m_free AI AN AL no i))), (2, .long (m_free AI AN AL no i)), (0, .ref (ad 0))]) hx hb d_Mo_close_95 hl (k := 2) rfl (nI_1 i) (by decide) rfl (fun ls hl => ?_)
            refine lv_goto (tgt := 20) hx hb d_Mo_close_98 (by decide) ?_
            exact ih (i + 1) (by omega) (by omega) H locs ls (by rw [clL_s]; exact hP) (by rw [clL_s]; exact hD) hS (lv_sub hl [0, 3] rfl)
        · refine lv_lconst (v := 0) hx hb d_Mo_close_49 (by decide) ?_
          refine lv_goto (tgt := 72) hx hb d_Mo_close_50 (by decide) ?_
          refine lv_topL (y := m_carried (AI 1 i) (m_free AI AN AL no i)) (by simp [m_carried, c_3, c_5]) ?_
          refine lv_lstore (lv' := [(4, .long (m_carried (AI 1 i) (m_free AI AN AL no i))), (2, .long (m_free AI AN AL no i)), (1, .int (nI i)), (0, .ref (ad 0))]) hx hb d_Mo_close_72 hl (by decide) rfl (fun ls hl => ?_)
          refine lv_aload_n hx hb d_Mo_close_74 rfl (lv_at hl 3 rfl) ?_
          refine va_get (D := (dC, dI)) (ci := 7) (v := .ref (ad 2)) (C := R_Mo) (T := F_Mo) (N := 31) hx hb hG iG_Mo hown hK hP 0 rfl rfl 4 (by decide) (hG _ k_527) (fun _ h9 => h9) rfl d_Mo_close_75 ?_
          refine lv_iload_n hx hb d_Mo_close_78 rfl (lv_at hl 2 rfl) ?_
          refine lv_lload hx hb d_Mo_close_79 (lv_at hl 0 rfl) ?_
          refine lv_aload_n hx hb d_Mo_close_81 rfl (lv_at hl 3 rfl) ?_
          refine lv_iload_n hx hb d_Mo_close_82 rfl (lv_at hl 2 rfl) ?_
          refine rd_calll (va_runV (As := [.int (nI i)]) (rest := [.long (m_carried (AI 1 i) (m_free AI AN AL no i)), .int (nI i), .ref (ad 2)]) ⟨hx, hb, hml, hown, hts⟩ (c_Mo_encumbered l dC dI ad cA th yr nf no nt bd nb fl AI AN AB (clL AI AN AL no i) (nI i) hno) (cwV 1 hts (gd_V k_645 k_647 k_9 k_17 k_648) rfl rfl rfl (by decide +kernel) ⟨Nat.le_of_ble_eq_true rfl, Nat.le_of_ble_eq_true rfl⟩) (rd_preV 0 hK hN hP rfl rfl) rfl rfl hl.1 rfl (lv_room (Nat.le_of_ble_eq_true rfl)) d_Mo_close_83 ⟨Nat.zero_le _, Nat.zero_le _⟩) (fun r_9 hr_9 => ?_)
          subst hr_9
          refine lv_ladd hx hb d_Mo_close_86 ?_
          refine ra_last (n := 30) (j := i) (f := (clL AI AN AL no i) 2) hx hb hK hP hD hS 2 1 rfl rfl (by omega) (by decide) d_Mo_close_87 (fun H locs hP hD hS => ?_)
          have hP : va_P (dC, dI) classes (mw ad cA th yr nf no nt bd nb fl AI AN AB (va_up (clL AI AN AL no i) 2 (va_up ((clL AI AN AL no i) 2) i (m_carried (AI 1 i) (m_free AI AN AL no i) + (m_enc AI AN no (nI i)))))) H := hP
          have hD : va_D A (mw ad cA th yr nf no nt bd nb fl AI AN AB (va_up (clL AI AN AL no i) 2 (va_up ((clL AI AN AL no i) 2) i (m_carried (AI 1 i) (m_free AI AN AL no i) + (m_enc AI AN no (nI i)))))) := hD
          refine lv_aload_n hx hb d_Mo_close_88 rfl (lv_at hl 3 rfl) ?_
          refine va_get (D := (dC, dI)) (ci := 7) (v := .ref (ad 3)) (C := R_Mo) (T := F_Mo) (N := 31) hx hb hG iG_Mo hown hK hP 0 rfl rfl 5 (by decide) (hG _ k_528) (fun _ h9 => h9) rfl d_Mo_close_89 ?_
          refine lv_iload_n hx hb d_Mo_close_92 rfl (lv_at hl 2 rfl) ?_
          refine lv_lconst (v := 0) hx hb d_Mo_close_93 (by decide) ?_
          refine ra_last (n := 30) (j := i) (f := (clL AI AN AL no i) 3) hx hb hK hP hD hS 3 2 rfl rfl (by omega) (by decide) d_Mo_close_94 (fun H locs hP hD hS => ?_)
          have hP : va_P (dC, dI) classes (mw ad cA th yr nf no nt bd nb fl AI AN AB (va_up (va_up (clL AI AN AL no i) 2 (va_up ((clL AI AN AL no i) 2) i (m_carried (AI 1 i) (m_free AI AN AL no i) + (m_enc AI AN no (nI i))))) 3 (va_up ((clL AI AN AL no i) 3) i 0))) H := hP
          have hD : va_D A (mw ad cA th yr nf no nt bd nb fl AI AN AB (va_up (va_up (clL AI AN AL no i) 2 (va_up ((clL AI AN AL no i) 2) i (m_carried (AI 1 i) (m_free AI AN AL no i) + (m_enc AI AN no (nI i))))) 3 (va_up ((clL AI AN AL no i) 3) i 0))) := hD
          refine lv_iinc (v := nI (i + 1)) (lv' := [(1, .int (nI (i + 1))), (4, .long (m_carried (AI 1 i) (m_free AI AN AL no i))), (2, .long (m_free AI AN AL no i)), (0, .ref (ad 0))]) hx hb d_Mo_close_95 hl (k := 2) rfl (nI_1 i) (by decide) rfl (fun ls hl => ?_)
          refine lv_goto (tgt := 20) hx hb d_Mo_close_98 (by decide) ?_
          exact ih (i + 1) (by omega) (by omega) H locs ls (by rw [clL_s]; exact hP) (by rw [clL_s]; exact hD) hS (lv_sub hl [0, 3] rfl)
set_option maxHeartbeats 4000000 in
set_option maxRecDepth 100000 in
theorem c_Mo_close (l : Launch) (dC : Nat → ClassId) (dI : Nat → Nat → Nat) (ad : Nat → Nat) (cA : Nat → ClassId) (th yr : Int32) (nf no nt : Nat) (bd : Int32) (nb : Nat) (fl : Int32) (AI : Nat → Nat → Int32) (AN : Nat → Nat → Nat) (AB : Nat → Nat → Bool) (AL : Nat → Nat → Int64) (sz : Nat) (hI : InvM nf no nt nb AI AN) : Met l y_Mo_close w_Mo_close { frames := 2, cells := 0, slots := 0, locals := 45 } (mu_P (dC, dI) classes (mtys cA) (mw ad cA th yr nf no nt bd nb fl AI AN AB AL) sz [.ref (ad 0)]) (va_Qi (fun r u => (r, u) = m_close (th, yr, nf, no, nt, bd, nb, fl, AI, AN, AB, AL) ) (mu_B (dC, dI) classes (mtys cA) (va_A (mw ad cA th yr nf no nt bd nb fl AI AN AB AL) sz) (mwS ad cA)) (va_A (mw ad cA th yr nf no nt bd nb fl AI AN AB AL) sz)) 0 0 (va_A (mw ad cA th yr nf no nt bd nb fl AI AN AB AL) sz) := by
  refine Met.ofW (cc := b_Mo_close) (maxL := 6) (ret := (some .int)) (by decide) rfl ?_
  intro p e s m args below meth c s₁ B hml hv
  obtain ⟨rfl, hsz, hP, hK, hD0, hN⟩ := hv
  have hx := B.exec
  have hb := B.bytes
  have hr := B.returns
  have hts := atoms_spec (ws := w_Mo_close) B.pre
  have hG := fun (w : Cond) (h : w ∈ wG) => hts w (List.mem_cons_of_mem _ h)
  have hown : s.vm.findClass R_Mo = some m.cls := findClass_of_methodNamed B.named
  have hlocks := B.notSynchronized
  subst hsz
  have hD := hD0.self (sz := s.heap.size)
  generalize hAe : va_A (mw ad cA th yr nf no nt bd nb fl AI AN AB AL) s.heap.size = A at hD ⊢
  have hA : ∀ q : Nat, s.heap.size ≤ q → A q := fun q h => by rw [← hAe]; exact Or.inr h
  have hS : va_S A s.heap s.heap [] := va_S.rf
  have hP : va_P (dC, dI) classes (mw ad cA th yr nf no nt bd nb fl AI AN AB AL) s.heap := hP
  have hl := lv_entry ([.ref (ad 0)]) (n := 6) (Nat.le_of_ble_eq_true rfl)
  rw [lg_entry_eq]
  generalize (lg_sl ([.ref (ad 0)]) ++ List.replicate (6 - (lg_sl ([.ref (ad 0)])).length) Slot.unset).toArray = ls at hl ⊢
  have hl : lv_has ls 6 [(0, .ref (ad 0))] := hl
  obtain ⟨hnf, hno, hnt, hnb, hfu, hft, hbf, hrw, hce, hdn⟩ := id hI
  refine lv_aload_n hx hb d_Mo_close_0 rfl (lv_at hl 0 rfl) ?_
  refine lv_iconst (v := 0) hx hb d_Mo_close_1 (by decide) ?_
  refine va_put (D := (dC, dI)) (ci := 7) (v := .int 0) (ty := .int) (C := R_Mo) (T := F_Mo) (N := 31) hx hb hG iG_Mo t_Mo t_Mo_ok n_Mo hown hK hP hD hS 0 rfl rfl 0 (by decide) (hG _ k_523) (fun _ h9 => h9) rfl (by decide +kernel) rfl rfl (Nat.le_of_ble_eq_true rfl) d_Mo_close_2 (fun H locs hP hD hS => ?_)
  have hP : va_P (dC, dI) classes (mw ad cA 0 yr nf no nt bd nb fl AI AN AB AL) H := hP
  have hD : va_D A (mw ad cA 0 yr nf no nt bd nb fl AI AN AB AL) := hD
  refine lv_aload_n hx hb d_Mo_close_5 rfl (lv_at hl 0 rfl) ?_
  refine va_get (D := (dC, dI)) (ci := 7) (v := .int yr) (C := R_Mo) (T := F_Mo) (N := 31) hx hb hG iG_Mo hown hK hP 0 rfl rfl 1 (by decide) (hG _ k_524) (fun _ h9 => h9) rfl d_Mo_close_6 ?_
  refine lv_sipush (v := 9999) hx hb d_Mo_close_9 (by decide) ?_
  refine lv_icmp_ne (tgt := 18) hx hb d_Mo_close_12 (by decide) (fun c_1 => ?_) (fun c_1 => ?_)
  · refine lv_iconst (v := 0) hx hb d_Mo_close_18 (by decide) ?_
    refine lv_istore_n (lv' := [(1, .int 0), (0, .ref (ad 0))]) hx hb d_Mo_close_19 rfl hl (by decide) rfl (fun ls hl => ?_)
    refine lp_Mo_close (th := 0) hx hb hml hown hts hK hN hnf hno (fun H locs ls hP hD hS hl => ?_) (nf + 1) 0 (by omega) (by omega) H locs ls (by rw [clL_0]; exact hP) (by rw [clL_0]; exact hD) hS (lv_sub hl [0, 1] rfl)
    refine lv_aload_n hx hb d_Mo_close_101 rfl (lv_at hl 1 rfl) ?_
    refine lv_dup hx hb d_Mo_close_102 rfl ?_
    refine va_get (D := (dC, dI)) (ci := 7) (v := .int yr) (C := R_Mo) (T := F_Mo) (N := 31) hx hb hG iG_Mo hown hK hP 0 rfl rfl 1 (by decide) (hG _ k_524) (fun _ h9 => h9) rfl d_Mo_close_103 ?_
    refine lv_iconst (v := 1) hx hb d_Mo_close_106 (by decide) ?_
    refine lv_iadd hx hb d_Mo_close_107 ?_
    refine va_put (D := (dC, dI)) (ci := 7) (v := .int (yr + 1)) (ty := .int) (C := R_Mo) (T := F_Mo) (N := 31) hx hb hG iG_Mo t_Mo t_Mo_ok n_Mo hown hK hP hD hS 0 rfl rfl 1 (by decide) (hG _ k_524) (fun _ h9 => h9) rfl (by decide +kernel) rfl rfl (Nat.le_of_ble_eq_true rfl) d_Mo_close_108 (fun H locs hP hD hS => ?_)
    have hP : va_P (dC, dI) classes (mw ad cA 0 (yr + 1) nf no nt bd nb fl AI AN AB (clL AI AN AL no nf)) H := hP
    have hD : va_D A (mw ad cA 0 (yr + 1) nf no nt bd nb fl AI AN AB (clL AI AN AL no nf)) := hD
    refine lv_aload_n hx hb d_Mo_close_111 rfl (lv_at hl 1 rfl) ?_
    refine va_get (D := (dC, dI)) (ci := 7) (v := .int (yr + 1)) (C := R_Mo) (T := F_Mo) (N := 31) hx hb hG iG_Mo hown hK hP 0 rfl rfl 1 (by decide) (hG _ k_524) (fun _ h9 => h9) rfl d_Mo_close_112 ?_
    exact W.iret (v := (yr + 1)) hx hb hr (fun t ht hW => ⟨⟨_, (0, (yr + 1), nf, no, nt, bd, nb, fl, AI, AN, AB, (clL AI AN AL no nf)), rfl, (by simp [m_close, ixn, bI, c_1] <;> (repeat' apply And.intro) <;> rfl), by rw [ht]; exact hP, va_K.moved hW.alike hK, hD⟩, hS.F ht⟩) hS.2.2 d_Mo_close_115
  · refine lv_bipush (v := (-3)) hx hb d_Mo_close_15 (by decide) ?_
    exact W.iret (v := (-3)) hx hb hr (fun t ht hW => ⟨⟨_, (0, yr, nf, no, nt, bd, nb, fl, AI, AN, AB, AL), rfl, (by simp [m_close, ixn, bI, c_1] <;> (repeat' apply And.intro) <;> rfl), by rw [ht]; exact hP, va_K.moved hW.alike hK, hD⟩, hS.F ht⟩) hS.2.2 d_Mo_close_17
