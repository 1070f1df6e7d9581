theorem EM_0 {n : Nat → Nat} {ad : Nat → Nat → Nat} {e : Nat → Nat → va_E} {L : List Nat} {f : Nat → va_E} {cs : Nat → ClassId} {bl : Nat → Nat → Int64} {rx : Nat → Nat → Nat} {yr : Int32} {nf no nt : Nat} {bd : Int32} {nb : Nat} {fl : Int32} {AI : Nat → Nat → Int32} {AN : Nat → Nat → Nat} {AB : Nat → Nat → Bool} {AL : Nat → Nat → Int64} {pb : Bool} (hC : CP n ad e L f) (hR : SR n ad e cs bl rx yr nf no nt bd nb fl AI AN AB AL) : EM cs n ad e e nf no nb AI AN AL pb 0 L f := by
  obtain ⟨-, e00, e01, e02, e03, e04, e05, e06, e1, e2, e3, e4, e5, e6⟩ := hR
  refine ⟨hC, ?_, fun j hj => ?_, fun k j _ _ => rfl⟩
  · rw [e06]
    congr 6
    funext r
    simp only [Nat.zero_le, true_and]
  · rw [e1 j hj]
    simp [egv, epd, seen, Nat.zero_min]

theorem d_Ba_empty_0 : decode b_Ba_empty 0 = .ok (.iconst 0, 1) := by decide +kernel
theorem d_Ba_empty_1 : decode b_Ba_empty 1 = .ok (.istore_n 2, 1) := by decide +kernel
theorem d_Ba_empty_2 : decode b_Ba_empty 2 = .ok (.iload_n 2, 1) := by decide +kernel
theorem d_Ba_empty_3 : decode b_Ba_empty 3 = .ok (.aload_n 0, 1) := by decide +kernel
theorem d_Ba_empty_4 : decode b_Ba_empty 4 = .ok (.getfield 11, 3) := by decide +kernel
theorem d_Ba_empty_7 : decode b_Ba_empty 7 = .ok (.arraylength, 1) := by decide +kernel
theorem d_Ba_empty_8 : decode b_Ba_empty 8 = .ok (.if_icmp .ge 49, 3) := by decide +kernel
theorem d_Ba_empty_11 : decode b_Ba_empty 11 = .ok (.aload_n 0, 1) := by decide +kernel
theorem d_Ba_empty_12 : decode b_Ba_empty 12 = .ok (.getfield 11, 3) := by decide +kernel
theorem d_Ba_empty_15 : decode b_Ba_empty 15 = .ok (.iload_n 2, 1) := by decide +kernel
theorem d_Ba_empty_16 : decode b_Ba_empty 16 = .ok (.aaload, 1) := by decide +kernel
theorem d_Ba_empty_17 : decode b_Ba_empty 17 = .ok (.astore_n 3, 1) := by decide +kernel
theorem d_Ba_empty_18 : decode b_Ba_empty 18 = .ok (.aload_n 3, 1) := by decide +kernel
theorem d_Ba_empty_19 : decode b_Ba_empty 19 = .ok (.ifnull 32, 3) := by decide +kernel
theorem d_Ba_empty_22 : decode b_Ba_empty 22 = .ok (.iload_n 1, 1) := by decide +kernel
theorem d_Ba_empty_23 : decode b_Ba_empty 23 = .ok (.ifCond .eq 16, 3) := by decide +kernel
theorem d_Ba_empty_26 : decode b_Ba_empty 26 = .ok (.aload_n 3, 1) := by decide +kernel
theorem d_Ba_empty_27 : decode b_Ba_empty 27 = .ok (.dup, 1) := by decide +kernel
theorem d_Ba_empty_28 : decode b_Ba_empty 28 = .ok (.getfield 36, 3) := by decide +kernel
theorem d_Ba_empty_31 : decode b_Ba_empty 31 = .ok (.aload_n 3, 1) := by decide +kernel
theorem d_Ba_empty_32 : decode b_Ba_empty 32 = .ok (.getfield 25, 3) := by decide +kernel
theorem d_Ba_empty_35 : decode b_Ba_empty 35 = .ok (.ladd, 1) := by decide +kernel
theorem d_Ba_empty_36 : decode b_Ba_empty 36 = .ok (.putfield 36, 3) := by decide +kernel
theorem d_Ba_empty_39 : decode b_Ba_empty 39 = .ok (.aload_n 3, 1) := by decide +kernel
theorem d_Ba_empty_40 : decode b_Ba_empty 40 = .ok (.lconst 0, 1) := by decide +kernel
theorem d_Ba_empty_41 : decode b_Ba_empty 41 = .ok (.putfield 25, 3) := by decide +kernel
theorem d_Ba_empty_44 : decode b_Ba_empty 44 = .ok (.aload_n 0, 1) := by decide +kernel
theorem d_Ba_empty_45 : decode b_Ba_empty 45 = .ok (.getfield 11, 3) := by decide +kernel
theorem d_Ba_empty_48 : decode b_Ba_empty 48 = .ok (.iload_n 2, 1) := by decide +kernel
theorem d_Ba_empty_49 : decode b_Ba_empty 49 = .ok (.aconst_null, 1) := by decide +kernel
theorem d_Ba_empty_50 : decode b_Ba_empty 50 = .ok (.aastore, 1) := by decide +kernel
theorem d_Ba_empty_51 : decode b_Ba_empty 51 = .ok (.iinc 2 1, 3) := by decide +kernel
theorem d_Ba_empty_54 : decode b_Ba_empty 54 = .ok (.goto (-52), 3) := by decide +kernel
theorem d_Ba_empty_57 : decode b_Ba_empty 57 = .ok (.aload_n 0, 1) := by decide +kernel
theorem d_Ba_empty_58 : decode b_Ba_empty 58 = .ok (.iconst 0, 1) := by decide +kernel
theorem d_Ba_empty_59 : decode b_Ba_empty 59 = .ok (.putfield 17, 3) := by decide +kernel
theorem d_Ba_empty_62 : decode b_Ba_empty 62 = .ok (.aload_n 0, 1) := by decide +kernel
theorem d_Ba_empty_63 : decode b_Ba_empty 63 = .ok (.lconst 0, 1) := by decide +kernel
theorem d_Ba_empty_64 : decode b_Ba_empty 64 = .ok (.putfield 29, 3) := by decide +kernel
theorem d_Ba_empty_67 : decode b_Ba_empty 67 = .ok (.return_, 1) := by decide +kernel
set_option maxHeartbeats 4000000 in
set_option maxRecDepth 100000 in
theorem lp_Ba_empty {p : Program} {l : Launch} {e : Env} {s : State} {m : MethodId} {args : Array Value} {below : List Frame} {meth : Method} {c : Code} {Q : State → Prop} {A : Nat → Prop} {dC : Nat → ClassId} {dI : Nat → Nat → Nat} {cs : Nat → ClassId} {th yr : Int32} {nf no nt : Nat} {bd : Int32} {nb : Nat} {fl : Int32} {AI : Nat → Nat → Int32} {AN : Nat → Nat → Nat} {AB : Nat → Nat → Bool} {AL : Nat → Nat → Int64} {L : List Nat} {ad : Nat → Nat → Nat} {rx : Nat → Nat → Nat} {n : Nat → Nat} {bl : Nat → Nat → Int64} {eb : Nat → Nat → va_E} {pb : Bool} (hx : p.tables.exec = Jvm.exec) (hb : c.code = b_Ba_empty) (hml : c.maxLocals = 4) (hown : s.vm.findClass R_Ba = some m.cls) (hts : ∀ w ∈ w_Ba_empty, w.before args s = true) (hK : va_K (dC, dI) classes (ctys cs) s) (hN : NK s) (hA : ∀ q : Nat, s.heap.size ≤ q → A q) (n0 : n 0 = 7) (n1 : n 1 = nf) (hnb : nb ≤ 20) (hbf : ∀ r, r < nb → AN 22 r < nf) (h05 : eb 0 5 = .inr (6, [.ref (ad 0 6), .int (nI nb), .long (m_tot AI nb)]))
    (exit : ∀ (H : Heap) (locs : List Loc) (ls : Array Slot) (f : Nat → va_E) (e0 : Nat → Nat → va_E), EM cs n ad eb e0 nf no nb AI AN AL pb 20 L f → va_P (dC, dI) classes (va_pl L f) H → va_D A (va_pl L f) → va_S A s.heap H locs → lv_has ls 4 [(2, .int (nI 20)), (1, .int (bI pb)), (0, .ref (ad 0 5))] → W p l e { frames := 0, cells := 0, slots := 0, locals := 0 } s m args below meth c H locs 0 0 Q (F0 m 57 ls [])) :
    ∀ k9 i : Nat, i ≤ 20 → 20 + 1 ≤ i + k9 → ∀ (H : Heap) (locs : List Loc) (ls : Array Slot) (f : Nat → va_E) (e0 : Nat → Nat → va_E), EM cs n ad eb e0 nf no nb AI AN AL pb i L f → va_P (dC, dI) classes (va_pl L f) H → va_D A (va_pl L f) → va_S A s.heap H locs → lv_has ls 4 [(2, .int (nI i)), (1, .int (bI pb)), (0, .ref (ad 0 5))] → W p l e { frames := 0, cells := 0, slots := 0, locals := 0 } s m args below meth c H locs 0 0 Q (F0 m 2 ls []) := by
  have hG := fun (w : Cond) (h : w ∈ wG) => hts w (List.mem_cons_of_mem _ h)
  intro k9
  induction k9 with
  | zero =>
    intro i h1 h2
    omega
  | succ k9 ih =>
    intro i hi hin H locs ls f e0 hX hP hD hS hl
    obtain ⟨hC, h06, hac, hre⟩ := id hX
    have hm05 : ad 0 5 ∈ L := (hC.1 0 5 (by rw [n0]; decide)).1
    have he05 : f (ad 0 5) = .inr (6, [.ref (ad 0 6), .int (nI nb), .long (m_tot AI nb)]) := ((hC.1 0 5 (by rw [n0]; decide)).2.trans (hre 0 5 (by decide) (by decide))).trans h05
    have hm06 : ad 0 6 ∈ L := (hC.1 0 6 (by rw [n0]; decide)).1
    have he06 : f (ad 0 6) = .inl ((cs 4), 20, .inr (.inr (.inr (.inr (fun r => if i ≤ r ∧ r < nb then some (ad 1 (AN 22 r)) else none))))) := (hC.1 0 6 (by rw [n0]; decide)).2.trans h06
    refine lv_iload_n hx hb d_Ba_empty_2 rfl (lv_at hl 0 rfl) ?_
    refine lv_aload_n hx hb d_Ba_empty_3 rfl (lv_at hl 2 rfl) ?_
    refine fw_get (D := (dC, dI)) (ci := 6) (v := .ref (ad 0 6)) (C := R_Ba) (T := F_Ba) (N := 3) hx hb hG iG_Ba hown hK hP hm05 he05 rfl 0 (by decide) (hG _ k_50) (fun _ h9 => h9) rfl d_Ba_empty_4 ?_
    refine fw_alen (D := (dC, dI)) (v := nI 20) hx hb hK hP hm06 4 he06 rfl rfl d_Ba_empty_7 ?_
    refine lv_icmp_ge (tgt := 57) hx hb d_Ba_empty_8 (by decide) (fun c_1 => ?_) (fun c_1 => ?_)
    · obtain rfl : i = 20 := by have := (nI_leI (by omega) (by omega)).mp c_1; omega
      exact exit H locs ls f e0 hX hP hD hS (lv_sub hl [0, 1, 2] rfl)
    · have hlt : i < 20 := by have h9 := c_1; rw [nI_leI (by omega) (by omega)] at h9; omega
      refine lv_aload_n hx hb d_Ba_empty_11 rfl (lv_at hl 2 rfl) ?_
      refine fw_get (D := (dC, dI)) (ci := 6) (v := .ref (ad 0 6)) (C := R_Ba) (T := F_Ba) (N := 3) hx hb hG iG_Ba hown hK hP hm05 he05 rfl 0 (by decide) (hG _ k_50) (fun _ h9 => h9) rfl d_Ba_empty_12 ?_
      refine lv_iload_n hx hb d_Ba_empty_15 rfl (lv_at hl 0 rfl) ?_
      refine fw_ald (D := (dC, dI)) (C := "FundBook$Account") (n := 20) (g := (fun r => if i ≤ r ∧ r < nb then some (ad 1 (AN 22 r)) else none)) hx hb hK hP hm06 4 he06 rfl (vp_in_nI (by omega) (by omega)) d_Ba_empty_16 ?_
      rw [nI_clamp (by omega)]
      by_cases hj2 : i ≤ i ∧ i < nb
      · refine W.eq (g2 := F0 m 17 ls [.ref (ad 1 (AN 22 i))]) (congrArg (fun z => F0 m 17 ls [va_rf z]) (if_pos hj2)) ?_
        have hj : i < nb := hj2.2
        have hab := hbf i hj
        have hm_a : ad 1 (AN 22 i) ∈ L := (hC.1 1 (AN 22 i) (by rw [n1]; exact hab)).1
        have he_a : f (ad 1 (AN 22 i)) = .inr (1, [.int (nI (AN 22 i)), .int (AI 1 (AN 22 i)), .long (egv AI AN AL nb pb i (AN 22 i)), .long (m_enc AI AN no (nI (AN 22 i))), .long (AL 3 (AN 22 i)), .long (epd AI AN nb i (AN 22 i))]) := (hC.1 1 (AN 22 i) (by rw [n1]; exact hab)).2.trans (hac _ hab)
        refine lv_astore_n (lv' := [(3, .ref (ad 1 (AN 22 i))), (2, .int (nI i)), (1, .int (bI pb)), (0, .ref (ad 0 5))]) hx hb d_Ba_empty_17 rfl hl (by decide) rfl (fun ls hl => ?_)
        refine lv_aload_n hx hb d_Ba_empty_18 rfl (lv_at hl 0 rfl) ?_
        refine lv_ifnull hx hb d_Ba_empty_19 ?_
        refine lv_iload_n hx hb d_Ba_empty_22 rfl (lv_at hl 2 rfl) ?_
        refine lb_if_eq (tgt := 39) hx hb d_Ba_empty_23 (by decide) (fun c_2 => ?_) (fun c_2 => ?_)
        · refine lv_aload_n hx hb d_Ba_empty_39 rfl (lv_at hl 0 rfl) ?_
          refine lv_lconst (v := 0) hx hb d_Ba_empty_40 (by decide) ?_
          refine fw_putN (D := (dC, dI)) (ci := 1) (v := .long 0) (ty := .long) (C := R_Ac) (T := F_Ac) (N := 6) hx hb hG iG_Ac t_Ac t_Ac_ok n_Ac hown hK hP hD hS hm_a he_a rfl 5 (by decide) (hN.use k_127) (fun _ h9 => h9) rfl (by decide +kernel) rfl rfl (Nat.le_of_ble_eq_true rfl) d_Ba_empty_41 (fun H locs hP hD hS => ?_)
          obtain ⟨f_3, ef_3⟩ : ∃ z, z = va_up f (ad 1 (AN 22 i)) (.inr (1, [.int (nI (AN 22 i)), .int (AI 1 (AN 22 i)), .long (egv AI AN AL nb pb i (AN 22 i)), .long (m_enc AI AN no (nI (AN 22 i))), .long (AL 3 (AN 22 i)), .long 0])) := ⟨_, rfl⟩
          have he_4 : f_3 (ad 0 5) = .inr (6, [.ref (ad 0 6), .int (nI nb), .long (m_tot AI nb)]) := by rw [ef_3, va_up_ne _ _ (fw_ne he05 he_a (show (7 : Nat) ≠ 2 by decide))]; exact he05
          have he_5 : f_3 (ad 0 6) = .inl ((cs 4), 20, .inr (.inr (.inr (.inr (fun r => if i ≤ r ∧ r < nb then some (ad 1 (AN 22 r)) else none))))) := by rw [ef_3, va_up_ne _ _ (fw_ne he06 he_a (show (0 : Nat) ≠ 2 by decide))]; exact he06
          have he_6 : f_3 (ad 1 (AN 22 i)) = .inr (1, [.int (nI (AN 22 i)), .int (AI 1 (AN 22 i)), .long (egv AI AN AL nb pb i (AN 22 i)), .long (m_enc AI AN no (nI (AN 22 i))), .long (AL 3 (AN 22 i)), .long 0]) := by rw [ef_3]; exact va_up_self _ _ _
          have hP : va_P (dC, dI) classes (va_pl L f_3) H := by rw [ef_3]; exact hP
          have hD : va_D A (va_pl L f_3) := by rw [ef_3]; exact hD
          refine lv_aload_n hx hb d_Ba_empty_44 rfl (lv_at hl 3 rfl) ?_
          refine fw_get (D := (dC, dI)) (ci := 6) (v := .ref (ad 0 6)) (C := R_Ba) (T := F_Ba) (N := 3) hx hb hG iG_Ba hown hK hP hm05 he_4 rfl 0 (by decide) (hG _ k_50) (fun _ h9 => h9) rfl d_Ba_empty_45 ?_
          refine lv_iload_n hx hb d_Ba_empty_48 rfl (lv_at hl 1 rfl) ?_
          refine lv_null hx hb d_Ba_empty_49 ?_
          refine fw_astN (D := (dC, dI)) (C := "FundBook$Account") (n := 20) (g := (fun r => if i ≤ r ∧ r < nb then some (ad 1 (AN 22 r)) else none)) hx hb hK hP hD hS hm06 4 he_5 rfl (vp_in_nI (by omega) (by omega)) d_Ba_empty_50 (fun H locs hP hD hS => ?_)
          rw [nI_clamp (by omega)] at hP hD
          obtain ⟨f_7, ef_7⟩ : ∃ z, z = va_up f_3 (ad 0 6) (.inl ((cs 4), 20, .inr (.inr (.inr (.inr (va_up (fun r => if i ≤ r ∧ r < nb then some (ad 1 (AN 22 r)) else none) i none)))))) := ⟨_, rfl⟩
          have he_8 : f_7 (ad 0 5) = .inr (6, [.ref (ad 0 6), .int (nI nb), .long (m_tot AI nb)]) := by rw [ef_7, va_up_ne _ _ (fw_ne he_4 he_5 (show (7 : Nat) ≠ 0 by decide))]; exact he_4
          have he_9 : f_7 (ad 0 6) = .inl ((cs 4), 20, .inr (.inr (.inr (.inr (va_up (fun r => if i ≤ r ∧ r < nb then some (ad 1 (AN 22 r)) else none) i none))))) := by rw [ef_7]; exact va_up_self _ _ _
          have he_10 : f_7 (ad 1 (AN 22 i)) = .inr (1, [.int (nI (AN 22 i)), .int (AI 1 (AN 22 i)), .long (egv AI AN AL nb pb i (AN 22 i)), .long (m_enc AI AN no (nI (AN 22 i))), .long (AL 3 (AN 22 i)), .long 0]) := by rw [ef_7, va_up_ne _ _ (fw_ne he_6 he_5 (show (2 : Nat) ≠ 0 by decide))]; exact he_6
          have hP : va_P (dC, dI) classes (va_pl L f_7) H := by rw [ef_7]; exact hP
          have hD : va_D A (va_pl L f_7) := by rw [ef_7]; exact hD
          refine lv_iinc (v := nI (i + 1)) (lv' := [(2, .int (nI (i + 1))), (3, .ref (ad 1 (AN 22 i))), (1, .int (bI pb)), (0, .ref (ad 0 5))]) hx hb d_Ba_empty_51 hl (k := 1) rfl (nI_1 i) (by decide) rfl (fun ls hl => ?_)
          refine lv_goto (tgt := 2) hx hb d_Ba_empty_54 (by decide) ?_
          obtain ⟨e9, hX9⟩ := EM_step hX hj hbf n0 n1 (G := _) rfl
          rw [c_2] at hX9 hX
          simp only [Bool.false_eq_true, if_false] at hX9
          exact ih (i + 1) (by omega) (by omega) H locs ls f_7 e9 (by rw [c_2] at *; rw [ef_7, ef_3]; exact hX9) hP hD hS (lv_sub hl [0, 2, 3] rfl)
        · refine lv_aload_n hx hb d_Ba_empty_26 rfl (lv_at hl 0 rfl) ?_
          refine lv_dup hx hb d_Ba_empty_27 rfl ?_
          refine fw_getN (D := (dC, dI)) (ci := 1) (v := .long (egv AI AN AL nb pb i (AN 22 i))) (C := R_Ac) (T := F_Ac) (N := 6) hx hb hG iG_Ac hown hK hP hm_a he_a rfl 2 (by decide) (hN.use k_120) (fun _ h9 => h9) rfl d_Ba_empty_28 ?_
          refine lv_aload_n hx hb d_Ba_empty_31 rfl (lv_at hl 0 rfl) ?_
          refine fw_getN (D := (dC, dI)) (ci := 1) (v := .long (epd AI AN nb i (AN 22 i))) (C := R_Ac) (T := F_Ac) (N := 6) hx hb hG iG_Ac hown hK hP hm_a he_a rfl 5 (by decide) (hN.use k_127) (fun _ h9 => h9) rfl d_Ba_empty_32 ?_
          refine lv_ladd hx hb d_Ba_empty_35 ?_
          refine fw_putN (D := (dC, dI)) (ci := 1) (v := .long (egv AI AN AL nb pb i (AN 22 i) + epd AI AN nb i (AN 22 i))) (ty := .long) (C := R_Ac) (T := F_Ac) (N := 6) hx hb hG iG_Ac t_Ac t_Ac_ok n_Ac hown hK hP hD hS hm_a he_a rfl 2 (by decide) (hN.use k_120) (fun _ h9 => h9) rfl (by decide +kernel) rfl rfl (Nat.le_of_ble_eq_true rfl) d_Ba_empty_36 (fun H locs hP hD hS => ?_)
          obtain ⟨f_11, ef_11⟩ : ∃ z, z = va_up f (ad 1 (AN 22 i)) (.inr (1, [.int (nI (AN 22 i)), .int (AI 1 (AN 22 i)), .long (egv AI AN AL nb pb i (AN 22 i) + epd AI AN nb i (AN 22 i)), .long (m_enc AI AN no (nI (AN 22 i))), .long (AL 3 (AN 22 i)), .long (epd AI AN nb i (AN 22 i))])) := ⟨_, rfl⟩
          have he_12 : f_11 (ad 0 5) = .inr (6, [.ref (ad 0 6), .int (nI nb), .long (m_tot AI nb)]) := by rw [ef_11, va_up_ne _ _ (fw_ne he05 he_a (show (7 : Nat) ≠ 2 by decide))]; exact he05
          have he_13 : f_11 (ad 0 6) = .inl ((cs 4), 20, .inr (.inr (.inr (.inr (fun r => if i ≤ r ∧ r < nb then some (ad 1 (AN 22 r)) else none))))) := by rw [ef_11, va_up_ne _ _ (fw_ne he06 he_a (show (0 : Nat) ≠ 2 by decide))]; exact he06
          have he_14 : f_11 (ad 1 (AN 22 i)) = .inr (1, [.int (nI (AN 22 i)), .int (AI 1 (AN 22 i)), .long (egv AI AN AL nb pb i (AN 22 i) + epd AI AN nb i (AN 22 i)), .long (m_enc AI AN no (nI (AN 22 i))), .long (AL 3 (AN 22 i)), .long (epd AI AN nb i (AN 22 i))]) := by rw [ef_11]; exact va_up_self _ _ _
          have hP : va_P (dC, dI) classes (va_pl L f_11) H := by rw [ef_11]; exact hP
          have hD : va_D A (va_pl L f_11) := by rw [ef_11]; exact hD
          refine lv_aload_n hx hb d_Ba_empty_39 rfl (lv_at hl 0 rfl) ?_
          refine lv_lconst (v := 0) hx hb d_Ba_empty_40 (by decide) ?_
          refine fw_putN (D := (dC, dI)) (ci := 1) (v := .long 0) (ty := .long) (C := R_Ac) (T := F_Ac) (N := 6) hx hb hG iG_Ac t_Ac t_Ac_ok n_Ac hown hK hP hD hS hm_a he_14 rfl 5 (by decide) (hN.use k_127) (fun _ h9 => h9) rfl (by decide +kernel) rfl rfl (Nat.le_of_ble_eq_true rfl) d_Ba_empty_41 (fun H locs hP hD hS => ?_)
          obtain ⟨f_15, ef_15⟩ : ∃ z, z = va_up f_11 (ad 1 (AN 22 i)) (.inr (1, [.int (nI (AN 22 i)), .int (AI 1 (AN 22 i)), .long (egv AI AN AL nb pb i (AN 22 i) + epd AI AN nb i (AN 22 i)), .long (m_enc AI AN no (nI (AN 22 i))), .long (AL 3 (AN 22 i)), .long 0])) := ⟨_, rfl⟩
          have he_16 : f_15 (ad 0 5) = .inr (6, [.ref (ad 0 6), .int (nI nb), .long (m_tot AI nb)]) := by rw [ef_15, va_up_ne _ _ (fw_ne he_12 he_14 (show (7 : Nat) ≠ 2 by decide))]; exact he_12
          have he_17 : f_15 (ad 0 6) = .inl ((cs 4), 20, .inr (.inr (.inr (.inr (fun r => if i ≤ r ∧ r < nb then some (ad 1 (AN 22 r)) else none))))) := by rw [ef_15, va_up_ne _ _ (fw_ne he_13 he_14 (show (0 : Nat) ≠ 2 by decide))]; exact he_13
          have he_18 : f_15 (ad 1 (AN 22 i)) = .inr (1, [.int (nI (AN 22 i)), .int (AI 1 (AN 22 i)), .long (egv AI AN AL nb pb i (AN 22 i) + epd AI AN nb i (AN 22 i)), .long (m_enc AI AN no (nI (AN 22 i))), .long (AL 3 (AN 22 i)), .long 0]) := by rw [ef_15]; exact va_up_self _ _ _
          have hP : va_P (dC, dI) classes (va_pl L f_15) H := by rw [ef_15]; exact hP
          have hD : va_D A (va_pl L f_15) := by rw [ef_15]; exact hD
          refine lv_aload_n hx hb d_Ba_empty_44 rfl (lv_at hl 3 rfl) ?_
          refine fw_get (D := (dC, dI)) (ci := 6) (v := .ref (ad 0 6)) (C := R_Ba) (T := F_Ba) (N := 3) hx hb hG iG_Ba hown hK hP hm05 he_16 rfl 0 (by decide) (hG _ k_50) (fun _ h9 => h9) rfl d_Ba_empty_45 ?_
          refine lv_iload_n hx hb d_Ba_empty_48 rfl (lv_at hl 1 rfl) ?_
          refine lv_null hx hb d_Ba_empty_49 ?_
          refine fw_astN (D := (dC, dI)) (C := "FundBook$Account") (n := 20) (g := (fun r => if i ≤ r ∧ r < nb then some (ad 1 (AN 22 r)) else none)) hx hb hK hP hD hS hm06 4 he_17 rfl (vp_in_nI (by omega) (by omega)) d_Ba_empty_50 (fun H locs hP hD hS => ?_)
          rw [nI_clamp (by omega)] at hP hD
          obtain ⟨f_19, ef_19⟩ : ∃ z, z = va_up f_15 (ad 0 6) (.inl ((cs 4), 20, .inr (.inr (.inr (.inr (va_up (fun r => if i ≤ r ∧ r < nb then some (ad 1 (AN 22 r)) else none) i none)))))) := ⟨_, rfl⟩
          have he_20 : f_19 (ad 0 5) = .inr (6, [.ref (ad 0 6), .int (nI nb), .long (m_tot AI nb)]) := by rw [ef_19, va_up_ne _ _ (fw_ne he_16 he_17 (show (7 : Nat) ≠ 0 by decide))]; exact he_16
          have he_21 : f_19 (ad 0 6) = .inl ((cs 4), 20, .inr (.inr (.inr (.inr (va_up (fun r => if i ≤ r ∧ r < nb then some (ad 1 (AN 22 r)) else none) i none))))) := by rw [ef_19]; exact va_up_self _ _ _
          have he_22 : f_19 (ad 1 (AN 22 i)) = .inr (1, [.int (nI (AN 22 i)), .int (AI 1 (AN 22 i)), .long (egv AI AN AL nb pb i (AN 22 i) + epd AI AN nb i (AN 22 i)), .long (m_enc AI AN no (nI (AN 22 i))), .long (AL 3 (AN 22 i)), .long 0]) := by rw [ef_19, va_up_ne _ _ (fw_ne he_18 he_17 (show (2 : Nat) ≠ 0 by decide))]; exact he_18
          have hP : va_P (dC, dI) classes (va_pl L f_19) H := by rw [ef_19]; exact hP
          have hD : va_D A (va_pl L f_19) := by rw [ef_19]; exact hD
          refine lv_iinc (v := nI (i + 1)) (lv' := [(2, .int (nI (i + 1))), (3, .ref (ad 1 (AN 22 i))), (1, .int (bI pb)), (0, .ref (ad 0 5))]) hx hb d_Ba_empty_51 hl (k := 1) rfl (nI_1 i) (by decide) rfl (fun ls hl => ?_)
          refine lv_goto (tgt := 2) hx hb d_Ba_empty_54 (by decide) ?_
          obtain ⟨e9, hX9⟩ := EM_step hX hj hbf n0 n1 (G := _) rfl
          rw [c_2] at hX9 hX
          simp only [if_true] at hX9
          exact ih (i + 1) (by omega) (by omega) H locs ls f_19 e9 (by rw [c_2] at *; rw [ef_19, ef_15, ef_11, up_up]; exact hX9) hP hD hS (lv_sub hl [0, 2, 3] rfl)
      · refine W.eq (g2 := F0 m 17 ls [.null]) (congrArg (fun z => F0 m 17 ls [va_rf z]) (if_neg hj2)) ?_
        refine lv_astore_nN (lv' := [(3, .null), (2, .int (nI i)), (1, .int (bI pb)), (0, .ref (ad 0 5))]) hx hb d_Ba_empty_17 rfl hl (by decide) rfl (fun ls hl => ?_)
        refine lv_aload_nN hx hb d_Ba_empty_18 rfl (lv_at hl 0 rfl) ?_
        refine lv_ifnullN (tgt := 51) hx hb d_Ba_empty_19 (by decide) ?_
        refine lv_iinc (v := nI (i + 1)) (lv' := [(2, .int (nI (i + 1))), (3, .null), (1, .int (bI pb)), (0, .ref (ad 0 5))]) hx hb d_Ba_empty_51 hl (k := 1) rfl (nI_1 i) (by decide) rfl (fun ls hl => ?_)
        refine lv_goto (tgt := 2) hx hb d_Ba_empty_54 (by decide) ?_
        exact ih (i + 1) (by omega) (by omega) H locs ls f e0 (EM_same hX (by omega)) hP hD hS (lv_sub hl [0, 2, 3] rfl)
set_option maxHeartbeats 4000000 in
set_option maxRecDepth 100000 in
theorem c_Ba_empty (l : Launch) (dC : Nat → ClassId) (dI : Nat → Nat → Nat) (cs : Nat → ClassId) (th yr : Int32) (nf no nt : Nat) (bd : Int32) (nb : Nat) (fl : Int32) (AI : Nat → Nat → Int32) (AN : Nat → Nat → Nat) (AB : Nat → Nat → Bool) (AL : Nat → Nat → Int64) (L : List Nat) (f : Nat → va_E) (n : Nat → Nat) (ad : Nat → Nat → Nat) (e0 : Nat → Nat → va_E) (bl : Nat → Nat → Int64) (rx : Nat → Nat → Nat) (sz : Nat) (pb : Bool) (hC : CP n ad e0 L f) (hR : SR n ad e0 cs bl rx yr nf no nt bd nb fl AI AN AB AL) (hM : InvM nf no nt nb AI AN) (hB : InvB no nt AI AB bl) (hZ : InvS nf no nt yr AI AB AL) : Met l y_Ba_empty w_Ba_empty { frames := 0, cells := 0, slots := 0, locals := 0 } (mu_P (dC, dI) classes (ctys cs) (va_pl L f) sz [.ref (ad 0 5), .int (bI pb)]) (va_Qv (fun u => ∃ e', u.1 = L ∧ CX n ad e' bl rx cs yr nf no nt bd 0 fl AI AN AB (if pb = true then va_up AL 2 (m_posted AI AN (AL 2) nb) else AL) L u.2) (mu_B (dC, dI) classes (ctys cs) (va_A (va_pl L f) sz) fw_w) (va_A (va_pl L f) sz)) 0 0 (va_A (va_pl L f) sz) := by
  obtain ⟨⟨n0, n1, n2, n3, n4, n5⟩, e00, e01, e02, e03, e04, e05, e06, e1, e2, e3, e4, e5, e6⟩ := id hR
  obtain ⟨hnf, hno, hnt, hnb, hfu, hft, hbf, hrw, hce, hdn⟩ := id hM
  have hm00 : ad 0 0 ∈ L := (hC.1 0 0 (by rw [n0]; decide)).1
  have he00 : f (ad 0 0) = .inr (0, [.ref (ad 0 1), .ref (ad 0 2), .ref (ad 0 3), .ref (ad 0 4), .ref (ad 0 5), .int (nI nf), .int (nI no), .int (nI nt), .int yr, .int bd, .int fl]) := (hC.1 0 0 (by rw [n0]; decide)).2.trans e00
  have hm01 : ad 0 1 ∈ L := (hC.1 0 1 (by rw [n0]; decide)).1
  have he01 : f (ad 0 1) = .inl ((cs 0), 30, .inr (.inr (.inr (.inr (fun i => if i < nf then some (ad 1 i) else none))))) := (hC.1 0 1 (by rw [n0]; decide)).2.trans e01
  have hm02 : ad 0 2 ∈ L := (hC.1 0 2 (by rw [n0]; decide)).1
  have he02 : f (ad 0 2) = .inl ((cs 1), 300, .inr (.inr (.inr (.inr (fun i => if i < no then some (ad 2 i) else none))))) := (hC.1 0 2 (by rw [n0]; decide)).2.trans e02
  have hm03 : ad 0 3 ∈ L := (hC.1 0 3 (by rw [n0]; decide)).1
  have he03 : f (ad 0 3) = .inl ((cs 2), 100, .inr (.inr (.inr (.inr (fun i => if i < nt then some (ad 4 i) else none))))) := (hC.1 0 3 (by rw [n0]; decide)).2.trans e03
  have hm04 : ad 0 4 ∈ L := (hC.1 0 4 (by rw [n0]; decide)).1
  have he04 : f (ad 0 4) = .inl ((cs 3), 10, .inr (.inr (.inr (.inr (fun c => if AN 18 c = 0 then none else some (ad 6 (rx c (AN 18 c - 1)))))))) := (hC.1 0 4 (by rw [n0]; decide)).2.trans e04
  have hm05 : ad 0 5 ∈ L := (hC.1 0 5 (by rw [n0]; decide)).1
  have he05 : f (ad 0 5) = .inr (6, [.ref (ad 0 6), .int (nI nb), .long (m_tot AI nb)]) := (hC.1 0 5 (by rw [n0]; decide)).2.trans e05
  have hm06 : ad 0 6 ∈ L := (hC.1 0 6 (by rw [n0]; decide)).1
  have he06 : f (ad 0 6) = .inl ((cs 4), 20, .inr (.inr (.inr (.inr (fun r => if r < nb then some (ad 1 (AN 22 r)) else none))))) := (hC.1 0 6 (by rw [n0]; decide)).2.trans e06
  refine Met.ofW (cc := b_Ba_empty) (maxL := 4) (ret := none) (by decide) rfl ?_
  intro p e s m args below meth c s₁ B hml hv
  obtain ⟨rfl, hsz, hP, hK, hD0, hN⟩ := hv
  have hx := B.exec
  have hb := B.bytes
  have hr := B.returns
  have hts := atoms_spec (ws := w_Ba_empty) B.pre
  have hG := fun (w : Cond) (h : w ∈ wG) => hts w (List.mem_cons_of_mem _ h)
  have hown : s.vm.findClass R_Ba = some m.cls := findClass_of_methodNamed B.named
  have hlocks := B.notSynchronized
  subst hsz
  have hD := hD0.self (sz := s.heap.size)
  generalize hAe : va_A (va_pl L f) s.heap.size = A at hD ⊢
  have hA : ∀ q : Nat, s.heap.size ≤ q → A q := fun q h => by rw [← hAe]; exact Or.inr h
  have hS : va_S A s.heap s.heap [] := va_S.rf
  have hP : va_P (dC, dI) classes (va_pl L f) s.heap := hP
  have hl := lv_entry ([.ref (ad 0 5), .int (bI pb)]) (n := 4) (Nat.le_of_ble_eq_true rfl)
  rw [lg_entry_eq]
  generalize (lg_sl ([.ref (ad 0 5), .int (bI pb)]) ++ List.replicate (4 - (lg_sl ([.ref (ad 0 5), .int (bI pb)])).length) Slot.unset).toArray = ls at hl ⊢
  have hl : lv_has ls 4 [(0, .ref (ad 0 5)), (1, .int (bI pb))] := hl
  refine lv_iconst (v := 0) hx hb d_Ba_empty_0 (by decide) ?_
  refine lv_istore_n (lv' := [(2, .int 0), (0, .ref (ad 0 5)), (1, .int (bI pb))]) hx hb d_Ba_empty_1 rfl hl (by decide) rfl (fun ls hl => ?_)
  refine lp_Ba_empty (th := th) (yr := yr) (nf := nf) (no := no) (nt := nt) (bd := bd) (nb := nb) (fl := fl) (AI := AI) (AN := AN) (AB := AB) (AL := AL) (ad := ad) (rx := rx) (bl := bl) (eb := e0) (pb := pb) hx hb hml hown hts hK hN hA n0 n1 hnb hbf e05 (fun H locs ls f e1 hX hP hD hS hl => ?_) 21 0 (by omega) (by omega) _ _ ls f e0 (EM_0 hC hR) hP hD hS (lv_sub hl [0, 2, 1] rfl)
  have hmo : ad 0 5 ∈ L := (hX.1.1 0 5 (by rw [n0]; decide)).1
  have heo : f (ad 0 5) = .inr (6, [.ref (ad 0 6), .int (nI nb), .long (m_tot AI nb)]) := ((hX.1.1 0 5 (by rw [n0]; decide)).2.trans (hX.2.2.2 0 5 (by decide) (by decide))).trans e05
  refine lv_aload_n hx hb d_Ba_empty_57 rfl (lv_at hl 2 rfl) ?_
  refine lv_iconst (v := 0) hx hb d_Ba_empty_58 (by decide) ?_
  refine fw_put (D := (dC, dI)) (ci := 6) (v := .int 0) (ty := .int) (C := R_Ba) (T := F_Ba) (N := 3) hx hb hG iG_Ba t_Ba t_Ba_ok n_Ba hown hK hP hD hS hmo heo rfl 1 (by decide) (hG _ k_51) (fun _ h9 => h9) rfl (by decide +kernel) rfl rfl (Nat.le_of_ble_eq_true rfl) d_Ba_empty_59 (fun H locs hP hD hS => ?_)
  obtain ⟨f_1, ef_1⟩ : ∃ z, z = va_up f (ad 0 5) (.inr (6, [.ref (ad 0 6), .int 0, .long (m_tot AI nb)])) := ⟨_, rfl⟩
  have he_2 : f_1 (ad 0 5) = .inr (6, [.ref (ad 0 6), .int 0, .long (m_tot AI nb)]) := by rw [ef_1]; exact va_up_self _ _ _
  have hP : va_P (dC, dI) classes (va_pl L f_1) H := by rw [ef_1]; exact hP
  have hD : va_D A (va_pl L f_1) := by rw [ef_1]; exact hD
  refine lv_aload_n hx hb d_Ba_empty_62 rfl (lv_at hl 2 rfl) ?_
  refine lv_lconst (v := 0) hx hb d_Ba_empty_63 (by decide) ?_
  refine fw_put (D := (dC, dI)) (ci := 6) (v := .long 0) (ty := .long) (C := R_Ba) (T := F_Ba) (N := 3) hx hb hG iG_Ba t_Ba t_Ba_ok n_Ba hown hK hP hD hS hmo he_2 rfl 2 (by decide) (hG _ k_53) (fun _ h9 => h9) rfl (by decide +kernel) rfl rfl (Nat.le_of_ble_eq_true rfl) d_Ba_empty_64 (fun H locs hP hD hS => ?_)
  obtain ⟨f_3, ef_3⟩ : ∃ z, z = va_up f_1 (ad 0 5) (.inr (6, [.ref (ad 0 6), .int 0, .long 0])) := ⟨_, rfl⟩
  have he_4 : f_3 (ad 0 5) = .inr (6, [.ref (ad 0 6), .int 0, .long 0]) := by rw [ef_3]; exact va_up_self _ _ _
  have hP : va_P (dC, dI) classes (va_pl L f_3) H := by rw [ef_3]; exact hP
  have hD : va_D A (va_pl L f_3) := by rw [ef_3]; exact hD
  obtain ⟨e9, hX9⟩ := CX_empty hX hR hM hB hZ
  exact W.vret hx hb hr (fun t ht hW => ⟨⟨(L, f_3), rfl, ⟨e9, rfl, by rw [ef_3, ef_1, up_up]; exact hX9⟩, by rw [ht]; exact hP, va_K.moved hW.alike hK, hD⟩, hS.F ht⟩) hS.2.2 d_Ba_empty_67
