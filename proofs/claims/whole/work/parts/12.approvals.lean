theorem d_Ap_bitOf_0 : decode b_Ap_bitOf 0 = .ok (.lconst 1, 1) := by decide +kernel
theorem d_Ap_bitOf_1 : decode b_Ap_bitOf 1 = .ok (.iload_n 0, 1) := by decide +kernel
theorem d_Ap_bitOf_2 : decode b_Ap_bitOf 2 = .ok (.bipush 63, 2) := by decide +kernel
theorem d_Ap_bitOf_4 : decode b_Ap_bitOf 4 = .ok (.iand, 1) := by decide +kernel
theorem d_Ap_bitOf_5 : decode b_Ap_bitOf 5 = .ok (.lshl, 1) := by decide +kernel
theorem d_Ap_bitOf_6 : decode b_Ap_bitOf 6 = .ok (.lreturn, 1) := by decide +kernel
set_option maxHeartbeats 4000000 in
set_option maxRecDepth 100000 in
theorem c_Ap_bitOf (l : Launch) (dC : Nat → ClassId) (dI : Nat → Nat → Nat) (tys : List (ClassId × FieldType)) (ws : va_W) (pn : Int32) : Met l y_Ap_bitOf w_Ap_bitOf { frames := 0, cells := 0, slots := 0, locals := 0 } (rd_P (dC, dI) classes tys ws [.int pn]) (vp_Sl (fun r => r = bitO pn)) 0 0 (fun _ => False) := by
  refine Met.ofW (cc := b_Ap_bitOf) (maxL := 1) (ret := (some .long)) (by decide) rfl ?_
  intro p e s m args below meth c s₁ B hml hv
  obtain ⟨rfl, hP, hK, hN⟩ := hv
  have hx := B.exec
  have hb := B.bytes
  have hr := B.returns
  have hts := atoms_spec (ws := w_Ap_bitOf) B.pre
  have hG := fun (w : Cond) (h : w ∈ wG) => hts w (List.mem_cons_of_mem _ h)
  have hown : s.vm.findClass R_Ap = some m.cls := findClass_of_methodNamed B.named
  have hlocks := B.notSynchronized
  have hl := lv_entry ([.int pn]) (n := 1) (Nat.le_of_ble_eq_true rfl)
  rw [lg_entry_eq]
  generalize (lg_sl ([.int pn]) ++ List.replicate (1 - (lg_sl ([.int pn])).length) Slot.unset).toArray = ls at hl ⊢
  have hl : lv_has ls 1 [(0, .int pn)] := hl
  refine lv_lconst (v := 1) hx hb d_Ap_bitOf_0 (by decide) ?_
  refine lv_iload_n hx hb d_Ap_bitOf_1 rfl (lv_at hl 0 rfl) ?_
  refine lv_bipush (v := 63) hx hb d_Ap_bitOf_2 (by decide) ?_
  refine lv_iand hx hb d_Ap_bitOf_4 ?_
  refine lv_lshl hx hb d_Ap_bitOf_5 rfl ?_
  exact W.lret (v := (1 <<< ((pn &&& 63).toInt64 &&& 63))) hx hb hr (fun t ht hW => ⟨_, rfl, rfl, ht⟩) (fun q h => by cases h) d_Ap_bitOf_6

theorem d_Ap_include_0 : decode b_Ap_include 0 = .ok (.iload_n 1, 1) := by decide +kernel
theorem d_Ap_include_1 : decode b_Ap_include 1 = .ok (.bipush 64, 2) := by decide +kernel
theorem d_Ap_include_3 : decode b_Ap_include 3 = .ok (.if_icmp .ge 10, 3) := by decide +kernel
theorem d_Ap_include_6 : decode b_Ap_include 6 = .ok (.aload_n 0, 1) := by decide +kernel
theorem d_Ap_include_7 : decode b_Ap_include 7 = .ok (.getfield 9, 3) := by decide +kernel
theorem d_Ap_include_10 : decode b_Ap_include 10 = .ok (.goto 7, 3) := by decide +kernel
theorem d_Ap_include_13 : decode b_Ap_include 13 = .ok (.aload_n 0, 1) := by decide +kernel
theorem d_Ap_include_14 : decode b_Ap_include 14 = .ok (.getfield 13, 3) := by decide +kernel
theorem d_Ap_include_17 : decode b_Ap_include 17 = .ok (.lstore_n 2, 1) := by decide +kernel
theorem d_Ap_include_18 : decode b_Ap_include 18 = .ok (.lload_n 2, 1) := by decide +kernel
theorem d_Ap_include_19 : decode b_Ap_include 19 = .ok (.iload_n 1, 1) := by decide +kernel
theorem d_Ap_include_20 : decode b_Ap_include 20 = .ok (.invokestatic 16, 3) := by decide +kernel
theorem d_Ap_include_23 : decode b_Ap_include 23 = .ok (.land, 1) := by decide +kernel
theorem d_Ap_include_24 : decode b_Ap_include 24 = .ok (.lconst 0, 1) := by decide +kernel
theorem d_Ap_include_25 : decode b_Ap_include 25 = .ok (.lcmp, 1) := by decide +kernel
theorem d_Ap_include_26 : decode b_Ap_include 26 = .ok (.ifCond .eq 7, 3) := by decide +kernel
theorem d_Ap_include_29 : decode b_Ap_include 29 = .ok (.iconst 1, 1) := by decide +kernel
theorem d_Ap_include_30 : decode b_Ap_include 30 = .ok (.goto 4, 3) := by decide +kernel
theorem d_Ap_include_33 : decode b_Ap_include 33 = .ok (.iconst 0, 1) := by decide +kernel
theorem d_Ap_include_34 : decode b_Ap_include 34 = .ok (.ireturn, 1) := by decide +kernel
set_option maxHeartbeats 4000000 in
set_option maxRecDepth 100000 in
theorem c_Ap_include (l : Launch) (dC : Nat → ClassId) (dI : Nat → Nat → Nat) (tys : List (ClassId × FieldType)) (L : List Nat) (f : Nat → va_E) (q : Nat) (q_ct : Int32) (q_lo q_hi : Int64) (pn : Int32) (hm_q : q ∈ L) (he_q : f q = .inr (4, [.long q_lo, .long q_hi, .int q_ct])) : Met l y_Ap_include w_Ap_include { frames := 1, cells := 0, slots := 0, locals := 20 } (rd_P (dC, dI) classes tys (va_pl L f) [.ref q, .int pn]) (vp_Si (fun r => r = bI (decide (¬ (if 64 ≤ pn then q_hi else q_lo) &&& bitO pn = 0)))) 0 0 (fun _ => False) := by
  refine Met.ofW (cc := b_Ap_include) (maxL := 4) (ret := (some .boolean)) (by decide) rfl ?_
  intro p e s m args below meth c s₁ B hml hv
  obtain ⟨rfl, hP, hK, hN⟩ := hv
  have hx := B.exec
  have hb := B.bytes
  have hr := B.returns
  have hts := atoms_spec (ws := w_Ap_include) B.pre
  have hG := fun (w : Cond) (h : w ∈ wG) => hts w (List.mem_cons_of_mem _ h)
  have hown : s.vm.findClass R_Ap = some m.cls := findClass_of_methodNamed B.named
  have hlocks := B.notSynchronized
  have hl := lv_entry ([.ref q, .int pn]) (n := 4) (Nat.le_of_ble_eq_true rfl)
  rw [lg_entry_eq]
  generalize (lg_sl ([.ref q, .int pn]) ++ List.replicate (4 - (lg_sl ([.ref q, .int pn])).length) Slot.unset).toArray = ls at hl ⊢
  have hl : lv_has ls 4 [(0, .ref q), (1, .int pn)] := hl
  refine lv_iload_n hx hb d_Ap_include_0 rfl (lv_at hl 1 rfl) ?_
  refine lv_bipush (v := 64) hx hb d_Ap_include_1 (by decide) ?_
  refine lv_icmp_ge (tgt := 13) hx hb d_Ap_include_3 (by decide) (fun c_1 => ?_) (fun c_1 => ?_)
  · refine lv_aload_n hx hb d_Ap_include_13 rfl (lv_at hl 0 rfl) ?_
    refine fw_get (D := (dC, dI)) (ci := 4) (v := .long q_hi) (C := R_Ap) (T := F_Ap) (N := 3) hx hb hG iG_Ap hown hK hP hm_q he_q rfl 1 (by decide) (hG _ k_180) (fun _ h9 => h9) rfl d_Ap_include_14 ?_
    refine lv_lstore_n (lv' := [(2, .long q_hi), (0, .ref q), (1, .int pn)]) hx hb d_Ap_include_17 rfl hl (by decide) rfl (fun ls hl => ?_)
    refine lv_lload_n hx hb d_Ap_include_18 rfl (lv_at hl 0 rfl) ?_
    refine lv_iload_n hx hb d_Ap_include_19 rfl (lv_at hl 2 rfl) ?_
    refine rd_calll (va_runS (As := [.int pn]) (rest := [.long q_hi]) ⟨hx, hb, hml, hown, hts⟩ (c_Ap_bitOf l dC dI tys (va_pl L f) pn) (cwS 1 hts (gd_S k_240 k_241 k_20 k_242) rfl rfl rfl (by decide +kernel) ⟨Nat.le_of_ble_eq_true rfl, Nat.le_of_ble_eq_true rfl⟩) (rd_preS hK hN hP) rfl rfl hl.1 rfl (lv_room (Nat.le_of_ble_eq_true rfl)) d_Ap_include_20 ⟨Nat.zero_le _, Nat.zero_le _⟩) (fun r_2 hr_2 => ?_)
    subst hr_2
    refine lv_land hx hb d_Ap_include_23 ?_
    refine lv_lconst (v := 0) hx hb d_Ap_include_24 (by decide) ?_
    refine lc_eq (tgt := 33) hx hb d_Ap_include_25 d_Ap_include_26 (by decide) (fun c_3 => ?_) (fun c_3 => ?_)
    · refine lv_iconst (v := 0) hx hb d_Ap_include_33 (by decide) ?_
      exact W.zret (v := 0) (ty := .boolean) hx hb hr rfl (fun t ht hW => ⟨_, rfl, (by simp [bI, c_1, c_3]), ht⟩) (fun q h => by cases h) d_Ap_include_34
    · refine lv_iconst (v := 1) hx hb d_Ap_include_29 (by decide) ?_
      refine lv_goto (tgt := 34) hx hb d_Ap_include_30 (by decide) ?_
      exact W.zret (v := 1) (ty := .boolean) hx hb hr rfl (fun t ht hW => ⟨_, rfl, (by simp [bI, c_1, c_3]), ht⟩) (fun q h => by cases h) d_Ap_include_34
  · refine lv_aload_n hx hb d_Ap_include_6 rfl (lv_at hl 0 rfl) ?_
    refine fw_get (D := (dC, dI)) (ci := 4) (v := .long q_lo) (C := R_Ap) (T := F_Ap) (N := 3) hx hb hG iG_Ap hown hK hP hm_q he_q rfl 0 (by decide) (hG _ k_179) (fun _ h9 => h9) rfl d_Ap_include_7 ?_
    refine lv_goto (tgt := 17) hx hb d_Ap_include_10 (by decide) ?_
    refine lv_lstore_n (lv' := [(2, .long q_lo), (0, .ref q), (1, .int pn)]) hx hb d_Ap_include_17 rfl hl (by decide) rfl (fun ls hl => ?_)
    refine lv_lload_n hx hb d_Ap_include_18 rfl (lv_at hl 0 rfl) ?_
    refine lv_iload_n hx hb d_Ap_include_19 rfl (lv_at hl 2 rfl) ?_
    refine rd_calll (va_runS (As := [.int pn]) (rest := [.long q_lo]) ⟨hx, hb, hml, hown, hts⟩ (c_Ap_bitOf l dC dI tys (va_pl L f) pn) (cwS 1 hts (gd_S k_240 k_241 k_20 k_242) rfl rfl rfl (by decide +kernel) ⟨Nat.le_of_ble_eq_true rfl, Nat.le_of_ble_eq_true rfl⟩) (rd_preS hK hN hP) rfl rfl hl.1 rfl (lv_room (Nat.le_of_ble_eq_true rfl)) d_Ap_include_20 ⟨Nat.zero_le _, Nat.zero_le _⟩) (fun r_4 hr_4 => ?_)
    subst hr_4
    refine lv_land hx hb d_Ap_include_23 ?_
    refine lv_lconst (v := 0) hx hb d_Ap_include_24 (by decide) ?_
    refine lc_eq (tgt := 33) hx hb d_Ap_include_25 d_Ap_include_26 (by decide) (fun c_5 => ?_) (fun c_5 => ?_)
    · refine lv_iconst (v := 0) hx hb d_Ap_include_33 (by decide) ?_
      exact W.zret (v := 0) (ty := .boolean) hx hb hr rfl (fun t ht hW => ⟨_, rfl, (by simp [bI, c_1, c_5]), ht⟩) (fun q h => by cases h) d_Ap_include_34
    · refine lv_iconst (v := 1) hx hb d_Ap_include_29 (by decide) ?_
      refine lv_goto (tgt := 34) hx hb d_Ap_include_30 (by decide) ?_
      exact W.zret (v := 1) (ty := .boolean) hx hb hr rfl (fun t ht hW => ⟨_, rfl, (by simp [bI, c_1, c_5]), ht⟩) (fun q h => by cases h) d_Ap_include_34

theorem d_Ap_add_0 : decode b_Ap_add 0 = .ok (.iload_n 1, 1) := by decide +kernel
theorem d_Ap_add_1 : decode b_Ap_add 1 = .ok (.bipush 64, 2) := by decide +kernel
theorem d_Ap_add_3 : decode b_Ap_add 3 = .ok (.if_icmp .ge 19, 3) := by decide +kernel
theorem d_Ap_add_6 : decode b_Ap_add 6 = .ok (.aload_n 0, 1) := by decide +kernel
theorem d_Ap_add_7 : decode b_Ap_add 7 = .ok (.dup, 1) := by decide +kernel
theorem d_Ap_add_8 : decode b_Ap_add 8 = .ok (.getfield 9, 3) := by decide +kernel
theorem d_Ap_add_11 : decode b_Ap_add 11 = .ok (.iload_n 1, 1) := by decide +kernel
theorem d_Ap_add_12 : decode b_Ap_add 12 = .ok (.invokestatic 16, 3) := by decide +kernel
theorem d_Ap_add_15 : decode b_Ap_add 15 = .ok (.lor, 1) := by decide +kernel
theorem d_Ap_add_16 : decode b_Ap_add 16 = .ok (.putfield 9, 3) := by decide +kernel
theorem d_Ap_add_19 : decode b_Ap_add 19 = .ok (.goto 16, 3) := by decide +kernel
theorem d_Ap_add_22 : decode b_Ap_add 22 = .ok (.aload_n 0, 1) := by decide +kernel
theorem d_Ap_add_23 : decode b_Ap_add 23 = .ok (.dup, 1) := by decide +kernel
theorem d_Ap_add_24 : decode b_Ap_add 24 = .ok (.getfield 13, 3) := by decide +kernel
theorem d_Ap_add_27 : decode b_Ap_add 27 = .ok (.iload_n 1, 1) := by decide +kernel
theorem d_Ap_add_28 : decode b_Ap_add 28 = .ok (.invokestatic 16, 3) := by decide +kernel
theorem d_Ap_add_31 : decode b_Ap_add 31 = .ok (.lor, 1) := by decide +kernel
theorem d_Ap_add_32 : decode b_Ap_add 32 = .ok (.putfield 13, 3) := by decide +kernel
theorem d_Ap_add_35 : decode b_Ap_add 35 = .ok (.aload_n 0, 1) := by decide +kernel
theorem d_Ap_add_36 : decode b_Ap_add 36 = .ok (.dup, 1) := by decide +kernel
theorem d_Ap_add_37 : decode b_Ap_add 37 = .ok (.getfield 20, 3) := by decide +kernel
theorem d_Ap_add_40 : decode b_Ap_add 40 = .ok (.iconst 1, 1) := by decide +kernel
theorem d_Ap_add_41 : decode b_Ap_add 41 = .ok (.iadd, 1) := by decide +kernel
theorem d_Ap_add_42 : decode b_Ap_add 42 = .ok (.putfield 20, 3) := by decide +kernel
theorem d_Ap_add_45 : decode b_Ap_add 45 = .ok (.return_, 1) := by decide +kernel
set_option maxHeartbeats 4000000 in
set_option maxRecDepth 100000 in
theorem c_Ap_add (l : Launch) (dC : Nat → ClassId) (dI : Nat → Nat → Nat) (tys : List (ClassId × FieldType)) (L : List Nat) (f : Nat → va_E) (sz : Nat) (q : Nat) (q_ct : Int32) (q_lo q_hi : Int64) (pn : Int32) (hm_q : q ∈ L) (he_q : f q = .inr (4, [.long q_lo, .long q_hi, .int q_ct])) : Met l y_Ap_add w_Ap_add { frames := 1, cells := 0, slots := 0, locals := 20 } (mu_P (dC, dI) classes tys (va_pl L f) sz [.ref q, .int pn]) (va_Qv (fun u => u = (L, va_up f q (.inr (4, [.long (if 64 ≤ pn then q_lo else q_lo ||| bitO pn), .long (if 64 ≤ pn then q_hi ||| bitO pn else q_hi), .int (q_ct + 1)])))) (mu_B (dC, dI) classes tys (va_A (va_pl L f) sz) fw_w) (va_A (va_pl L f) sz)) 0 0 (va_A (va_pl L f) sz) := by
  refine Met.ofW (cc := b_Ap_add) (maxL := 2) (ret := none) (by decide) rfl ?_
  intro p e s m args below meth c s₁ B hml hv
  obtain ⟨rfl, hsz, hP, hK, hD0, hN⟩ := hv
  have hx := B.exec
  have hb := B.bytes
  have hr := B.returns
  have hts := atoms_spec (ws := w_Ap_add) B.pre
  have hG := fun (w : Cond) (h : w ∈ wG) => hts w (List.mem_cons_of_mem _ h)
  have hown : s.vm.findClass R_Ap = some m.cls := findClass_of_methodNamed B.named
  have hlocks := B.notSynchronized
  subst hsz
  have hD := hD0.self (sz := s.heap.size)
  generalize hAe : va_A (va_pl L f) s.heap.size = A at hD ⊢
  have hA : ∀ q : Nat, s.heap.size ≤ q → A q := fun q h => by rw [← hAe]; exact Or.inr h
  have hS : va_S A s.heap s.heap [] := va_S.rf
  have hP : va_P (dC, dI) classes (va_pl L f) s.heap := hP
  have hl := lv_entry ([.ref q, .int pn]) (n := 2) (Nat.le_of_ble_eq_true rfl)
  rw [lg_entry_eq]
  generalize (lg_sl ([.ref q, .int pn]) ++ List.replicate (2 - (lg_sl ([.ref q, .int pn])).length) Slot.unset).toArray = ls at hl ⊢
  have hl : lv_has ls 2 [(0, .ref q), (1, .int pn)] := hl
  refine lv_iload_n hx hb d_Ap_add_0 rfl (lv_at hl 1 rfl) ?_
  refine lv_bipush (v := 64) hx hb d_Ap_add_1 (by decide) ?_
  refine lv_icmp_ge (tgt := 22) hx hb d_Ap_add_3 (by decide) (fun c_1 => ?_) (fun c_1 => ?_)
  · refine lv_aload_n hx hb d_Ap_add_22 rfl (lv_at hl 0 rfl) ?_
    refine lv_dup hx hb d_Ap_add_23 rfl ?_
    refine fw_get (D := (dC, dI)) (ci := 4) (v := .long q_hi) (C := R_Ap) (T := F_Ap) (N := 3) hx hb hG iG_Ap hown hK hP hm_q he_q rfl 1 (by decide) (hG _ k_180) (fun _ h9 => h9) rfl d_Ap_add_24 ?_
    refine lv_iload_n hx hb d_Ap_add_27 rfl (lv_at hl 1 rfl) ?_
    refine rd_calll (va_runS (As := [.int pn]) (rest := [.long q_hi, .ref q]) ⟨hx, hb, hml, hown, hts⟩ (c_Ap_bitOf l dC dI tys (va_pl L f) pn) (cwS 1 hts (gd_S k_240 k_241 k_20 k_242) rfl rfl rfl (by decide +kernel) ⟨Nat.le_of_ble_eq_true rfl, Nat.le_of_ble_eq_true rfl⟩) (rd_preS hK hN hP) rfl rfl hl.1 rfl (lv_room (Nat.le_of_ble_eq_true rfl)) d_Ap_add_28 ⟨Nat.zero_le _, Nat.zero_le _⟩) (fun r_2 hr_2 => ?_)
    subst hr_2
    refine lv_lor hx hb d_Ap_add_31 ?_
    refine fw_put (D := (dC, dI)) (ci := 4) (v := .long (q_hi ||| (bitO pn))) (ty := .long) (C := R_Ap) (T := F_Ap) (N := 3) hx hb hG iG_Ap t_Ap t_Ap_ok n_Ap hown hK hP hD hS hm_q he_q rfl 1 (by decide) (hG _ k_180) (fun _ h9 => h9) rfl (by decide +kernel) rfl rfl (Nat.le_of_ble_eq_true rfl) d_Ap_add_32 (fun H locs hP hD hS => ?_)
    obtain ⟨f_3, ef_3⟩ : ∃ z, z = va_up f q (.inr (4, [.long q_lo, .long (q_hi ||| (bitO pn)), .int q_ct])) := ⟨_, rfl⟩
    have he_4 : f_3 q = .inr (4, [.long q_lo, .long (q_hi ||| (bitO pn)), .int q_ct]) := by rw [ef_3]; exact va_up_self _ _ _
    have hP : va_P (dC, dI) classes (va_pl L f_3) H := by rw [ef_3]; exact hP
    have hD : va_D A (va_pl L f_3) := by rw [ef_3]; exact hD
    refine lv_aload_n hx hb d_Ap_add_35 rfl (lv_at hl 0 rfl) ?_
    refine lv_dup hx hb d_Ap_add_36 rfl ?_
    refine fw_get (D := (dC, dI)) (ci := 4) (v := .int q_ct) (C := R_Ap) (T := F_Ap) (N := 3) hx hb hG iG_Ap hown hK hP hm_q he_4 rfl 2 (by decide) (hG _ k_182) (fun _ h9 => h9) rfl d_Ap_add_37 ?_
    refine lv_iconst (v := 1) hx hb d_Ap_add_40 (by decide) ?_
    refine lv_iadd hx hb d_Ap_add_41 ?_
    refine fw_put (D := (dC, dI)) (ci := 4) (v := .int (q_ct + 1)) (ty := .int) (C := R_Ap) (T := F_Ap) (N := 3) hx hb hG iG_Ap t_Ap t_Ap_ok n_Ap hown hK hP hD hS hm_q he_4 rfl 2 (by decide) (hG _ k_182) (fun _ h9 => h9) rfl (by decide +kernel) rfl rfl (Nat.le_of_ble_eq_true rfl) d_Ap_add_42 (fun H locs hP hD hS => ?_)
    obtain ⟨f_5, ef_5⟩ : ∃ z, z = va_up f_3 q (.inr (4, [.long q_lo, .long (q_hi ||| (bitO pn)), .int (q_ct + 1)])) := ⟨_, rfl⟩
    have he_6 : f_5 q = .inr (4, [.long q_lo, .long (q_hi ||| (bitO pn)), .int (q_ct + 1)]) := by rw [ef_5]; exact va_up_self _ _ _
    have hP : va_P (dC, dI) classes (va_pl L f_5) H := by rw [ef_5]; exact hP
    have hD : va_D A (va_pl L f_5) := by rw [ef_5]; exact hD
    exact W.vret hx hb hr (fun t ht hW => ⟨⟨(L, f_5), rfl, (by rw [ef_5, ef_3] <;> exact fw_same (by intro z; simp only [va_up] <;> grind)), by rw [ht]; exact hP, va_K.moved hW.alike hK, hD⟩, hS.F ht⟩) hS.2.2 d_Ap_add_45
  · refine lv_aload_n hx hb d_Ap_add_6 rfl (lv_at hl 0 rfl) ?_
    refine lv_dup hx hb d_Ap_add_7 rfl ?_
    refine fw_get (D := (dC, dI)) (ci := 4) (v := .long q_lo) (C := R_Ap) (T := F_Ap) (N := 3) hx hb hG iG_Ap hown hK hP hm_q he_q rfl 0 (by decide) (hG _ k_179) (fun _ h9 => h9) rfl d_Ap_add_8 ?_
    refine lv_iload_n hx hb d_Ap_add_11 rfl (lv_at hl 1 rfl) ?_
    refine rd_calll (va_runS (As := [.int pn]) (rest := [.long q_lo, .ref q]) ⟨hx, hb, hml, hown, hts⟩ (c_Ap_bitOf l dC dI tys (va_pl L f) pn) (cwS 1 hts (gd_S k_240 k_241 k_20 k_242) rfl rfl rfl (by decide +kernel) ⟨Nat.le_of_ble_eq_true rfl, Nat.le_of_ble_eq_true rfl⟩) (rd_preS hK hN hP) rfl rfl hl.1 rfl (lv_room (Nat.le_of_ble_eq_true rfl)) d_Ap_add_12 ⟨Nat.zero_le _, Nat.zero_le _⟩) (fun r_7 hr_7 => ?_)
    subst hr_7
    refine lv_lor hx hb d_Ap_add_15 ?_
    refine fw_put (D := (dC, dI)) (ci := 4) (v := .long (q_lo ||| (bitO pn))) (ty := .long) (C := R_Ap) (T := F_Ap) (N := 3) hx hb hG iG_Ap t_Ap t_Ap_ok n_Ap hown hK hP hD hS hm_q he_q rfl 0 (by decide) (hG _ k_179) (fun _ h9 => h9) rfl (by decide +kernel) rfl rfl (Nat.le_of_ble_eq_true rfl) d_Ap_add_16 (fun H locs hP hD hS => ?_)
    obtain ⟨f_8, ef_8⟩ : ∃ z, z = va_up f q (.inr (4, [.long (q_lo ||| (bitO pn)), .long q_hi, .int q_ct])) := ⟨_, rfl⟩
    have he_9 : f_8 q = .inr (4, [.long (q_lo ||| (bitO pn)), .long q_hi, .int q_ct]) := by rw [ef_8]; exact va_up_self _ _ _
    have hP : va_P (dC, dI) classes (va_pl L f_8) H := by rw [ef_8]; exact hP
    have hD : va_D A (va_pl L f_8) := by rw [ef_8]; exact hD
    refine lv_goto (tgt := 35) hx hb d_Ap_add_19 (by decide) ?_
    refine lv_aload_n hx hb d_Ap_add_35 rfl (lv_at hl 0 rfl) ?_
    refine lv_dup hx hb d_Ap_add_36 rfl ?_
    refine fw_get (D := (dC, dI)) (ci := 4) (v := .int q_ct) (C := R_Ap) (T := F_Ap) (N := 3) hx hb hG iG_Ap hown hK hP hm_q he_9 rfl 2 (by decide) (hG _ k_182) (fun _ h9 => h9) rfl d_Ap_add_37 ?_
    refine lv_iconst (v := 1) hx hb d_Ap_add_40 (by decide) ?_
    refine lv_iadd hx hb d_Ap_add_41 ?_
    refine fw_put (D := (dC, dI)) (ci := 4) (v := .int (q_ct + 1)) (ty := .int) (C := R_Ap) (T := F_Ap) (N := 3) hx hb hG iG_Ap t_Ap t_Ap_ok n_Ap hown hK hP hD hS hm_q he_9 rfl 2 (by decide) (hG _ k_182) (fun _ h9 => h9) rfl (by decide +kernel) rfl rfl (Nat.le_of_ble_eq_true rfl) d_Ap_add_42 (fun H locs hP hD hS => ?_)
    obtain ⟨f_10, ef_10⟩ : ∃ z, z = va_up f_8 q (.inr (4, [.long (q_lo ||| (bitO pn)), .long q_hi, .int (q_ct + 1)])) := ⟨_, rfl⟩
    have he_11 : f_10 q = .inr (4, [.long (q_lo ||| (bitO pn)), .long q_hi, .int (q_ct + 1)]) := by rw [ef_10]; exact va_up_self _ _ _
    have hP : va_P (dC, dI) classes (va_pl L f_10) H := by rw [ef_10]; exact hP
    have hD : va_D A (va_pl L f_10) := by rw [ef_10]; exact hD
    exact W.vret hx hb hr (fun t ht hW => ⟨⟨(L, f_10), rfl, (by rw [ef_10, ef_8] <;> exact fw_same (by intro z; simp only [va_up] <;> grind)), by rw [ht]; exact hP, va_K.moved hW.alike hK, hD⟩, hS.F ht⟩) hS.2.2 d_Ap_add_45
