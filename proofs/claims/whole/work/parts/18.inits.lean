theorem d_Ac_init_0 : decode b_Ac_init 0 = .ok (.aload_n 0, 1) := by decide +kernel
theorem d_Ac_init_1 : decode b_Ac_init 1 = .ok (.invokespecial 3, 3) := by decide +kernel
theorem d_Ac_init_4 : decode b_Ac_init 4 = .ok (.aload_n 0, 1) := by decide +kernel
theorem d_Ac_init_5 : decode b_Ac_init 5 = .ok (.iload_n 1, 1) := by decide +kernel
theorem d_Ac_init_6 : decode b_Ac_init 6 = .ok (.putfield 9, 3) := by decide +kernel
theorem d_Ac_init_9 : decode b_Ac_init 9 = .ok (.aload_n 0, 1) := by decide +kernel
theorem d_Ac_init_10 : decode b_Ac_init 10 = .ok (.iload_n 2, 1) := by decide +kernel
theorem d_Ac_init_11 : decode b_Ac_init 11 = .ok (.putfield 15, 3) := by decide +kernel
theorem d_Ac_init_14 : decode b_Ac_init 14 = .ok (.return_, 1) := by decide +kernel
set_option maxHeartbeats 4000000 in
set_option maxRecDepth 100000 in
theorem c_Ac_init (l : Launch) (dC : Nat → ClassId) (dI : Nat → Nat → Nat) (tys : List (ClassId × FieldType)) (L : List Nat) (f : Nat → va_E) (sz : Nat) (a : Nat) (a_n a_cy : Int32) (a_g a_en a_sp a_pd : Int64) (nu : Int32) (cr : Int32) (hm_a : a ∈ L) (he_a : f a = .inr (1, [.int a_n, .int a_cy, .long a_g, .long a_en, .long a_sp, .long a_pd])) : Met l y_Ac_init w_Ac_init { frames := 1, cells := 0, slots := 0, locals := 12 } (mu_P (dC, dI) classes tys (va_pl L f) sz [.ref a, .int nu, .int cr]) (va_Qv (fun u => u = (L, va_up f a (.inr (1, [.int nu, .int cr, .long a_g, .long a_en, .long a_sp, .long a_pd])))) (mu_B (dC, dI) classes tys (va_A (va_pl L f) sz) fw_w) (va_A (va_pl L f) sz)) 0 0 (va_A (va_pl L f) sz) := by
  refine Met.ofW (cc := b_Ac_init) (maxL := 3) (ret := none) (by decide) rfl ?_
  intro p e s m args below meth c s₁ B hml hv
  obtain ⟨rfl, hsz, hP, hK, hD0, hN⟩ := hv
  have hx := B.exec
  have hb := B.bytes
  have hr := B.returns
  have hts := atoms_spec (ws := w_Ac_init) B.pre
  have hG := fun (w : Cond) (h : w ∈ wG) => hts w (List.mem_cons_of_mem _ h)
  have hown : s.vm.findClass R_Ac = some m.cls := findClass_of_methodNamed B.named
  have hlocks := B.notSynchronized
  have hin : meth.name = "<init>" := (name_of_methodNamed B.named B.method).1
  subst hsz
  have hD := hD0.self (sz := s.heap.size)
  generalize hAe : va_A (va_pl L f) s.heap.size = A at hD ⊢
  have hA : ∀ q : Nat, s.heap.size ≤ q → A q := fun q h => by rw [← hAe]; exact Or.inr h
  have hS : va_S A s.heap s.heap [] := va_S.rf
  have hP : va_P (dC, dI) classes (va_pl L f) s.heap := hP
  have hl := lv_entry ([.ref a, .int nu, .int cr]) (n := 3) (Nat.le_of_ble_eq_true rfl)
  rw [lg_entry_eq]
  generalize (lg_sl ([.ref a, .int nu, .int cr]) ++ List.replicate (3 - (lg_sl ([.ref a, .int nu, .int cr])).length) Slot.unset).toArray = ls at hl ⊢
  have hl : lv_has ls 3 [(0, .ref a), (1, .int nu), (2, .int cr)] := hl
  refine lv_aload_n hx hb d_Ac_init_0 rfl (lv_at hl 0 rfl) ?_
  refine W.objInit hx hb hown (hG _ k_113) (hG _ k_33) (hG _ k_34) rfl (by rw [hml]; exact hl.1) rfl d_Ac_init_1 (Nat.le_of_ble_eq_true rfl) (Nat.le_of_ble_eq_true rfl) ?_
  refine W.eq (g2 := F0 m 4 ls []) rfl ?_
  refine lv_aload_n hx hb d_Ac_init_4 rfl (lv_at hl 0 rfl) ?_
  refine lv_iload_n hx hb d_Ac_init_5 rfl (lv_at hl 1 rfl) ?_
  refine fw_putF (D := (dC, dI)) (ci := 1) (v := .int nu) (ty := .int) (C := R_Ac) (T := F_Ac) (N := 6) hx hb hG iG_Ac t_Ac t_Ac_ok n_Ac hown hK hP hD hS hm_a he_a rfl 0 (by decide) (hG _ k_114) (fun _ h9 => h9) rfl hin rfl (by decide +kernel) rfl rfl (Nat.le_of_ble_eq_true rfl) d_Ac_init_6 (fun H locs hP hD hS => ?_)
  obtain ⟨f_1, ef_1⟩ : ∃ z, z = va_up f a (.inr (1, [.int nu, .int a_cy, .long a_g, .long a_en, .long a_sp, .long a_pd])) := ⟨_, rfl⟩
  have he_2 : f_1 a = .inr (1, [.int nu, .int a_cy, .long a_g, .long a_en, .long a_sp, .long a_pd]) := by rw [ef_1]; exact va_up_self _ _ _
  have hP : va_P (dC, dI) classes (va_pl L f_1) H := by rw [ef_1]; exact hP
  have hD : va_D A (va_pl L f_1) := by rw [ef_1]; exact hD
  refine lv_aload_n hx hb d_Ac_init_9 rfl (lv_at hl 0 rfl) ?_
  refine lv_iload_n hx hb d_Ac_init_10 rfl (lv_at hl 2 rfl) ?_
  refine fw_putF (D := (dC, dI)) (ci := 1) (v := .int cr) (ty := .int) (C := R_Ac) (T := F_Ac) (N := 6) hx hb hG iG_Ac t_Ac t_Ac_ok n_Ac hown hK hP hD hS hm_a he_2 rfl 1 (by decide) (hG _ k_116) (fun _ h9 => h9) rfl hin rfl (by decide +kernel) rfl rfl (Nat.le_of_ble_eq_true rfl) d_Ac_init_11 (fun H locs hP hD hS => ?_)
  obtain ⟨f_3, ef_3⟩ : ∃ z, z = va_up f_1 a (.inr (1, [.int nu, .int cr, .long a_g, .long a_en, .long a_sp, .long a_pd])) := ⟨_, rfl⟩
  have he_4 : f_3 a = .inr (1, [.int nu, .int cr, .long a_g, .long a_en, .long a_sp, .long a_pd]) := by rw [ef_3]; exact va_up_self _ _ _
  have hP : va_P (dC, dI) classes (va_pl L f_3) H := by rw [ef_3]; exact hP
  have hD : va_D A (va_pl L f_3) := by rw [ef_3]; exact hD
  exact W.vret hx hb hr (fun t ht hW => ⟨⟨(L, f_3), rfl, (by rw [ef_3, ef_1] <;> exact fw_same (by intro z; simp only [va_up] <;> grind)), by rw [ht]; exact hP, va_K.moved hW.alike hK, hD⟩, hS.F ht⟩) hS.2.2 d_Ac_init_14

theorem d_Ap_init_0 : decode b_Ap_init 0 = .ok (.aload_n 0, 1) := by decide +kernel
theorem d_Ap_init_1 : decode b_Ap_init 1 = .ok (.invokespecial 1, 3) := by decide +kernel
theorem d_Ap_init_4 : decode b_Ap_init 4 = .ok (.return_, 1) := by decide +kernel
set_option maxHeartbeats 4000000 in
set_option maxRecDepth 100000 in
theorem c_Ap_init (l : Launch) (dC : Nat → ClassId) (dI : Nat → Nat → Nat) (tys : List (ClassId × FieldType)) (L : List Nat) (f : Nat → va_E) (sz : Nat) (q : Nat) (q_ct : Int32) (q_lo q_hi : Int64) (hm_q : q ∈ L) (he_q : f q = .inr (4, [.long q_lo, .long q_hi, .int q_ct])) : Met l y_Ap_init w_Ap_init { frames := 1, cells := 0, slots := 0, locals := 12 } (mu_P (dC, dI) classes tys (va_pl L f) sz [.ref q]) (va_Qv (fun u => u = (L, f)) (mu_B (dC, dI) classes tys (va_A (va_pl L f) sz) fw_w) (va_A (va_pl L f) sz)) 0 0 (va_A (va_pl L f) sz) := by
  refine Met.ofW (cc := b_Ap_init) (maxL := 1) (ret := none) (by decide) rfl ?_
  intro p e s m args below meth c s₁ B hml hv
  obtain ⟨rfl, hsz, hP, hK, hD0, hN⟩ := hv
  have hx := B.exec
  have hb := B.bytes
  have hr := B.returns
  have hts := atoms_spec (ws := w_Ap_init) B.pre
  have hG := fun (w : Cond) (h : w ∈ wG) => hts w (List.mem_cons_of_mem _ h)
  have hown : s.vm.findClass R_Ap = some m.cls := findClass_of_methodNamed B.named
  have hlocks := B.notSynchronized
  have hin : meth.name = "<init>" := (name_of_methodNamed B.named B.method).1
  subst hsz
  have hD := hD0.self (sz := s.heap.size)
  generalize hAe : va_A (va_pl L f) s.heap.size = A at hD ⊢
  have hA : ∀ q : Nat, s.heap.size ≤ q → A q := fun q h => by rw [← hAe]; exact Or.inr h
  have hS : va_S A s.heap s.heap [] := va_S.rf
  have hP : va_P (dC, dI) classes (va_pl L f) s.heap := hP
  have hl := lv_entry ([.ref q]) (n := 1) (Nat.le_of_ble_eq_true rfl)
  rw [lg_entry_eq]
  generalize (lg_sl ([.ref q]) ++ List.replicate (1 - (lg_sl ([.ref q])).length) Slot.unset).toArray = ls at hl ⊢
  have hl : lv_has ls 1 [(0, .ref q)] := hl
  refine lv_aload_n hx hb d_Ap_init_0 rfl (lv_at hl 0 rfl) ?_
  refine W.objInit hx hb hown (hG _ k_178) (hG _ k_33) (hG _ k_34) rfl (by rw [hml]; exact hl.1) rfl d_Ap_init_1 (Nat.le_of_ble_eq_true rfl) (Nat.le_of_ble_eq_true rfl) ?_
  refine W.eq (g2 := F0 m 4 ls []) rfl ?_
  exact W.vret hx hb hr (fun t ht hW => ⟨⟨(L, f), rfl, rfl, by rw [ht]; exact hP, va_K.moved hW.alike hK, hD⟩, hS.F ht⟩) hS.2.2 d_Ap_init_4

theorem d_Pu_init_0 : decode b_Pu_init 0 = .ok (.aload_n 0, 1) := by decide +kernel
theorem d_Pu_init_1 : decode b_Pu_init 1 = .ok (.invokespecial 3, 3) := by decide +kernel
theorem d_Pu_init_4 : decode b_Pu_init 4 = .ok (.aload_n 0, 1) := by decide +kernel
theorem d_Pu_init_5 : decode b_Pu_init 5 = .ok (.new 9, 3) := by decide +kernel
theorem d_Pu_init_8 : decode b_Pu_init 8 = .ok (.dup, 1) := by decide +kernel
theorem d_Pu_init_9 : decode b_Pu_init 9 = .ok (.invokespecial 11, 3) := by decide +kernel
theorem d_Pu_init_12 : decode b_Pu_init 12 = .ok (.putfield 12, 3) := by decide +kernel
theorem d_Pu_init_15 : decode b_Pu_init 15 = .ok (.aload_n 0, 1) := by decide +kernel
theorem d_Pu_init_16 : decode b_Pu_init 16 = .ok (.iconst 0, 1) := by decide +kernel
theorem d_Pu_init_17 : decode b_Pu_init 17 = .ok (.putfield 18, 3) := by decide +kernel
theorem d_Pu_init_20 : decode b_Pu_init 20 = .ok (.aload_n 0, 1) := by decide +kernel
theorem d_Pu_init_21 : decode b_Pu_init 21 = .ok (.iconst (-1), 1) := by decide +kernel
theorem d_Pu_init_22 : decode b_Pu_init 22 = .ok (.putfield 22, 3) := by decide +kernel
theorem d_Pu_init_25 : decode b_Pu_init 25 = .ok (.aload_n 0, 1) := by decide +kernel
theorem d_Pu_init_26 : decode b_Pu_init 26 = .ok (.aload_n 1, 1) := by decide +kernel
theorem d_Pu_init_27 : decode b_Pu_init 27 = .ok (.putfield 25, 3) := by decide +kernel
theorem d_Pu_init_30 : decode b_Pu_init 30 = .ok (.aload_n 0, 1) := by decide +kernel
theorem d_Pu_init_31 : decode b_Pu_init 31 = .ok (.iload_n 2, 1) := by decide +kernel
theorem d_Pu_init_32 : decode b_Pu_init 32 = .ok (.putfield 29, 3) := by decide +kernel
theorem d_Pu_init_35 : decode b_Pu_init 35 = .ok (.aload_n 0, 1) := by decide +kernel
theorem d_Pu_init_36 : decode b_Pu_init 36 = .ok (.iload_n 3, 1) := by decide +kernel
theorem d_Pu_init_37 : decode b_Pu_init 37 = .ok (.putfield 32, 3) := by decide +kernel
theorem d_Pu_init_40 : decode b_Pu_init 40 = .ok (.return_, 1) := by decide +kernel
set_option maxHeartbeats 4000000 in
set_option maxRecDepth 100000 in
theorem c_Pu_init (l : Launch) (dC : Nat → ClassId) (dI : Nat → Nat → Nat) (tys : List (ClassId × FieldType)) (L : List Nat) (f : Nat → va_E) (sz : Nat) (pu : Nat) (pu_ct pu_stt pu_ic pu_lm : Int32) (pu_lx : Int64) (pu_st : Bool) (a0 : Nat) (ct : Int32) (st : Bool) (hm_pu : pu ∈ L) (he_pu : f pu = .inr (2, [.null, .int pu_ct, .int (bI pu_st), .null, .int pu_stt, .int pu_ic, .int pu_lm, .long pu_lx])) : Met l y_Pu_init w_Pu_init { frames := 2, cells := 1, slots := 3, locals := 32 } (mu_P (dC, dI) classes tys (va_pl L f) sz [.ref pu, .ref a0, .int ct, .int (bI st)]) (va_Qv (fun u => ∃ q0 : Nat, q0 ∉ L ∧ u = (L ++ [q0], va_up (va_up f pu (.inr (2, [.ref a0, .int ct, .int (bI st), .ref q0, .int 0, .int pu_ic, .int (-1), .long pu_lx]))) q0 (.inr (4, [.long 0, .long 0, .int 0])))) (mu_B (dC, dI) classes tys (va_A (va_pl L f) sz) fw_w) (va_A (va_pl L f) sz)) 1 3 (va_A (va_pl L f) sz) := by
  refine Met.ofW (cc := b_Pu_init) (maxL := 4) (ret := none) (by decide) rfl ?_
  intro p e s m args below meth c s₁ B hml hv
  obtain ⟨rfl, hsz, hP, hK, hD0, hN⟩ := hv
  have hx := B.exec
  have hb := B.bytes
  have hr := B.returns
  have hts := atoms_spec (ws := w_Pu_init) B.pre
  have hG := fun (w : Cond) (h : w ∈ wG) => hts w (List.mem_cons_of_mem _ h)
  have hown : s.vm.findClass R_Pu = some m.cls := findClass_of_methodNamed B.named
  have hlocks := B.notSynchronized
  have hin : meth.name = "<init>" := (name_of_methodNamed B.named B.method).1
  subst hsz
  have hD := hD0.self (sz := s.heap.size)
  generalize hAe : va_A (va_pl L f) s.heap.size = A at hD ⊢
  have hA : ∀ q : Nat, s.heap.size ≤ q → A q := fun q h => by rw [← hAe]; exact Or.inr h
  have hS : va_S A s.heap s.heap [] := va_S.rf
  have hP : va_P (dC, dI) classes (va_pl L f) s.heap := hP
  have hl := lv_entry ([.ref pu, .ref a0, .int ct, .int (bI st)]) (n := 4) (Nat.le_of_ble_eq_true rfl)
  rw [lg_entry_eq]
  generalize (lg_sl ([.ref pu, .ref a0, .int ct, .int (bI st)]) ++ List.replicate (4 - (lg_sl ([.ref pu, .ref a0, .int ct, .int (bI st)])).length) Slot.unset).toArray = ls at hl ⊢
  have hl : lv_has ls 4 [(0, .ref pu), (1, .ref a0), (2, .int ct), (3, .int (bI st))] := hl
  refine lv_aload_n hx hb d_Pu_init_0 rfl (lv_at hl 0 rfl) ?_
  refine W.objInit hx hb hown (hG _ k_172) (hG _ k_33) (hG _ k_34) rfl (by rw [hml]; exact hl.1) rfl d_Pu_init_1 (Nat.le_of_ble_eq_true rfl) (Nat.le_of_ble_eq_true rfl) ?_
  refine W.eq (g2 := F0 m 4 ls []) rfl ?_
  refine lv_aload_n hx hb d_Pu_init_4 rfl (lv_at hl 0 rfl) ?_
  refine fw_new (D := (dC, dI)) (ci := 4) (fs := [.long 0, .long 0, .int 0]) (C := R_Ap) (T := F_Ap) (N := 3) hx hb hG iG_Ap t_Ap t_Ap_ok hown (hG _ k_173) (hG _ k_174) (hG _ k_20) hK hP hD hS hA rfl (fun j hj => by rcases (show j = 0 ∨ j = 1 ∨ j = 2 by omega) with rfl | rfl | rfl <;> rfl) (Nat.le_of_ble_eq_true rfl) (Nat.le_of_ble_eq_true rfl) d_Pu_init_5 (fun q_1 H hq_q_1 hP hD hS => ?_)
  obtain ⟨L_3, eL_3⟩ : ∃ z, z = L ++ [q_1] := ⟨_, rfl⟩
  obtain ⟨f_2, ef_2⟩ : ∃ z, z = va_up f q_1 (.inr (4, [.long 0, .long 0, .int 0])) := ⟨_, rfl⟩
  have hP : va_P (dC, dI) classes (va_pl L_3 f_2) H := by rw [eL_3, ef_2]; exact hP
  have hD : va_D A (va_pl L_3 f_2) := by rw [eL_3, ef_2]; exact hD
  have ne_6 : pu ≠ q_1 := fun z => hq_q_1 (z ▸ hm_pu)
  have hm_5 : pu ∈ L_3 := by rw [eL_3]; exact List.mem_append_left _ hm_pu
  have he_4 : f_2 pu = .inr (2, [.null, .int pu_ct, .int (bI pu_st), .null, .int pu_stt, .int pu_ic, .int pu_lm, .long pu_lx]) := by rw [ef_2, va_up_ne _ _ ne_6]; exact he_pu
  have hm_8 : q_1 ∈ L_3 := by rw [eL_3]; exact List.mem_append_right _ (List.mem_singleton.mpr rfl)
  have he_7 : f_2 q_1 = .inr (4, [.long 0, .long 0, .int 0]) := by rw [ef_2]; exact va_up_self _ _ _
  refine lv_dup hx hb d_Pu_init_8 rfl ?_
  refine mu_callv (va_runIN (As := []) (rest := [.ref q_1, .ref pu]) ⟨hx, hb, hml, hown, hts⟩ (c_Ap_init l dC dI tys L_3 f_2 _ q_1 0 0 0 hm_8 he_7) ⟨va_cnB 0 hts (gd_c k_177) rfl rfl rfl (hN _ k_175) (hG _ k_20) (by decide +kernel) ⟨Nat.le_of_ble_eq_true rfl, Nat.le_of_ble_eq_true rfl⟩, rfl, (hG _ k_176)⟩ (mu_preS hK hN hP hD) rfl rfl hl.1 rfl (lv_room (Nat.le_of_ble_eq_true rfl)) d_Pu_init_9 ⟨Nat.le_of_ble_eq_true rfl, Nat.le_of_ble_eq_true rfl⟩) hD hS hA (fun ur_9 H locs hr_9 hP hD hS => ?_)
  subst hr_9
  have hP : va_P (dC, dI) classes (va_pl L_3 f_2) H := by rw []; exact hP
  have hD : va_D A (va_pl L_3 f_2) := by rw []; exact hD
  refine fw_putF (D := (dC, dI)) (ci := 2) (v := .ref q_1) (ty := (.object "FundBook$Approvals")) (C := R_Pu) (T := F_Pu) (N := 8) hx hb hG iG_Pu t_Pu t_Pu_ok n_Pu hown hK hP hD hS hm_5 he_4 rfl 3 (by decide) (hG _ k_196) (fun _ h9 => h9) rfl hin rfl (by decide +kernel) rfl rfl (Nat.le_of_ble_eq_true rfl) d_Pu_init_12 (fun H locs hP hD hS => ?_)
  obtain ⟨f_10, ef_10⟩ : ∃ z, z = va_up f_2 pu (.inr (2, [.null, .int pu_ct, .int (bI pu_st), .ref q_1, .int pu_stt, .int pu_ic, .int pu_lm, .long pu_lx])) := ⟨_, rfl⟩
  have he_11 : f_10 pu = .inr (2, [.null, .int pu_ct, .int (bI pu_st), .ref q_1, .int pu_stt, .int pu_ic, .int pu_lm, .long pu_lx]) := by rw [ef_10]; exact va_up_self _ _ _
  have he_12 : f_10 q_1 = .inr (4, [.long 0, .long 0, .int 0]) := by rw [ef_10, va_up_ne _ _ (Ne.symm ne_6)]; exact he_7
  have hP : va_P (dC, dI) classes (va_pl L_3 f_10) H := by rw [ef_10]; exact hP
  have hD : va_D A (va_pl L_3 f_10) := by rw [ef_10]; exact hD
  refine lv_aload_n hx hb d_Pu_init_15 rfl (lv_at hl 0 rfl) ?_
  refine lv_iconst (v := 0) hx hb d_Pu_init_16 (by decide) ?_
  refine fw_put (D := (dC, dI)) (ci := 2) (v := .int 0) (ty := .int) (C := R_Pu) (T := F_Pu) (N := 8) hx hb hG iG_Pu t_Pu t_Pu_ok n_Pu hown hK hP hD hS hm_5 he_11 rfl 4 (by decide) (hG _ k_198) (fun _ h9 => h9) rfl (by decide +kernel) rfl rfl (Nat.le_of_ble_eq_true rfl) d_Pu_init_17 (fun H locs hP hD hS => ?_)
  obtain ⟨f_13, ef_13⟩ : ∃ z, z = va_up f_10 pu (.inr (2, [.null, .int pu_ct, .int (bI pu_st), .ref q_1, .int 0, .int pu_ic, .int pu_lm, .long pu_lx])) := ⟨_, rfl⟩
  have he_14 : f_13 pu = .inr (2, [.null, .int pu_ct, .int (bI pu_st), .ref q_1, .int 0, .int pu_ic, .int pu_lm, .long pu_lx]) := by rw [ef_13]; exact va_up_self _ _ _
  have he_15 : f_13 q_1 = .inr (4, [.long 0, .long 0, .int 0]) := by rw [ef_13, va_up_ne _ _ (Ne.symm ne_6)]; exact he_12
  have hP : va_P (dC, dI) classes (va_pl L_3 f_13) H := by rw [ef_13]; exact hP
  have hD : va_D A (va_pl L_3 f_13) := by rw [ef_13]; exact hD
  refine lv_aload_n hx hb d_Pu_init_20 rfl (lv_at hl 0 rfl) ?_
  refine lv_iconst (v := (-1)) hx hb d_Pu_init_21 (by decide) ?_
  refine fw_put (D := (dC, dI)) (ci := 2) (v := .int (-1)) (ty := .int) (C := R_Pu) (T := F_Pu) (N := 8) hx hb hG iG_Pu t_Pu t_Pu_ok n_Pu hown hK hP hD hS hm_5 he_14 rfl 6 (by decide) (hG _ k_202) (fun _ h9 => h9) rfl (by decide +kernel) rfl rfl (Nat.le_of_ble_eq_true rfl) d_Pu_init_22 (fun H locs hP hD hS => ?_)
  obtain ⟨f_16, ef_16⟩ : ∃ z, z = va_up f_13 pu (.inr (2, [.null, .int pu_ct, .int (bI pu_st), .ref q_1, .int 0, .int pu_ic, .int (-1), .long pu_lx])) := ⟨_, rfl⟩
  have he_17 : f_16 pu = .inr (2, [.null, .int pu_ct, .int (bI pu_st), .ref q_1, .int 0, .int pu_ic, .int (-1), .long pu_lx]) := by rw [ef_16]; exact va_up_self _ _ _
  have he_18 : f_16 q_1 = .inr (4, [.long 0, .long 0, .int 0]) := by rw [ef_16, va_up_ne _ _ (Ne.symm ne_6)]; exact he_15
  have hP : va_P (dC, dI) classes (va_pl L_3 f_16) H := by rw [ef_16]; exact hP
  have hD : va_D A (va_pl L_3 f_16) := by rw [ef_16]; exact hD
  refine lv_aload_n hx hb d_Pu_init_25 rfl (lv_at hl 0 rfl) ?_
  refine lv_aload_n hx hb d_Pu_init_26 rfl (lv_at hl 1 rfl) ?_
  refine fw_putF (D := (dC, dI)) (ci := 2) (v := .ref a0) (ty := (.object "FundBook$Account")) (C := R_Pu) (T := F_Pu) (N := 8) hx hb hG iG_Pu t_Pu t_Pu_ok n_Pu hown hK hP hD hS hm_5 he_17 rfl 0 (by decide) (hG _ k_191) (fun _ h9 => h9) rfl hin rfl (by decide +kernel) rfl rfl (Nat.le_of_ble_eq_true rfl) d_Pu_init_27 (fun H locs hP hD hS => ?_)
  obtain ⟨f_19, ef_19⟩ : ∃ z, z = va_up f_16 pu (.inr (2, [.ref a0, .int pu_ct, .int (bI pu_st), .ref q_1, .int 0, .int pu_ic, .int (-1), .long pu_lx])) := ⟨_, rfl⟩
  have he_20 : f_19 pu = .inr (2, [.ref a0, .int pu_ct, .int (bI pu_st), .ref q_1, .int 0, .int pu_ic, .int (-1), .long pu_lx]) := by rw [ef_19]; exact va_up_self _ _ _
  have he_21 : f_19 q_1 = .inr (4, [.long 0, .long 0, .int 0]) := by rw [ef_19, va_up_ne _ _ (Ne.symm ne_6)]; exact he_18
  have hP : va_P (dC, dI) classes (va_pl L_3 f_19) H := by rw [ef_19]; exact hP
  have hD : va_D A (va_pl L_3 f_19) := by rw [ef_19]; exact hD
  refine lv_aload_n hx hb d_Pu_init_30 rfl (lv_at hl 0 rfl) ?_
  refine lv_iload_n hx hb d_Pu_init_31 rfl (lv_at hl 2 rfl) ?_
  refine fw_putF (D := (dC, dI)) (ci := 2) (v := .int ct) (ty := .int) (C := R_Pu) (T := F_Pu) (N := 8) hx hb hG iG_Pu t_Pu t_Pu_ok n_Pu hown hK hP hD hS hm_5 he_20 rfl 1 (by decide) (hG _ k_193) (fun _ h9 => h9) rfl hin rfl (by decide +kernel) rfl rfl (Nat.le_of_ble_eq_true rfl) d_Pu_init_32 (fun H locs hP hD hS => ?_)
  obtain ⟨f_22, ef_22⟩ : ∃ z, z = va_up f_19 pu (.inr (2, [.ref a0, .int ct, .int (bI pu_st), .ref q_1, .int 0, .int pu_ic, .int (-1), .long pu_lx])) := ⟨_, rfl⟩
  have he_23 : f_22 pu = .inr (2, [.ref a0, .int ct, .int (bI pu_st), .ref q_1, .int 0, .int pu_ic, .int (-1), .long pu_lx]) := by rw [ef_22]; exact va_up_self _ _ _
  have he_24 : f_22 q_1 = .inr (4, [.long 0, .long 0, .int 0]) := by rw [ef_22, va_up_ne _ _ (Ne.symm ne_6)]; exact he_21
  have hP : va_P (dC, dI) classes (va_pl L_3 f_22) H := by rw [ef_22]; exact hP
  have hD : va_D A (va_pl L_3 f_22) := by rw [ef_22]; exact hD
  refine lv_aload_n hx hb d_Pu_init_35 rfl (lv_at hl 0 rfl) ?_
  refine lv_iload_n hx hb d_Pu_init_36 rfl (lv_at hl 3 rfl) ?_
  refine fw_putF (D := (dC, dI)) (ci := 2) (v := .int (bI st)) (ty := .boolean) (C := R_Pu) (T := F_Pu) (N := 8) hx hb hG iG_Pu t_Pu t_Pu_ok n_Pu hown hK hP hD hS hm_5 he_23 rfl 2 (by decide) (hG _ k_195) (fun _ h9 => h9) rfl hin rfl (by decide +kernel) (bI_nar _) (bI_fit _) (Nat.le_of_ble_eq_true rfl) d_Pu_init_37 (fun H locs hP hD hS => ?_)
  obtain ⟨f_25, ef_25⟩ : ∃ z, z = va_up f_22 pu (.inr (2, [.ref a0, .int ct, .int (bI st), .ref q_1, .int 0, .int pu_ic, .int (-1), .long pu_lx])) := ⟨_, rfl⟩
  have he_26 : f_25 pu = .inr (2, [.ref a0, .int ct, .int (bI st), .ref q_1, .int 0, .int pu_ic, .int (-1), .long pu_lx]) := by rw [ef_25]; exact va_up_self _ _ _
  have he_27 : f_25 q_1 = .inr (4, [.long 0, .long 0, .int 0]) := by rw [ef_25, va_up_ne _ _ (Ne.symm ne_6)]; exact he_24
  have hP : va_P (dC, dI) classes (va_pl L_3 f_25) H := by rw [ef_25]; exact hP
  have hD : va_D A (va_pl L_3 f_25) := by rw [ef_25]; exact hD
  refine W.widen (k := 1) (n := 3) (Nat.le_of_ble_eq_true rfl) (Nat.le_of_ble_eq_true rfl) ?_
  exact W.vret hx hb hr (fun t ht hW => ⟨⟨(L_3, f_25), rfl, ⟨q_1, hq_q_1, (by rw [ef_25, ef_22, ef_19, ef_16, ef_13, ef_10, ef_2, eL_3] <;> exact fw_same (by intro z; simp only [va_up] <;> grind))⟩, by rw [ht]; exact hP, va_K.moved hW.alike hK, hD⟩, hS.F ht⟩) hS.2.2 d_Pu_init_40

theorem d_Mv_init_0 : decode b_Mv_init 0 = .ok (.aload_n 0, 1) := by decide +kernel
theorem d_Mv_init_1 : decode b_Mv_init 1 = .ok (.invokespecial 3, 3) := by decide +kernel
theorem d_Mv_init_4 : decode b_Mv_init 4 = .ok (.aload_n 0, 1) := by decide +kernel
theorem d_Mv_init_5 : decode b_Mv_init 5 = .ok (.new 9, 3) := by decide +kernel
theorem d_Mv_init_8 : decode b_Mv_init 8 = .ok (.dup, 1) := by decide +kernel
theorem d_Mv_init_9 : decode b_Mv_init 9 = .ok (.invokespecial 11, 3) := by decide +kernel
theorem d_Mv_init_12 : decode b_Mv_init 12 = .ok (.putfield 12, 3) := by decide +kernel
theorem d_Mv_init_15 : decode b_Mv_init 15 = .ok (.aload_n 0, 1) := by decide +kernel
theorem d_Mv_init_16 : decode b_Mv_init 16 = .ok (.aload_n 1, 1) := by decide +kernel
theorem d_Mv_init_17 : decode b_Mv_init 17 = .ok (.putfield 18, 3) := by decide +kernel
theorem d_Mv_init_20 : decode b_Mv_init 20 = .ok (.aload_n 0, 1) := by decide +kernel
theorem d_Mv_init_21 : decode b_Mv_init 21 = .ok (.aload_n 2, 1) := by decide +kernel
theorem d_Mv_init_22 : decode b_Mv_init 22 = .ok (.putfield 22, 3) := by decide +kernel
theorem d_Mv_init_25 : decode b_Mv_init 25 = .ok (.aload_n 0, 1) := by decide +kernel
theorem d_Mv_init_26 : decode b_Mv_init 26 = .ok (.iload_n 3, 1) := by decide +kernel
theorem d_Mv_init_27 : decode b_Mv_init 27 = .ok (.putfield 25, 3) := by decide +kernel
theorem d_Mv_init_30 : decode b_Mv_init 30 = .ok (.return_, 1) := by decide +kernel
set_option maxHeartbeats 4000000 in
set_option maxRecDepth 100000 in
theorem c_Mv_init (l : Launch) (dC : Nat → ClassId) (dI : Nat → Nat → Nat) (tys : List (ClassId × FieldType)) (L : List Nat) (f : Nat → va_E) (sz : Nat) (mv : Nat) (mv_ct : Int32) (mv_hp : Bool) (a0 : Nat) (b0 : Nat) (ct : Int32) (hm_mv : mv ∈ L) (he_mv : f mv = .inr (3, [.null, .null, .int mv_ct, .null, .int (bI mv_hp)])) : Met l y_Mv_init w_Mv_init { frames := 2, cells := 1, slots := 3, locals := 32 } (mu_P (dC, dI) classes tys (va_pl L f) sz [.ref mv, .ref a0, .ref b0, .int ct]) (va_Qv (fun u => ∃ q0 : Nat, q0 ∉ L ∧ u = (L ++ [q0], va_up (va_up f mv (.inr (3, [.ref a0, .ref b0, .int ct, .ref q0, .int (bI mv_hp)]))) q0 (.inr (4, [.long 0, .long 0, .int 0])))) (mu_B (dC, dI) classes tys (va_A (va_pl L f) sz) fw_w) (va_A (va_pl L f) sz)) 1 3 (va_A (va_pl L f) sz) := by
  refine Met.ofW (cc := b_Mv_init) (maxL := 4) (ret := none) (by decide) rfl ?_
  intro p e s m args below meth c s₁ B hml hv
  obtain ⟨rfl, hsz, hP, hK, hD0, hN⟩ := hv
  have hx := B.exec
  have hb := B.bytes
  have hr := B.returns
  have hts := atoms_spec (ws := w_Mv_init) B.pre
  have hG := fun (w : Cond) (h : w ∈ wG) => hts w (List.mem_cons_of_mem _ h)
  have hown : s.vm.findClass R_Mv = some m.cls := findClass_of_methodNamed B.named
  have hlocks := B.notSynchronized
  have hin : meth.name = "<init>" := (name_of_methodNamed B.named B.method).1
  subst hsz
  have hD := hD0.self (sz := s.heap.size)
  generalize hAe : va_A (va_pl L f) s.heap.size = A at hD ⊢
  have hA : ∀ q : Nat, s.heap.size ≤ q → A q := fun q h => by rw [← hAe]; exact Or.inr h
  have hS : va_S A s.heap s.heap [] := va_S.rf
  have hP : va_P (dC, dI) classes (va_pl L f) s.heap := hP
  have hl := lv_entry ([.ref mv, .ref a0, .ref b0, .int ct]) (n := 4) (Nat.le_of_ble_eq_true rfl)
  rw [lg_entry_eq]
  generalize (lg_sl ([.ref mv, .ref a0, .ref b0, .int ct]) ++ List.replicate (4 - (lg_sl ([.ref mv, .ref a0, .ref b0, .int ct])).length) Slot.unset).toArray = ls at hl ⊢
  have hl : lv_has ls 4 [(0, .ref mv), (1, .ref a0), (2, .ref b0), (3, .int ct)] := hl
  refine lv_aload_n hx hb d_Mv_init_0 rfl (lv_at hl 0 rfl) ?_
  refine W.objInit hx hb hown (hG _ k_340) (hG _ k_33) (hG _ k_34) rfl (by rw [hml]; exact hl.1) rfl d_Mv_init_1 (Nat.le_of_ble_eq_true rfl) (Nat.le_of_ble_eq_true rfl) ?_
  refine W.eq (g2 := F0 m 4 ls []) rfl ?_
  refine lv_aload_n hx hb d_Mv_init_4 rfl (lv_at hl 0 rfl) ?_
  refine fw_new (D := (dC, dI)) (ci := 4) (fs := [.long 0, .long 0, .int 0]) (C := R_Ap) (T := F_Ap) (N := 3) hx hb hG iG_Ap t_Ap t_Ap_ok hown (hG _ k_341) (hG _ k_174) (hG _ k_20) hK hP hD hS hA rfl (fun j hj => by rcases (show j = 0 ∨ j = 1 ∨ j = 2 by omega) with rfl | rfl | rfl <;> rfl) (Nat.le_of_ble_eq_true rfl) (Nat.le_of_ble_eq_true rfl) d_Mv_init_5 (fun q_1 H hq_q_1 hP hD hS => ?_)
  obtain ⟨L_3, eL_3⟩ : ∃ z, z = L ++ [q_1] := ⟨_, rfl⟩
  obtain ⟨f_2, ef_2⟩ : ∃ z, z = va_up f q_1 (.inr (4, [.long 0, .long 0, .int 0])) := ⟨_, rfl⟩
  have hP : va_P (dC, dI) classes (va_pl L_3 f_2) H := by rw [eL_3, ef_2]; exact hP
  have hD : va_D A (va_pl L_3 f_2) := by rw [eL_3, ef_2]; exact hD
  have ne_6 : mv ≠ q_1 := fun z => hq_q_1 (z ▸ hm_mv)
  have hm_5 : mv ∈ L_3 := by rw [eL_3]; exact List.mem_append_left _ hm_mv
  have he_4 : f_2 mv = .inr (3, [.null, .null, .int mv_ct, .null, .int (bI mv_hp)]) := by rw [ef_2, va_up_ne _ _ ne_6]; exact he_mv
  have hm_8 : q_1 ∈ L_3 := by rw [eL_3]; exact List.mem_append_right _ (List.mem_singleton.mpr rfl)
  have he_7 : f_2 q_1 = .inr (4, [.long 0, .long 0, .int 0]) := by rw [ef_2]; exact va_up_self _ _ _
  refine lv_dup hx hb d_Mv_init_8 rfl ?_
  refine mu_callv (va_runIN (As := []) (rest := [.ref q_1, .ref mv]) ⟨hx, hb, hml, hown, hts⟩ (c_Ap_init l dC dI tys L_3 f_2 _ q_1 0 0 0 hm_8 he_7) ⟨va_cnB 0 hts (gd_c k_177) rfl rfl rfl (hN _ k_342) (hG _ k_20) (by decide +kernel) ⟨Nat.le_of_ble_eq_true rfl, Nat.le_of_ble_eq_true rfl⟩, rfl, (hG _ k_176)⟩ (mu_preS hK hN hP hD) rfl rfl hl.1 rfl (lv_room (Nat.le_of_ble_eq_true rfl)) d_Mv_init_9 ⟨Nat.le_of_ble_eq_true rfl, Nat.le_of_ble_eq_true rfl⟩) hD hS hA (fun ur_9 H locs hr_9 hP hD hS => ?_)
  subst hr_9
  have hP : va_P (dC, dI) classes (va_pl L_3 f_2) H := by rw []; exact hP
  have hD : va_D A (va_pl L_3 f_2) := by rw []; exact hD
  refine fw_putF (D := (dC, dI)) (ci := 3) (v := .ref q_1) (ty := (.object "FundBook$Approvals")) (C := R_Mv) (T := F_Mv) (N := 5) hx hb hG iG_Mv t_Mv t_Mv_ok n_Mv hown hK hP hD hS hm_5 he_4 rfl 3 (by decide) (hG _ k_346) (fun _ h9 => h9) rfl hin rfl (by decide +kernel) rfl rfl (Nat.le_of_ble_eq_true rfl) d_Mv_init_12 (fun H locs hP hD hS => ?_)
  obtain ⟨f_10, ef_10⟩ : ∃ z, z = va_up f_2 mv (.inr (3, [.null, .null, .int mv_ct, .ref q_1, .int (bI mv_hp)])) := ⟨_, rfl⟩
  have he_11 : f_10 mv = .inr (3, [.null, .null, .int mv_ct, .ref q_1, .int (bI mv_hp)]) := by rw [ef_10]; exact va_up_self _ _ _
  have he_12 : f_10 q_1 = .inr (4, [.long 0, .long 0, .int 0]) := by rw [ef_10, va_up_ne _ _ (Ne.symm ne_6)]; exact he_7
  have hP : va_P (dC, dI) classes (va_pl L_3 f_10) H := by rw [ef_10]; exact hP
  have hD : va_D A (va_pl L_3 f_10) := by rw [ef_10]; exact hD
  refine lv_aload_n hx hb d_Mv_init_15 rfl (lv_at hl 0 rfl) ?_
  refine lv_aload_n hx hb d_Mv_init_16 rfl (lv_at hl 1 rfl) ?_
  refine fw_putF (D := (dC, dI)) (ci := 3) (v := .ref a0) (ty := (.object "FundBook$Account")) (C := R_Mv) (T := F_Mv) (N := 5) hx hb hG iG_Mv t_Mv t_Mv_ok n_Mv hown hK hP hD hS hm_5 he_11 rfl 0 (by decide) (hG _ k_343) (fun _ h9 => h9) rfl hin rfl (by decide +kernel) rfl rfl (Nat.le_of_ble_eq_true rfl) d_Mv_init_17 (fun H locs hP hD hS => ?_)
  obtain ⟨f_13, ef_13⟩ : ∃ z, z = va_up f_10 mv (.inr (3, [.ref a0, .null, .int mv_ct, .ref q_1, .int (bI mv_hp)])) := ⟨_, rfl⟩
  have he_14 : f_13 mv = .inr (3, [.ref a0, .null, .int mv_ct, .ref q_1, .int (bI mv_hp)]) := by rw [ef_13]; exact va_up_self _ _ _
  have he_15 : f_13 q_1 = .inr (4, [.long 0, .long 0, .int 0]) := by rw [ef_13, va_up_ne _ _ (Ne.symm ne_6)]; exact he_12
  have hP : va_P (dC, dI) classes (va_pl L_3 f_13) H := by rw [ef_13]; exact hP
  have hD : va_D A (va_pl L_3 f_13) := by rw [ef_13]; exact hD
  refine lv_aload_n hx hb d_Mv_init_20 rfl (lv_at hl 0 rfl) ?_
  refine lv_aload_n hx hb d_Mv_init_21 rfl (lv_at hl 2 rfl) ?_
  refine fw_putF (D := (dC, dI)) (ci := 3) (v := .ref b0) (ty := (.object "FundBook$Account")) (C := R_Mv) (T := F_Mv) (N := 5) hx hb hG iG_Mv t_Mv t_Mv_ok n_Mv hown hK hP hD hS hm_5 he_14 rfl 1 (by decide) (hG _ k_344) (fun _ h9 => h9) rfl hin rfl (by decide +kernel) rfl rfl (Nat.le_of_ble_eq_true rfl) d_Mv_init_22 (fun H locs hP hD hS => ?_)
  obtain ⟨f_16, ef_16⟩ : ∃ z, z = va_up f_13 mv (.inr (3, [.ref a0, .ref b0, .int mv_ct, .ref q_1, .int (bI mv_hp)])) := ⟨_, rfl⟩
  have he_17 : f_16 mv = .inr (3, [.ref a0, .ref b0, .int mv_ct, .ref q_1, .int (bI mv_hp)]) := by rw [ef_16]; exact va_up_self _ _ _
  have he_18 : f_16 q_1 = .inr (4, [.long 0, .long 0, .int 0]) := by rw [ef_16, va_up_ne _ _ (Ne.symm ne_6)]; exact he_15
  have hP : va_P (dC, dI) classes (va_pl L_3 f_16) H := by rw [ef_16]; exact hP
  have hD : va_D A (va_pl L_3 f_16) := by rw [ef_16]; exact hD
  refine lv_aload_n hx hb d_Mv_init_25 rfl (lv_at hl 0 rfl) ?_
  refine lv_iload_n hx hb d_Mv_init_26 rfl (lv_at hl 3 rfl) ?_
  refine fw_putF (D := (dC, dI)) (ci := 3) (v := .int ct) (ty := .int) (C := R_Mv) (T := F_Mv) (N := 5) hx hb hG iG_Mv t_Mv t_Mv_ok n_Mv hown hK hP hD hS hm_5 he_17 rfl 2 (by decide) (hG _ k_345) (fun _ h9 => h9) rfl hin rfl (by decide +kernel) rfl rfl (Nat.le_of_ble_eq_true rfl) d_Mv_init_27 (fun H locs hP hD hS => ?_)
  obtain ⟨f_19, ef_19⟩ : ∃ z, z = va_up f_16 mv (.inr (3, [.ref a0, .ref b0, .int ct, .ref q_1, .int (bI mv_hp)])) := ⟨_, rfl⟩
  have he_20 : f_19 mv = .inr (3, [.ref a0, .ref b0, .int ct, .ref q_1, .int (bI mv_hp)]) := by rw [ef_19]; exact va_up_self _ _ _
  have he_21 : f_19 q_1 = .inr (4, [.long 0, .long 0, .int 0]) := by rw [ef_19, va_up_ne _ _ (Ne.symm ne_6)]; exact he_18
  have hP : va_P (dC, dI) classes (va_pl L_3 f_19) H := by rw [ef_19]; exact hP
  have hD : va_D A (va_pl L_3 f_19) := by rw [ef_19]; exact hD
  refine W.widen (k := 1) (n := 3) (Nat.le_of_ble_eq_true rfl) (Nat.le_of_ble_eq_true rfl) ?_
  exact W.vret hx hb hr (fun t ht hW => ⟨⟨(L_3, f_19), rfl, ⟨q_1, hq_q_1, (by rw [ef_19, ef_16, ef_13, ef_10, ef_2, eL_3] <;> exact fw_same (by intro z; simp only [va_up] <;> grind))⟩, by rw [ht]; exact hP, va_K.moved hW.alike hK, hD⟩, hS.F ht⟩) hS.2.2 d_Mv_init_30

theorem d_Ra_init_0 : decode b_Ra_init 0 = .ok (.aload_n 0, 1) := by decide +kernel
theorem d_Ra_init_1 : decode b_Ra_init 1 = .ok (.invokespecial 1, 3) := by decide +kernel
theorem d_Ra_init_4 : decode b_Ra_init 4 = .ok (.aload_n 0, 1) := by decide +kernel
theorem d_Ra_init_5 : decode b_Ra_init 5 = .ok (.iload_n 1, 1) := by decide +kernel
theorem d_Ra_init_6 : decode b_Ra_init 6 = .ok (.putfield 7, 3) := by decide +kernel
theorem d_Ra_init_9 : decode b_Ra_init 9 = .ok (.aload_n 0, 1) := by decide +kernel
theorem d_Ra_init_10 : decode b_Ra_init 10 = .ok (.iload_n 2, 1) := by decide +kernel
theorem d_Ra_init_11 : decode b_Ra_init 11 = .ok (.putfield 13, 3) := by decide +kernel
theorem d_Ra_init_14 : decode b_Ra_init 14 = .ok (.aload_n 0, 1) := by decide +kernel
theorem d_Ra_init_15 : decode b_Ra_init 15 = .ok (.iconst 1, 1) := by decide +kernel
theorem d_Ra_init_16 : decode b_Ra_init 16 = .ok (.iload_n 3, 1) := by decide +kernel
theorem d_Ra_init_17 : decode b_Ra_init 17 = .ok (.invokestatic 16, 3) := by decide +kernel
theorem d_Ra_init_20 : decode b_Ra_init 20 = .ok (.putfield 22, 3) := by decide +kernel
theorem d_Ra_init_23 : decode b_Ra_init 23 = .ok (.aload_n 0, 1) := by decide +kernel
theorem d_Ra_init_24 : decode b_Ra_init 24 = .ok (.aload 4, 2) := by decide +kernel
theorem d_Ra_init_26 : decode b_Ra_init 26 = .ok (.putfield 25, 3) := by decide +kernel
theorem d_Ra_init_29 : decode b_Ra_init 29 = .ok (.aload_n 0, 1) := by decide +kernel
theorem d_Ra_init_30 : decode b_Ra_init 30 = .ok (.aload 4, 2) := by decide +kernel
theorem d_Ra_init_32 : decode b_Ra_init 32 = .ok (.ifnonnull 7, 3) := by decide +kernel
theorem d_Ra_init_35 : decode b_Ra_init 35 = .ok (.iconst 1, 1) := by decide +kernel
theorem d_Ra_init_36 : decode b_Ra_init 36 = .ok (.goto 10, 3) := by decide +kernel
theorem d_Ra_init_46 : decode b_Ra_init 46 = .ok (.putfield 29, 3) := by decide +kernel
theorem d_Ra_init_49 : decode b_Ra_init 49 = .ok (.return_, 1) := by decide +kernel
set_option maxHeartbeats 4000000 in
set_option maxRecDepth 100000 in
theorem c_Ra_init0 (l : Launch) (dC : Nat → ClassId) (dI : Nat → Nat → Nat) (tys : List (ClassId × FieldType)) (L : List Nat) (f : Nat → va_E) (sz : Nat) (ra : Nat) (ra_dy ra_up ra_dn ra_rk : Int32) (dy : Int32) (up : Int32) (dn : Int32) (hm_ra : ra ∈ L) (he_ra : f ra = .inr (5, [.int ra_dy, .int ra_up, .int ra_dn, .null, .int ra_rk])) : Met l y_Ra_init w_Ra_init { frames := 1, cells := 0, slots := 0, locals := 14 } (mu_P (dC, dI) classes tys (va_pl L f) sz [.ref ra, .int dy, .int up, .int dn, .null]) (va_Qv (fun u => u = (L, va_up f ra (.inr (5, [.int dy, .int up, .int (if 1 < dn then dn else 1), va_rf none, .int 1])))) (mu_B (dC, dI) classes tys (va_A (va_pl L f) sz) fw_w) (va_A (va_pl L f) sz)) 0 0 (va_A (va_pl L f) sz) := by
  refine Met.ofW (cc := b_Ra_init) (maxL := 5) (ret := none) (by decide) rfl ?_
  intro p e s m args below meth c s₁ B hml hv
  obtain ⟨rfl, hsz, hP, hK, hD0, hN⟩ := hv
  have hx := B.exec
  have hb := B.bytes
  have hr := B.returns
  have hts := atoms_spec (ws := w_Ra_init) B.pre
  have hG := fun (w : Cond) (h : w ∈ wG) => hts w (List.mem_cons_of_mem _ h)
  have hown : s.vm.findClass R_Ra = some m.cls := findClass_of_methodNamed B.named
  have hlocks := B.notSynchronized
  have hin : meth.name = "<init>" := (name_of_methodNamed B.named B.method).1
  subst hsz
  have hD := hD0.self (sz := s.heap.size)
  generalize hAe : va_A (va_pl L f) s.heap.size = A at hD ⊢
  have hA : ∀ q : Nat, s.heap.size ≤ q → A q := fun q h => by rw [← hAe]; exact Or.inr h
  have hS : va_S A s.heap s.heap [] := va_S.rf
  have hP : va_P (dC, dI) classes (va_pl L f) s.heap := hP
  have hl := lv_entry ([.ref ra, .int dy, .int up, .int dn, .null]) (n := 5) (Nat.le_of_ble_eq_true rfl)
  rw [lg_entry_eq]
  generalize (lg_sl ([.ref ra, .int dy, .int up, .int dn, .null]) ++ List.replicate (5 - (lg_sl ([.ref ra, .int dy, .int up, .int dn, .null])).length) Slot.unset).toArray = ls at hl ⊢
  have hl : lv_has ls 5 [(0, .ref ra), (1, .int dy), (2, .int up), (3, .int dn), (4, .null)] := hl
  refine lv_aload_n hx hb d_Ra_init_0 rfl (lv_at hl 0 rfl) ?_
  refine W.objInit hx hb hown (hG _ k_311) (hG _ k_33) (hG _ k_34) rfl (by rw [hml]; exact hl.1) rfl d_Ra_init_1 (Nat.le_of_ble_eq_true rfl) (Nat.le_of_ble_eq_true rfl) ?_
  refine W.eq (g2 := F0 m 4 ls []) rfl ?_
  refine lv_aload_n hx hb d_Ra_init_4 rfl (lv_at hl 0 rfl) ?_
  refine lv_iload_n hx hb d_Ra_init_5 rfl (lv_at hl 1 rfl) ?_
  refine fw_putF (D := (dC, dI)) (ci := 5) (v := .int dy) (ty := .int) (C := R_Ra) (T := F_Ra) (N := 5) hx hb hG iG_Ra t_Ra t_Ra_ok n_Ra hown hK hP hD hS hm_ra he_ra rfl 0 (by decide) (hG _ k_313) (fun _ h9 => h9) rfl hin rfl (by decide +kernel) rfl rfl (Nat.le_of_ble_eq_true rfl) d_Ra_init_6 (fun H locs hP hD hS => ?_)
  obtain ⟨f_1, ef_1⟩ : ∃ z, z = va_up f ra (.inr (5, [.int dy, .int ra_up, .int ra_dn, .null, .int ra_rk])) := ⟨_, rfl⟩
  have he_2 : f_1 ra = .inr (5, [.int dy, .int ra_up, .int ra_dn, .null, .int ra_rk]) := by rw [ef_1]; exact va_up_self _ _ _
  have hP : va_P (dC, dI) classes (va_pl L f_1) H := by rw [ef_1]; exact hP
  have hD : va_D A (va_pl L f_1) := by rw [ef_1]; exact hD
  refine lv_aload_n hx hb d_Ra_init_9 rfl (lv_at hl 0 rfl) ?_
  refine lv_iload_n hx hb d_Ra_init_10 rfl (lv_at hl 2 rfl) ?_
  refine fw_putF (D := (dC, dI)) (ci := 5) (v := .int up) (ty := .int) (C := R_Ra) (T := F_Ra) (N := 5) hx hb hG iG_Ra t_Ra t_Ra_ok n_Ra hown hK hP hD hS hm_ra he_2 rfl 1 (by decide) (hG _ k_315) (fun _ h9 => h9) rfl hin rfl (by decide +kernel) rfl rfl (Nat.le_of_ble_eq_true rfl) d_Ra_init_11 (fun H locs hP hD hS => ?_)
  obtain ⟨f_3, ef_3⟩ : ∃ z, z = va_up f_1 ra (.inr (5, [.int dy, .int up, .int ra_dn, .null, .int ra_rk])) := ⟨_, rfl⟩
  have he_4 : f_3 ra = .inr (5, [.int dy, .int up, .int ra_dn, .null, .int ra_rk]) := by rw [ef_3]; exact va_up_self _ _ _
  have hP : va_P (dC, dI) classes (va_pl L f_3) H := by rw [ef_3]; exact hP
  have hD : va_D A (va_pl L f_3) := by rw [ef_3]; exact hD
  refine lv_aload_n hx hb d_Ra_init_14 rfl (lv_at hl 0 rfl) ?_
  refine lv_iconst (v := 1) hx hb d_Ra_init_15 (by decide) ?_
  refine lv_iload_n hx hb d_Ra_init_16 rfl (lv_at hl 3 rfl) ?_
  refine va_mmax hx hb (by rw [hml]; exact hl.1.symm) hown (hG _ k_312) (hG _ k_65) (hG _ k_16) (hG _ k_66) (Nat.le_of_ble_eq_true rfl) (Nat.le_of_ble_eq_true rfl) (Nat.zero_le _) (Nat.zero_le _) d_Ra_init_17 ?_
  refine fw_putF (D := (dC, dI)) (ci := 5) (v := .int (if 1 < dn then dn else 1)) (ty := .int) (C := R_Ra) (T := F_Ra) (N := 5) hx hb hG iG_Ra t_Ra t_Ra_ok n_Ra hown hK hP hD hS hm_ra he_4 rfl 2 (by decide) (hG _ k_316) (fun _ h9 => h9) rfl hin rfl (by decide +kernel) rfl rfl (Nat.le_of_ble_eq_true rfl) d_Ra_init_20 (fun H locs hP hD hS => ?_)
  obtain ⟨f_5, ef_5⟩ : ∃ z, z = va_up f_3 ra (.inr (5, [.int dy, .int up, .int (if 1 < dn then dn else 1), .null, .int ra_rk])) := ⟨_, rfl⟩
  have he_6 : f_5 ra = .inr (5, [.int dy, .int up, .int (if 1 < dn then dn else 1), .null, .int ra_rk]) := by rw [ef_5]; exact va_up_self _ _ _
  have hP : va_P (dC, dI) classes (va_pl L f_5) H := by rw [ef_5]; exact hP
  have hD : va_D A (va_pl L f_5) := by rw [ef_5]; exact hD
  refine lv_aload_n hx hb d_Ra_init_23 rfl (lv_at hl 0 rfl) ?_
  refine lv_aloadN hx hb d_Ra_init_24 (lv_at hl 4 rfl) ?_
  refine fw_putF (D := (dC, dI)) (ci := 5) (v := .null) (ty := (.object "FundBook$Rate")) (C := R_Ra) (T := F_Ra) (N := 5) hx hb hG iG_Ra t_Ra t_Ra_ok n_Ra hown hK hP hD hS hm_ra he_6 rfl 3 (by decide) (hG _ k_317) (fun _ h9 => h9) rfl hin rfl (by decide +kernel) rfl rfl (Nat.le_of_ble_eq_true rfl) d_Ra_init_26 (fun H locs hP hD hS => ?_)
  obtain ⟨f_7, ef_7⟩ : ∃ z, z = va_up f_5 ra (.inr (5, [.int dy, .int up, .int (if 1 < dn then dn else 1), va_rf none, .int ra_rk])) := ⟨_, rfl⟩
  have he_8 : f_7 ra = .inr (5, [.int dy, .int up, .int (if 1 < dn then dn else 1), va_rf none, .int ra_rk]) := by rw [ef_7]; exact va_up_self _ _ _
  have hP : va_P (dC, dI) classes (va_pl L f_7) H := by rw [ef_7]; exact hP
  have hD : va_D A (va_pl L f_7) := by rw [ef_7]; exact hD
  refine lv_aload_n hx hb d_Ra_init_29 rfl (lv_at hl 0 rfl) ?_
  refine lv_aloadN hx hb d_Ra_init_30 (lv_at hl 4 rfl) ?_
  refine lv_ifnonnullN hx hb d_Ra_init_32 ?_
  refine lv_iconst (v := 1) hx hb d_Ra_init_35 (by decide) ?_
  refine lv_goto (tgt := 46) hx hb d_Ra_init_36 (by decide) ?_
  refine fw_putF (D := (dC, dI)) (ci := 5) (v := .int 1) (ty := .int) (C := R_Ra) (T := F_Ra) (N := 5) hx hb hG iG_Ra t_Ra t_Ra_ok n_Ra hown hK hP hD hS hm_ra he_8 rfl 4 (by decide) (hG _ k_319) (fun _ h9 => h9) rfl hin rfl (by decide +kernel) rfl rfl (Nat.le_of_ble_eq_true rfl) d_Ra_init_46 (fun H locs hP hD hS => ?_)
  obtain ⟨f_9, ef_9⟩ : ∃ z, z = va_up f_7 ra (.inr (5, [.int dy, .int up, .int (if 1 < dn then dn else 1), va_rf none, .int 1])) := ⟨_, rfl⟩
  have he_10 : f_9 ra = .inr (5, [.int dy, .int up, .int (if 1 < dn then dn else 1), va_rf none, .int 1]) := by rw [ef_9]; exact va_up_self _ _ _
  have hP : va_P (dC, dI) classes (va_pl L f_9) H := by rw [ef_9]; exact hP
  have hD : va_D A (va_pl L f_9) := by rw [ef_9]; exact hD
  exact W.vret hx hb hr (fun t ht hW => ⟨⟨(L, f_9), rfl, (by rw [ef_9, ef_7, ef_5, ef_3, ef_1] <;> exact fw_same (by intro z; simp only [va_up] <;> grind)), by rw [ht]; exact hP, va_K.moved hW.alike hK, hD⟩, hS.F ht⟩) hS.2.2 d_Ra_init_49

theorem d_Ra_init_39 : decode b_Ra_init 39 = .ok (.aload 4, 2) := by decide +kernel
theorem d_Ra_init_41 : decode b_Ra_init 41 = .ok (.getfield 29, 3) := by decide +kernel
theorem d_Ra_init_44 : decode b_Ra_init 44 = .ok (.iconst 1, 1) := by decide +kernel
theorem d_Ra_init_45 : decode b_Ra_init 45 = .ok (.iadd, 1) := by decide +kernel
set_option maxHeartbeats 4000000 in
set_option maxRecDepth 100000 in
theorem c_Ra_init1 (l : Launch) (dC : Nat → ClassId) (dI : Nat → Nat → Nat) (tys : List (ClassId × FieldType)) (L : List Nat) (f : Nat → va_E) (sz : Nat) (ra : Nat) (eb : Nat) (ra_dy ra_up ra_dn ra_rk : Int32) (eb_dy eb_up eb_dn eb_rk : Int32) (eb_ea : Option Nat) (dy : Int32) (up : Int32) (dn : Int32) (hm_ra : ra ∈ L) (he_ra : f ra = .inr (5, [.int ra_dy, .int ra_up, .int ra_dn, .null, .int ra_rk])) (hm_eb : eb ∈ L) (he_eb : f eb = .inr (5, [.int eb_dy, .int eb_up, .int eb_dn, va_rf eb_ea, .int eb_rk])) (ne_ra_eb : ra ≠ eb) : Met l y_Ra_init w_Ra_init { frames := 1, cells := 0, slots := 0, locals := 14 } (mu_P (dC, dI) classes tys (va_pl L f) sz [.ref ra, .int dy, .int up, .int dn, .ref eb]) (va_Qv (fun u => u = (L, va_up f ra (.inr (5, [.int dy, .int up, .int (if 1 < dn then dn else 1), va_rf (some eb), .int (eb_rk + 1)])))) (mu_B (dC, dI) classes tys (va_A (va_pl L f) sz) fw_w) (va_A (va_pl L f) sz)) 0 0 (va_A (va_pl L f) sz) := by
  refine Met.ofW (cc := b_Ra_init) (maxL := 5) (ret := none) (by decide) rfl ?_
  intro p e s m args below meth c s₁ B hml hv
  obtain ⟨rfl, hsz, hP, hK, hD0, hN⟩ := hv
  have hx := B.exec
  have hb := B.bytes
  have hr := B.returns
  have hts := atoms_spec (ws := w_Ra_init) B.pre
  have hG := fun (w : Cond) (h : w ∈ wG) => hts w (List.mem_cons_of_mem _ h)
  have hown : s.vm.findClass R_Ra = some m.cls := findClass_of_methodNamed B.named
  have hlocks := B.notSynchronized
  have hin : meth.name = "<init>" := (name_of_methodNamed B.named B.method).1
  subst hsz
  have hD := hD0.self (sz := s.heap.size)
  generalize hAe : va_A (va_pl L f) s.heap.size = A at hD ⊢
  have hA : ∀ q : Nat, s.heap.size ≤ q → A q := fun q h => by rw [← hAe]; exact Or.inr h
  have hS : va_S A s.heap s.heap [] := va_S.rf
  have hP : va_P (dC, dI) classes (va_pl L f) s.heap := hP
  have hl := lv_entry ([.ref ra, .int dy, .int up, .int dn, .ref eb]) (n := 5) (Nat.le_of_ble_eq_true rfl)
  rw [lg_entry_eq]
  generalize (lg_sl ([.ref ra, .int dy, .int up, .int dn, .ref eb]) ++ List.replicate (5 - (lg_sl ([.ref ra, .int dy, .int up, .int dn, .ref eb])).length) Slot.unset).toArray = ls at hl ⊢
  have hl : lv_has ls 5 [(0, .ref ra), (1, .int dy), (2, .int up), (3, .int dn), (4, .ref eb)] := hl
  refine lv_aload_n hx hb d_Ra_init_0 rfl (lv_at hl 0 rfl) ?_
  refine W.objInit hx hb hown (hG _ k_311) (hG _ k_33) (hG _ k_34) rfl (by rw [hml]; exact hl.1) rfl d_Ra_init_1 (Nat.le_of_ble_eq_true rfl) (Nat.le_of_ble_eq_true rfl) ?_
  refine W.eq (g2 := F0 m 4 ls []) rfl ?_
  refine lv_aload_n hx hb d_Ra_init_4 rfl (lv_at hl 0 rfl) ?_
  refine lv_iload_n hx hb d_Ra_init_5 rfl (lv_at hl 1 rfl) ?_
  refine fw_putF (D := (dC, dI)) (ci := 5) (v := .int dy) (ty := .int) (C := R_Ra) (T := F_Ra) (N := 5) hx hb hG iG_Ra t_Ra t_Ra_ok n_Ra hown hK hP hD hS hm_ra he_ra rfl 0 (by decide) (hG _ k_313) (fun _ h9 => h9) rfl hin rfl (by decide +kernel) rfl rfl (Nat.le_of_ble_eq_true rfl) d_Ra_init_6 (fun H locs hP hD hS => ?_)
  obtain ⟨f_1, ef_1⟩ : ∃ z, z = va_up f ra (.inr (5, [.int dy, .int ra_up, .int ra_dn, .null, .int ra_rk])) := ⟨_, rfl⟩
  have he_2 : f_1 ra = .inr (5, [.int dy, .int ra_up, .int ra_dn, .null, .int ra_rk]) := by rw [ef_1]; exact va_up_self _ _ _
  have he_3 : f_1 eb = .inr (5, [.int eb_dy, .int eb_up, .int eb_dn, va_rf eb_ea, .int eb_rk]) := by rw [ef_1, va_up_ne _ _ (Ne.symm ne_ra_eb)]; exact he_eb
  have hP : va_P (dC, dI) classes (va_pl L f_1) H := by rw [ef_1]; exact hP
  have hD : va_D A (va_pl L f_1) := by rw [ef_1]; exact hD
  refine lv_aload_n hx hb d_Ra_init_9 rfl (lv_at hl 0 rfl) ?_
  refine lv_iload_n hx hb d_Ra_init_10 rfl (lv_at hl 2 rfl) ?_
  refine fw_putF (D := (dC, dI)) (ci := 5) (v := .int up) (ty := .int) (C := R_Ra) (T := F_Ra) (N := 5) hx hb hG iG_Ra t_Ra t_Ra_ok n_Ra hown hK hP hD hS hm_ra he_2 rfl 1 (by decide) (hG _ k_315) (fun _ h9 => h9) rfl hin rfl (by decide +kernel) rfl rfl (Nat.le_of_ble_eq_true rfl) d_Ra_init_11 (fun H locs hP hD hS => ?_)
  obtain ⟨f_4, ef_4⟩ : ∃ z, z = va_up f_1 ra (.inr (5, [.int dy, .int up, .int ra_dn, .null, .int ra_rk])) := ⟨_, rfl⟩
  have he_5 : f_4 ra = .inr (5, [.int dy, .int up, .int ra_dn, .null, .int ra_rk]) := by rw [ef_4]; exact va_up_self _ _ _
  have he_6 : f_4 eb = .inr (5, [.int eb_dy, .int eb_up, .int eb_dn, va_rf eb_ea, .int eb_rk]) := by rw [ef_4, va_up_ne _ _ (Ne.symm ne_ra_eb)]; exact he_3
  have hP : va_P (dC, dI) classes (va_pl L f_4) H := by rw [ef_4]; exact hP
  have hD : va_D A (va_pl L f_4) := by rw [ef_4]; exact hD
  refine lv_aload_n hx hb d_Ra_init_14 rfl (lv_at hl 0 rfl) ?_
  refine lv_iconst (v := 1) hx hb d_Ra_init_15 (by decide) ?_
  refine lv_iload_n hx hb d_Ra_init_16 rfl (lv_at hl 3 rfl) ?_
  refine va_mmax hx hb (by rw [hml]; exact hl.1.symm) hown (hG _ k_312) (hG _ k_65) (hG _ k_16) (hG _ k_66) (Nat.le_of_ble_eq_true rfl) (Nat.le_of_ble_eq_true rfl) (Nat.zero_le _) (Nat.zero_le _) d_Ra_init_17 ?_
  refine fw_putF (D := (dC, dI)) (ci := 5) (v := .int (if 1 < dn then dn else 1)) (ty := .int) (C := R_Ra) (T := F_Ra) (N := 5) hx hb hG iG_Ra t_Ra t_Ra_ok n_Ra hown hK hP hD hS hm_ra he_5 rfl 2 (by decide) (hG _ k_316) (fun _ h9 => h9) rfl hin rfl (by decide +kernel) rfl rfl (Nat.le_of_ble_eq_true rfl) d_Ra_init_20 (fun H locs hP hD hS => ?_)
  obtain ⟨f_7, ef_7⟩ : ∃ z, z = va_up f_4 ra (.inr (5, [.int dy, .int up, .int (if 1 < dn then dn else 1), .null, .int ra_rk])) := ⟨_, rfl⟩
  have he_8 : f_7 ra = .inr (5, [.int dy, .int up, .int (if 1 < dn then dn else 1), .null, .int ra_rk]) := by rw [ef_7]; exact va_up_self _ _ _
  have he_9 : f_7 eb = .inr (5, [.int eb_dy, .int eb_up, .int eb_dn, va_rf eb_ea, .int eb_rk]) := by rw [ef_7, va_up_ne _ _ (Ne.symm ne_ra_eb)]; exact he_6
  have hP : va_P (dC, dI) classes (va_pl L f_7) H := by rw [ef_7]; exact hP
  have hD : va_D A (va_pl L f_7) := by rw [ef_7]; exact hD
  refine lv_aload_n hx hb d_Ra_init_23 rfl (lv_at hl 0 rfl) ?_
  refine lv_aload hx hb d_Ra_init_24 (lv_at hl 4 rfl) ?_
  refine fw_putF (D := (dC, dI)) (ci := 5) (v := .ref eb) (ty := (.object "FundBook$Rate")) (C := R_Ra) (T := F_Ra) (N := 5) hx hb hG iG_Ra t_Ra t_Ra_ok n_Ra hown hK hP hD hS hm_ra he_8 rfl 3 (by decide) (hG _ k_317) (fun _ h9 => h9) rfl hin rfl (by decide +kernel) rfl rfl (Nat.le_of_ble_eq_true rfl) d_Ra_init_26 (fun H locs hP hD hS => ?_)
  obtain ⟨f_10, ef_10⟩ : ∃ z, z = va_up f_7 ra (.inr (5, [.int dy, .int up, .int (if 1 < dn then dn else 1), va_rf (some eb), .int ra_rk])) := ⟨_, rfl⟩
  have he_11 : f_10 ra = .inr (5, [.int dy, .int up, .int (if 1 < dn then dn else 1), va_rf (some eb), .int ra_rk]) := by rw [ef_10]; exact va_up_self _ _ _
  have he_12 : f_10 eb = .inr (5, [.int eb_dy, .int eb_up, .int eb_dn, va_rf eb_ea, .int eb_rk]) := by rw [ef_10, va_up_ne _ _ (Ne.symm ne_ra_eb)]; exact he_9
  have hP : va_P (dC, dI) classes (va_pl L f_10) H := by rw [ef_10]; exact hP
  have hD : va_D A (va_pl L f_10) := by rw [ef_10]; exact hD
  refine lv_aload_n hx hb d_Ra_init_29 rfl (lv_at hl 0 rfl) ?_
  refine lv_aload hx hb d_Ra_init_30 (lv_at hl 4 rfl) ?_
  refine lv_ifnonnull (tgt := 39) hx hb d_Ra_init_32 (by decide) ?_
  refine lv_aload hx hb d_Ra_init_39 (lv_at hl 4 rfl) ?_
  refine fw_get (D := (dC, dI)) (ci := 5) (v := .int eb_rk) (C := R_Ra) (T := F_Ra) (N := 5) hx hb hG iG_Ra hown hK hP hm_eb he_12 rfl 4 (by decide) (hG _ k_319) (fun _ h9 => h9) rfl d_Ra_init_41 ?_
  refine lv_iconst (v := 1) hx hb d_Ra_init_44 (by decide) ?_
  refine lv_iadd hx hb d_Ra_init_45 ?_
  refine fw_putF (D := (dC, dI)) (ci := 5) (v := .int (eb_rk + 1)) (ty := .int) (C := R_Ra) (T := F_Ra) (N := 5) hx hb hG iG_Ra t_Ra t_Ra_ok n_Ra hown hK hP hD hS hm_ra he_11 rfl 4 (by decide) (hG _ k_319) (fun _ h9 => h9) rfl hin rfl (by decide +kernel) rfl rfl (Nat.le_of_ble_eq_true rfl) d_Ra_init_46 (fun H locs hP hD hS => ?_)
  obtain ⟨f_13, ef_13⟩ : ∃ z, z = va_up f_10 ra (.inr (5, [.int dy, .int up, .int (if 1 < dn then dn else 1), va_rf (some eb), .int (eb_rk + 1)])) := ⟨_, rfl⟩
  have he_14 : f_13 ra = .inr (5, [.int dy, .int up, .int (if 1 < dn then dn else 1), va_rf (some eb), .int (eb_rk + 1)]) := by rw [ef_13]; exact va_up_self _ _ _
  have he_15 : f_13 eb = .inr (5, [.int eb_dy, .int eb_up, .int eb_dn, va_rf eb_ea, .int eb_rk]) := by rw [ef_13, va_up_ne _ _ (Ne.symm ne_ra_eb)]; exact he_12
  have hP : va_P (dC, dI) classes (va_pl L f_13) H := by rw [ef_13]; exact hP
  have hD : va_D A (va_pl L f_13) := by rw [ef_13]; exact hD
  exact W.vret hx hb hr (fun t ht hW => ⟨⟨(L, f_13), rfl, (by rw [ef_13, ef_10, ef_7, ef_4, ef_1] <;> exact fw_same (by intro z; simp only [va_up] <;> grind)), by rw [ht]; exact hP, va_K.moved hW.alike hK, hD⟩, hS.F ht⟩) hS.2.2 d_Ra_init_49
