theorem d_Pu_place_0 : decode b_Pu_place 0 = .ok (.aload_n 0, 1) := by decide +kernel
theorem d_Pu_place_1 : decode b_Pu_place 1 = .ok (.iconst 1, 1) := by decide +kernel
theorem d_Pu_place_2 : decode b_Pu_place 2 = .ok (.putfield 18, 3) := by decide +kernel
theorem d_Pu_place_5 : decode b_Pu_place 5 = .ok (.aload_n 0, 1) := by decide +kernel
theorem d_Pu_place_6 : decode b_Pu_place 6 = .ok (.getfield 25, 3) := by decide +kernel
theorem d_Pu_place_9 : decode b_Pu_place 9 = .ok (.dup, 1) := by decide +kernel
theorem d_Pu_place_10 : decode b_Pu_place 10 = .ok (.getfield 36, 3) := by decide +kernel
theorem d_Pu_place_13 : decode b_Pu_place 13 = .ok (.aload_n 0, 1) := by decide +kernel
theorem d_Pu_place_14 : decode b_Pu_place 14 = .ok (.getfield 29, 3) := by decide +kernel
theorem d_Pu_place_17 : decode b_Pu_place 17 = .ok (.i2l, 1) := by decide +kernel
theorem d_Pu_place_18 : decode b_Pu_place 18 = .ok (.ladd, 1) := by decide +kernel
theorem d_Pu_place_19 : decode b_Pu_place 19 = .ok (.putfield 36, 3) := by decide +kernel
theorem d_Pu_place_22 : decode b_Pu_place 22 = .ok (.return_, 1) := by decide +kernel
set_option maxHeartbeats 4000000 in
set_option maxRecDepth 100000 in
theorem c_Pu_place (l : Launch) (dC : Nat → ClassId) (dI : Nat → Nat → Nat) (tys : List (ClassId × FieldType)) (L : List Nat) (f : Nat → va_E) (sz : Nat) (pu : Nat) (a : Nat) (pu_ct pu_stt pu_ic pu_lm : Int32) (pu_lx : Int64) (pu_ap : Nat) (pu_st : Bool) (a_n a_cy : Int32) (a_g a_en a_sp a_pd : Int64) (hm_pu : pu ∈ L) (he_pu : f pu = .inr (2, [.ref a, .int pu_ct, .int (bI pu_st), .ref pu_ap, .int pu_stt, .int pu_ic, .int pu_lm, .long pu_lx])) (hm_a : a ∈ L) (he_a : f a = .inr (1, [.int a_n, .int a_cy, .long a_g, .long a_en, .long a_sp, .long a_pd])) : Met l y_Pu_place w_Pu_place { frames := 0, cells := 0, slots := 0, locals := 0 } (mu_P (dC, dI) classes tys (va_pl L f) sz [.ref pu]) (va_Qv (fun u => u = (L, va_up (va_up f pu (.inr (2, [.ref a, .int pu_ct, .int (bI pu_st), .ref pu_ap, .int 1, .int pu_ic, .int pu_lm, .long pu_lx]))) a (.inr (1, [.int a_n, .int a_cy, .long a_g, .long (a_en + pu_ct.toInt64), .long a_sp, .long a_pd])))) (mu_B (dC, dI) classes tys (va_A (va_pl L f) sz) fw_w) (va_A (va_pl L f) sz)) 0 0 (va_A (va_pl L f) sz) := by
  refine Met.ofW (cc := b_Pu_place) (maxL := 1) (ret := none) (by decide) rfl ?_
  intro p e s m args below meth c s₁ B hml hv
  obtain ⟨rfl, hsz, hP, hK, hD0, hN⟩ := hv
  have hx := B.exec
  have hb := B.bytes
  have hr := B.returns
  have hts := atoms_spec (ws := w_Pu_place) B.pre
  have hG := fun (w : Cond) (h : w ∈ wG) => hts w (List.mem_cons_of_mem _ h)
  have hown : s.vm.findClass R_Pu = some m.cls := findClass_of_methodNamed B.named
  have hlocks := B.notSynchronized
  subst hsz
  have hD := hD0.self (sz := s.heap.size)
  generalize hAe : va_A (va_pl L f) s.heap.size = A at hD ⊢
  have hA : ∀ q : Nat, s.heap.size ≤ q → A q := fun q h => by rw [← hAe]; exact Or.inr h
  have hS : va_S A s.heap s.heap [] := va_S.rf
  have hP : va_P (dC, dI) classes (va_pl L f) s.heap := hP
  have hl := lv_entry ([.ref pu]) (n := 1) (Nat.le_of_ble_eq_true rfl)
  rw [lg_entry_eq]
  generalize (lg_sl ([.ref pu]) ++ List.replicate (1 - (lg_sl ([.ref pu])).length) Slot.unset).toArray = ls at hl ⊢
  have hl : lv_has ls 1 [(0, .ref pu)] := hl
  have ne_pu_a : pu ≠ a := (fw_ne he_pu he_a (show (3 : Nat) ≠ 2 by decide))
  refine lv_aload_n hx hb d_Pu_place_0 rfl (lv_at hl 0 rfl) ?_
  refine lv_iconst (v := 1) hx hb d_Pu_place_1 (by decide) ?_
  refine fw_put (D := (dC, dI)) (ci := 2) (v := .int 1) (ty := .int) (C := R_Pu) (T := F_Pu) (N := 8) hx hb hG iG_Pu t_Pu t_Pu_ok n_Pu hown hK hP hD hS hm_pu he_pu rfl 4 (by decide) (hG _ k_198) (fun _ h9 => h9) rfl (by decide +kernel) rfl rfl (Nat.le_of_ble_eq_true rfl) d_Pu_place_2 (fun H locs hP hD hS => ?_)
  obtain ⟨f_1, ef_1⟩ : ∃ z, z = va_up f pu (.inr (2, [.ref a, .int pu_ct, .int (bI pu_st), .ref pu_ap, .int 1, .int pu_ic, .int pu_lm, .long pu_lx])) := ⟨_, rfl⟩
  have he_2 : f_1 pu = .inr (2, [.ref a, .int pu_ct, .int (bI pu_st), .ref pu_ap, .int 1, .int pu_ic, .int pu_lm, .long pu_lx]) := by rw [ef_1]; exact va_up_self _ _ _
  have he_3 : f_1 a = .inr (1, [.int a_n, .int a_cy, .long a_g, .long a_en, .long a_sp, .long a_pd]) := by rw [ef_1, va_up_ne _ _ (Ne.symm ne_pu_a)]; exact he_a
  have hP : va_P (dC, dI) classes (va_pl L f_1) H := by rw [ef_1]; exact hP
  have hD : va_D A (va_pl L f_1) := by rw [ef_1]; exact hD
  refine lv_aload_n hx hb d_Pu_place_5 rfl (lv_at hl 0 rfl) ?_
  refine fw_get (D := (dC, dI)) (ci := 2) (v := .ref a) (C := R_Pu) (T := F_Pu) (N := 8) hx hb hG iG_Pu hown hK hP hm_pu he_2 rfl 0 (by decide) (hG _ k_191) (fun _ h9 => h9) rfl d_Pu_place_6 ?_
  refine lv_dup hx hb d_Pu_place_9 rfl ?_
  refine fw_getN (D := (dC, dI)) (ci := 1) (v := .long a_en) (C := R_Ac) (T := F_Ac) (N := 6) hx hb hG iG_Ac hown hK hP hm_a he_3 rfl 3 (by decide) (hN.use k_122) (fun _ h9 => h9) rfl d_Pu_place_10 ?_
  refine lv_aload_n hx hb d_Pu_place_13 rfl (lv_at hl 0 rfl) ?_
  refine fw_get (D := (dC, dI)) (ci := 2) (v := .int pu_ct) (C := R_Pu) (T := F_Pu) (N := 8) hx hb hG iG_Pu hown hK hP hm_pu he_2 rfl 1 (by decide) (hG _ k_193) (fun _ h9 => h9) rfl d_Pu_place_14 ?_
  refine lv_i2l hx hb d_Pu_place_17 rfl ?_
  refine lv_ladd hx hb d_Pu_place_18 ?_
  refine fw_putN (D := (dC, dI)) (ci := 1) (v := .long (a_en + (pu_ct.toInt64))) (ty := .long) (C := R_Ac) (T := F_Ac) (N := 6) hx hb hG iG_Ac t_Ac t_Ac_ok n_Ac hown hK hP hD hS hm_a he_3 rfl 3 (by decide) (hN.use k_122) (fun _ h9 => h9) rfl (by decide +kernel) rfl rfl (Nat.le_of_ble_eq_true rfl) d_Pu_place_19 (fun H locs hP hD hS => ?_)
  obtain ⟨f_4, ef_4⟩ : ∃ z, z = va_up f_1 a (.inr (1, [.int a_n, .int a_cy, .long a_g, .long (a_en + (pu_ct.toInt64)), .long a_sp, .long a_pd])) := ⟨_, rfl⟩
  have he_5 : f_4 pu = .inr (2, [.ref a, .int pu_ct, .int (bI pu_st), .ref pu_ap, .int 1, .int pu_ic, .int pu_lm, .long pu_lx]) := by rw [ef_4, va_up_ne _ _ ne_pu_a]; exact he_2
  have he_6 : f_4 a = .inr (1, [.int a_n, .int a_cy, .long a_g, .long (a_en + (pu_ct.toInt64)), .long a_sp, .long a_pd]) := by rw [ef_4]; exact va_up_self _ _ _
  have hP : va_P (dC, dI) classes (va_pl L f_4) H := by rw [ef_4]; exact hP
  have hD : va_D A (va_pl L f_4) := by rw [ef_4]; exact hD
  exact W.vret hx hb hr (fun t ht hW => ⟨⟨(L, f_4), rfl, (by rw [ef_4, ef_1] <;> exact fw_same (by intro z; simp only [va_up] <;> grind)), by rw [ht]; exact hP, va_K.moved hW.alike hK, hD⟩, hS.F ht⟩) hS.2.2 d_Pu_place_22

theorem d_Pu_pay_0 : decode b_Pu_pay 0 = .ok (.aload_n 0, 1) := by decide +kernel
theorem d_Pu_pay_1 : decode b_Pu_pay 1 = .ok (.getfield 25, 3) := by decide +kernel
theorem d_Pu_pay_4 : decode b_Pu_pay 4 = .ok (.dup, 1) := by decide +kernel
theorem d_Pu_pay_5 : decode b_Pu_pay 5 = .ok (.getfield 36, 3) := by decide +kernel
theorem d_Pu_pay_8 : decode b_Pu_pay 8 = .ok (.aload_n 0, 1) := by decide +kernel
theorem d_Pu_pay_9 : decode b_Pu_pay 9 = .ok (.invokevirtual 48, 3) := by decide +kernel
theorem d_Pu_pay_12 : decode b_Pu_pay 12 = .ok (.i2l, 1) := by decide +kernel
theorem d_Pu_pay_13 : decode b_Pu_pay 13 = .ok (.lsub, 1) := by decide +kernel
theorem d_Pu_pay_14 : decode b_Pu_pay 14 = .ok (.putfield 36, 3) := by decide +kernel
theorem d_Pu_pay_17 : decode b_Pu_pay 17 = .ok (.aload_n 0, 1) := by decide +kernel
theorem d_Pu_pay_18 : decode b_Pu_pay 18 = .ok (.getfield 25, 3) := by decide +kernel
theorem d_Pu_pay_21 : decode b_Pu_pay 21 = .ok (.dup, 1) := by decide +kernel
theorem d_Pu_pay_22 : decode b_Pu_pay 22 = .ok (.getfield 55, 3) := by decide +kernel
theorem d_Pu_pay_25 : decode b_Pu_pay 25 = .ok (.lload_n 1, 1) := by decide +kernel
theorem d_Pu_pay_26 : decode b_Pu_pay 26 = .ok (.ladd, 1) := by decide +kernel
theorem d_Pu_pay_27 : decode b_Pu_pay 27 = .ok (.putfield 55, 3) := by decide +kernel
theorem d_Pu_pay_30 : decode b_Pu_pay 30 = .ok (.aload_n 0, 1) := by decide +kernel
theorem d_Pu_pay_31 : decode b_Pu_pay 31 = .ok (.lload_n 1, 1) := by decide +kernel
theorem d_Pu_pay_32 : decode b_Pu_pay 32 = .ok (.aload_n 0, 1) := by decide +kernel
theorem d_Pu_pay_33 : decode b_Pu_pay 33 = .ok (.getfield 29, 3) := by decide +kernel
theorem d_Pu_pay_36 : decode b_Pu_pay 36 = .ok (.i2l, 1) := by decide +kernel
theorem d_Pu_pay_37 : decode b_Pu_pay 37 = .ok (.lsub, 1) := by decide +kernel
theorem d_Pu_pay_38 : decode b_Pu_pay 38 = .ok (.putfield 58, 3) := by decide +kernel
theorem d_Pu_pay_41 : decode b_Pu_pay 41 = .ok (.aload_n 0, 1) := by decide +kernel
theorem d_Pu_pay_42 : decode b_Pu_pay 42 = .ok (.iload_n 3, 1) := by decide +kernel
theorem d_Pu_pay_43 : decode b_Pu_pay 43 = .ok (.putfield 22, 3) := by decide +kernel
theorem d_Pu_pay_46 : decode b_Pu_pay 46 = .ok (.aload_n 0, 1) := by decide +kernel
theorem d_Pu_pay_47 : decode b_Pu_pay 47 = .ok (.dup, 1) := by decide +kernel
theorem d_Pu_pay_48 : decode b_Pu_pay 48 = .ok (.getfield 61, 3) := by decide +kernel
theorem d_Pu_pay_51 : decode b_Pu_pay 51 = .ok (.iconst 1, 1) := by decide +kernel
theorem d_Pu_pay_52 : decode b_Pu_pay 52 = .ok (.iadd, 1) := by decide +kernel
theorem d_Pu_pay_53 : decode b_Pu_pay 53 = .ok (.putfield 61, 3) := by decide +kernel
theorem d_Pu_pay_56 : decode b_Pu_pay 56 = .ok (.aload_n 0, 1) := by decide +kernel
theorem d_Pu_pay_57 : decode b_Pu_pay 57 = .ok (.getfield 32, 3) := by decide +kernel
theorem d_Pu_pay_60 : decode b_Pu_pay 60 = .ok (.ifCond .ne 8, 3) := by decide +kernel
theorem d_Pu_pay_63 : decode b_Pu_pay 63 = .ok (.aload_n 0, 1) := by decide +kernel
theorem d_Pu_pay_64 : decode b_Pu_pay 64 = .ok (.iconst 2, 1) := by decide +kernel
theorem d_Pu_pay_65 : decode b_Pu_pay 65 = .ok (.putfield 18, 3) := by decide +kernel
theorem d_Pu_pay_68 : decode b_Pu_pay 68 = .ok (.return_, 1) := by decide +kernel
set_option maxHeartbeats 4000000 in
set_option maxRecDepth 100000 in
theorem c_Pu_pay (l : Launch) (dC : Nat → ClassId) (dI : Nat → Nat → Nat) (tys : List (ClassId × FieldType)) (L : List Nat) (f : Nat → va_E) (sz : Nat) (pu : Nat) (a : Nat) (pu_ct pu_stt pu_ic pu_lm : Int32) (pu_lx : Int64) (pu_ap : Nat) (pu_st : Bool) (a_n a_cy : Int32) (a_g a_en a_sp a_pd : Int64) (hc : Int64) (mo : Int32) (hm_pu : pu ∈ L) (he_pu : f pu = .inr (2, [.ref a, .int pu_ct, .int (bI pu_st), .ref pu_ap, .int pu_stt, .int pu_ic, .int pu_lm, .long pu_lx])) (hm_a : a ∈ L) (he_a : f a = .inr (1, [.int a_n, .int a_cy, .long a_g, .long a_en, .long a_sp, .long a_pd])) : Met l y_Pu_pay w_Pu_pay { frames := 1, cells := 0, slots := 0, locals := 20 } (mu_P (dC, dI) classes tys (va_pl L f) sz [.ref pu, .long hc, .int mo]) (va_Qv (fun u => u = (L, va_up (va_up f a (.inr (1, [.int a_n, .int a_cy, .long a_g, .long (a_en - (if pu_st = true then 0 else pu_ct).toInt64), .long (a_sp + hc), .long a_pd]))) pu (.inr (2, [.ref a, .int pu_ct, .int (bI pu_st), .ref pu_ap, .int (if pu_st = true then pu_stt else 2), .int (pu_ic + 1), .int mo, .long (hc - pu_ct.toInt64)])))) (mu_B (dC, dI) classes tys (va_A (va_pl L f) sz) fw_w) (va_A (va_pl L f) sz)) 0 0 (va_A (va_pl L f) sz) := by
  refine Met.ofW (cc := b_Pu_pay) (maxL := 4) (ret := none) (by decide) rfl ?_
  intro p e s m args below meth c s₁ B hml hv
  obtain ⟨rfl, hsz, hP, hK, hD0, hN⟩ := hv
  have hx := B.exec
  have hb := B.bytes
  have hr := B.returns
  have hts := atoms_spec (ws := w_Pu_pay) B.pre
  have hG := fun (w : Cond) (h : w ∈ wG) => hts w (List.mem_cons_of_mem _ h)
  have hown : s.vm.findClass R_Pu = some m.cls := findClass_of_methodNamed B.named
  have hlocks := B.notSynchronized
  subst hsz
  have hD := hD0.self (sz := s.heap.size)
  generalize hAe : va_A (va_pl L f) s.heap.size = A at hD ⊢
  have hA : ∀ q : Nat, s.heap.size ≤ q → A q := fun q h => by rw [← hAe]; exact Or.inr h
  have hS : va_S A s.heap s.heap [] := va_S.rf
  have hP : va_P (dC, dI) classes (va_pl L f) s.heap := hP
  have hl := lv_entry ([.ref pu, .long hc, .int mo]) (n := 4) (Nat.le_of_ble_eq_true rfl)
  rw [lg_entry_eq]
  generalize (lg_sl ([.ref pu, .long hc, .int mo]) ++ List.replicate (4 - (lg_sl ([.ref pu, .long hc, .int mo])).length) Slot.unset).toArray = ls at hl ⊢
  have hl : lv_has ls 4 [(0, .ref pu), (1, .long hc), (3, .int mo)] := hl
  have ne_pu_a : pu ≠ a := (fw_ne he_pu he_a (show (3 : Nat) ≠ 2 by decide))
  refine lv_aload_n hx hb d_Pu_pay_0 rfl (lv_at hl 0 rfl) ?_
  refine fw_get (D := (dC, dI)) (ci := 2) (v := .ref a) (C := R_Pu) (T := F_Pu) (N := 8) hx hb hG iG_Pu hown hK hP hm_pu he_pu rfl 0 (by decide) (hG _ k_191) (fun _ h9 => h9) rfl d_Pu_pay_1 ?_
  refine lv_dup hx hb d_Pu_pay_4 rfl ?_
  refine fw_getN (D := (dC, dI)) (ci := 1) (v := .long a_en) (C := R_Ac) (T := F_Ac) (N := 6) hx hb hG iG_Ac hown hK hP hm_a he_a rfl 3 (by decide) (hN.use k_122) (fun _ h9 => h9) rfl d_Pu_pay_5 ?_
  refine lv_aload_n hx hb d_Pu_pay_8 rfl (lv_at hl 0 rfl) ?_
  refine rd_calli (va_runV (As := []) (rest := [.long a_en, .ref a]) ⟨hx, hb, hml, hown, hts⟩ (c_Pu_releasedByInvoice l dC dI tys L f pu pu_ct pu_stt pu_ic pu_lm pu_lx a pu_ap pu_st hm_pu he_pu) (cwV 0 hts (gd_V k_283 k_284 k_285 k_19 k_286) rfl rfl rfl (by decide +kernel) ⟨Nat.le_of_ble_eq_true rfl, Nat.le_of_ble_eq_true rfl⟩) (fw_preV hK hN hP rfl hm_pu he_pu) rfl rfl hl.1 rfl (lv_room (Nat.le_of_ble_eq_true rfl)) d_Pu_pay_9 ⟨Nat.zero_le _, Nat.zero_le _⟩) (fun r_1 hr_1 => ?_)
  subst hr_1
  refine lv_i2l hx hb d_Pu_pay_12 rfl ?_
  refine lv_lsub hx hb d_Pu_pay_13 ?_
  refine fw_putN (D := (dC, dI)) (ci := 1) (v := .long (a_en - ((if pu_st = true then 0 else pu_ct).toInt64))) (ty := .long) (C := R_Ac) (T := F_Ac) (N := 6) hx hb hG iG_Ac t_Ac t_Ac_ok n_Ac hown hK hP hD hS hm_a he_a rfl 3 (by decide) (hN.use k_122) (fun _ h9 => h9) rfl (by decide +kernel) rfl rfl (Nat.le_of_ble_eq_true rfl) d_Pu_pay_14 (fun H locs hP hD hS => ?_)
  obtain ⟨f_2, ef_2⟩ : ∃ z, z = va_up f a (.inr (1, [.int a_n, .int a_cy, .long a_g, .long (a_en - ((if pu_st = true then 0 else pu_ct).toInt64)), .long a_sp, .long a_pd])) := ⟨_, rfl⟩
  have he_3 : f_2 pu = .inr (2, [.ref a, .int pu_ct, .int (bI pu_st), .ref pu_ap, .int pu_stt, .int pu_ic, .int pu_lm, .long pu_lx]) := by rw [ef_2, va_up_ne _ _ ne_pu_a]; exact he_pu
  have he_4 : f_2 a = .inr (1, [.int a_n, .int a_cy, .long a_g, .long (a_en - ((if pu_st = true then 0 else pu_ct).toInt64)), .long a_sp, .long a_pd]) := by rw [ef_2]; exact va_up_self _ _ _
  have hP : va_P (dC, dI) classes (va_pl L f_2) H := by rw [ef_2]; exact hP
  have hD : va_D A (va_pl L f_2) := by rw [ef_2]; exact hD
  refine lv_aload_n hx hb d_Pu_pay_17 rfl (lv_at hl 0 rfl) ?_
  refine fw_get (D := (dC, dI)) (ci := 2) (v := .ref a) (C := R_Pu) (T := F_Pu) (N := 8) hx hb hG iG_Pu hown hK hP hm_pu he_3 rfl 0 (by decide) (hG _ k_191) (fun _ h9 => h9) rfl d_Pu_pay_18 ?_
  refine lv_dup hx hb d_Pu_pay_21 rfl ?_
  refine fw_getN (D := (dC, dI)) (ci := 1) (v := .long a_sp) (C := R_Ac) (T := F_Ac) (N := 6) hx hb hG iG_Ac hown hK hP hm_a he_4 rfl 4 (by decide) (hN.use k_125) (fun _ h9 => h9) rfl d_Pu_pay_22 ?_
  refine lv_lload_n hx hb d_Pu_pay_25 rfl (lv_at hl 1 rfl) ?_
  refine lv_ladd hx hb d_Pu_pay_26 ?_
  refine fw_putN (D := (dC, dI)) (ci := 1) (v := .long (a_sp + hc)) (ty := .long) (C := R_Ac) (T := F_Ac) (N := 6) hx hb hG iG_Ac t_Ac t_Ac_ok n_Ac hown hK hP hD hS hm_a he_4 rfl 4 (by decide) (hN.use k_125) (fun _ h9 => h9) rfl (by decide +kernel) rfl rfl (Nat.le_of_ble_eq_true rfl) d_Pu_pay_27 (fun H locs hP hD hS => ?_)
  obtain ⟨f_5, ef_5⟩ : ∃ z, z = va_up f_2 a (.inr (1, [.int a_n, .int a_cy, .long a_g, .long (a_en - ((if pu_st = true then 0 else pu_ct).toInt64)), .long (a_sp + hc), .long a_pd])) := ⟨_, rfl⟩
  have he_6 : f_5 pu = .inr (2, [.ref a, .int pu_ct, .int (bI pu_st), .ref pu_ap, .int pu_stt, .int pu_ic, .int pu_lm, .long pu_lx]) := by rw [ef_5, va_up_ne _ _ ne_pu_a]; exact he_3
  have he_7 : f_5 a = .inr (1, [.int a_n, .int a_cy, .long a_g, .long (a_en - ((if pu_st = true then 0 else pu_ct).toInt64)), .long (a_sp + hc), .long a_pd]) := by rw [ef_5]; exact va_up_self _ _ _
  have hP : va_P (dC, dI) classes (va_pl L f_5) H := by rw [ef_5]; exact hP
  have hD : va_D A (va_pl L f_5) := by rw [ef_5]; exact hD
  refine lv_aload_n hx hb d_Pu_pay_30 rfl (lv_at hl 0 rfl) ?_
  refine lv_lload_n hx hb d_Pu_pay_31 rfl (lv_at hl 1 rfl) ?_
  refine lv_aload_n hx hb d_Pu_pay_32 rfl (lv_at hl 0 rfl) ?_
  refine fw_get (D := (dC, dI)) (ci := 2) (v := .int pu_ct) (C := R_Pu) (T := F_Pu) (N := 8) hx hb hG iG_Pu hown hK hP hm_pu he_6 rfl 1 (by decide) (hG _ k_193) (fun _ h9 => h9) rfl d_Pu_pay_33 ?_
  refine lv_i2l hx hb d_Pu_pay_36 rfl ?_
  refine lv_lsub hx hb d_Pu_pay_37 ?_
  refine fw_put (D := (dC, dI)) (ci := 2) (v := .long (hc - (pu_ct.toInt64))) (ty := .long) (C := R_Pu) (T := F_Pu) (N := 8) hx hb hG iG_Pu t_Pu t_Pu_ok n_Pu hown hK hP hD hS hm_pu he_6 rfl 7 (by decide) (hG _ k_203) (fun _ h9 => h9) rfl (by decide +kernel) rfl rfl (Nat.le_of_ble_eq_true rfl) d_Pu_pay_38 (fun H locs hP hD hS => ?_)
  obtain ⟨f_8, ef_8⟩ : ∃ z, z = va_up f_5 pu (.inr (2, [.ref a, .int pu_ct, .int (bI pu_st), .ref pu_ap, .int pu_stt, .int pu_ic, .int pu_lm, .long (hc - (pu_ct.toInt64))])) := ⟨_, rfl⟩
  have he_9 : f_8 pu = .inr (2, [.ref a, .int pu_ct, .int (bI pu_st), .ref pu_ap, .int pu_stt, .int pu_ic, .int pu_lm, .long (hc - (pu_ct.toInt64))]) := by rw [ef_8]; exact va_up_self _ _ _
  have he_10 : f_8 a = .inr (1, [.int a_n, .int a_cy, .long a_g, .long (a_en - ((if pu_st = true then 0 else pu_ct).toInt64)), .long (a_sp + hc), .long a_pd]) := by rw [ef_8, va_up_ne _ _ (Ne.symm ne_pu_a)]; exact he_7
  have hP : va_P (dC, dI) classes (va_pl L f_8) H := by rw [ef_8]; exact hP
  have hD : va_D A (va_pl L f_8) := by rw [ef_8]; exact hD
  refine lv_aload_n hx hb d_Pu_pay_41 rfl (lv_at hl 0 rfl) ?_
  refine lv_iload_n hx hb d_Pu_pay_42 rfl (lv_at hl 2 rfl) ?_
  refine fw_put (D := (dC, dI)) (ci := 2) (v := .int mo) (ty := .int) (C := R_Pu) (T := F_Pu) (N := 8) hx hb hG iG_Pu t_Pu t_Pu_ok n_Pu hown hK hP hD hS hm_pu he_9 rfl 6 (by decide) (hG _ k_202) (fun _ h9 => h9) rfl (by decide +kernel) rfl rfl (Nat.le_of_ble_eq_true rfl) d_Pu_pay_43 (fun H locs hP hD hS => ?_)
  obtain ⟨f_11, ef_11⟩ : ∃ z, z = va_up f_8 pu (.inr (2, [.ref a, .int pu_ct, .int (bI pu_st), .ref pu_ap, .int pu_stt, .int pu_ic, .int mo, .long (hc - (pu_ct.toInt64))])) := ⟨_, rfl⟩
  have he_12 : f_11 pu = .inr (2, [.ref a, .int pu_ct, .int (bI pu_st), .ref pu_ap, .int pu_stt, .int pu_ic, .int mo, .long (hc - (pu_ct.toInt64))]) := by rw [ef_11]; exact va_up_self _ _ _
  have he_13 : f_11 a = .inr (1, [.int a_n, .int a_cy, .long a_g, .long (a_en - ((if pu_st = true then 0 else pu_ct).toInt64)), .long (a_sp + hc), .long a_pd]) := by rw [ef_11, va_up_ne _ _ (Ne.symm ne_pu_a)]; exact he_10
  have hP : va_P (dC, dI) classes (va_pl L f_11) H := by rw [ef_11]; exact hP
  have hD : va_D A (va_pl L f_11) := by rw [ef_11]; exact hD
  refine lv_aload_n hx hb d_Pu_pay_46 rfl (lv_at hl 0 rfl) ?_
  refine lv_dup hx hb d_Pu_pay_47 rfl ?_
  refine fw_get (D := (dC, dI)) (ci := 2) (v := .int pu_ic) (C := R_Pu) (T := F_Pu) (N := 8) hx hb hG iG_Pu hown hK hP hm_pu he_12 rfl 5 (by decide) (hG _ k_200) (fun _ h9 => h9) rfl d_Pu_pay_48 ?_
  refine lv_iconst (v := 1) hx hb d_Pu_pay_51 (by decide) ?_
  refine lv_iadd hx hb d_Pu_pay_52 ?_
  refine fw_put (D := (dC, dI)) (ci := 2) (v := .int (pu_ic + 1)) (ty := .int) (C := R_Pu) (T := F_Pu) (N := 8) hx hb hG iG_Pu t_Pu t_Pu_ok n_Pu hown hK hP hD hS hm_pu he_12 rfl 5 (by decide) (hG _ k_200) (fun _ h9 => h9) rfl (by decide +kernel) rfl rfl (Nat.le_of_ble_eq_true rfl) d_Pu_pay_53 (fun H locs hP hD hS => ?_)
  obtain ⟨f_14, ef_14⟩ : ∃ z, z = va_up f_11 pu (.inr (2, [.ref a, .int pu_ct, .int (bI pu_st), .ref pu_ap, .int pu_stt, .int (pu_ic + 1), .int mo, .long (hc - (pu_ct.toInt64))])) := ⟨_, rfl⟩
  have he_15 : f_14 pu = .inr (2, [.ref a, .int pu_ct, .int (bI pu_st), .ref pu_ap, .int pu_stt, .int (pu_ic + 1), .int mo, .long (hc - (pu_ct.toInt64))]) := by rw [ef_14]; exact va_up_self _ _ _
  have he_16 : f_14 a = .inr (1, [.int a_n, .int a_cy, .long a_g, .long (a_en - ((if pu_st = true then 0 else pu_ct).toInt64)), .long (a_sp + hc), .long a_pd]) := by rw [ef_14, va_up_ne _ _ (Ne.symm ne_pu_a)]; exact he_13
  have hP : va_P (dC, dI) classes (va_pl L f_14) H := by rw [ef_14]; exact hP
  have hD : va_D A (va_pl L f_14) := by rw [ef_14]; exact hD
  refine lv_aload_n hx hb d_Pu_pay_56 rfl (lv_at hl 0 rfl) ?_
  refine fw_get (D := (dC, dI)) (ci := 2) (v := .int (bI pu_st)) (C := R_Pu) (T := F_Pu) (N := 8) hx hb hG iG_Pu hown hK hP hm_pu he_15 rfl 2 (by decide) (hG _ k_195) (fun _ h9 => h9) rfl d_Pu_pay_57 ?_
  refine lb_if_ne (tgt := 68) hx hb d_Pu_pay_60 (by decide) (fun c_17 => ?_) (fun c_17 => ?_)
  · exact W.vret hx hb hr (fun t ht hW => ⟨⟨(L, f_14), rfl, (by rw [ef_14, ef_11, ef_8, ef_5, ef_2] <;> exact fw_same (by intro z; simp only [va_up] <;> grind)), by rw [ht]; exact hP, va_K.moved hW.alike hK, hD⟩, hS.F ht⟩) hS.2.2 d_Pu_pay_68
  · refine lv_aload_n hx hb d_Pu_pay_63 rfl (lv_at hl 0 rfl) ?_
    refine lv_iconst (v := 2) hx hb d_Pu_pay_64 (by decide) ?_
    refine fw_put (D := (dC, dI)) (ci := 2) (v := .int 2) (ty := .int) (C := R_Pu) (T := F_Pu) (N := 8) hx hb hG iG_Pu t_Pu t_Pu_ok n_Pu hown hK hP hD hS hm_pu he_15 rfl 4 (by decide) (hG _ k_198) (fun _ h9 => h9) rfl (by decide +kernel) rfl rfl (Nat.le_of_ble_eq_true rfl) d_Pu_pay_65 (fun H locs hP hD hS => ?_)
    obtain ⟨f_18, ef_18⟩ : ∃ z, z = va_up f_14 pu (.inr (2, [.ref a, .int pu_ct, .int (bI pu_st), .ref pu_ap, .int 2, .int (pu_ic + 1), .int mo, .long (hc - (pu_ct.toInt64))])) := ⟨_, rfl⟩
    have he_19 : f_18 pu = .inr (2, [.ref a, .int pu_ct, .int (bI pu_st), .ref pu_ap, .int 2, .int (pu_ic + 1), .int mo, .long (hc - (pu_ct.toInt64))]) := by rw [ef_18]; exact va_up_self _ _ _
    have he_20 : f_18 a = .inr (1, [.int a_n, .int a_cy, .long a_g, .long (a_en - ((if pu_st = true then 0 else pu_ct).toInt64)), .long (a_sp + hc), .long a_pd]) := by rw [ef_18, va_up_ne _ _ (Ne.symm ne_pu_a)]; exact he_16
    have hP : va_P (dC, dI) classes (va_pl L f_18) H := by rw [ef_18]; exact hP
    have hD : va_D A (va_pl L f_18) := by rw [ef_18]; exact hD
    exact W.vret hx hb hr (fun t ht hW => ⟨⟨(L, f_18), rfl, (by rw [ef_18, ef_14, ef_11, ef_8, ef_5, ef_2] <;> exact fw_same (by intro z; simp only [va_up] <;> grind)), by rw [ht]; exact hP, va_K.moved hW.alike hK, hD⟩, hS.F ht⟩) hS.2.2 d_Pu_pay_68
