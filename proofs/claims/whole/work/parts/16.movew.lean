theorem d_Mv_carryOut_0 : decode b_Mv_carryOut 0 = .ok (.aload_n 0, 1) := by decide +kernel
theorem d_Mv_carryOut_1 : decode b_Mv_carryOut 1 = .ok (.getfield 18, 3) := by decide +kernel
theorem d_Mv_carryOut_4 : decode b_Mv_carryOut 4 = .ok (.dup, 1) := by decide +kernel
theorem d_Mv_carryOut_5 : decode b_Mv_carryOut 5 = .ok (.getfield 42, 3) := by decide +kernel
theorem d_Mv_carryOut_8 : decode b_Mv_carryOut 8 = .ok (.aload_n 0, 1) := by decide +kernel
theorem d_Mv_carryOut_9 : decode b_Mv_carryOut 9 = .ok (.getfield 25, 3) := by decide +kernel
theorem d_Mv_carryOut_12 : decode b_Mv_carryOut 12 = .ok (.i2l, 1) := by decide +kernel
theorem d_Mv_carryOut_13 : decode b_Mv_carryOut 13 = .ok (.lsub, 1) := by decide +kernel
theorem d_Mv_carryOut_14 : decode b_Mv_carryOut 14 = .ok (.putfield 42, 3) := by decide +kernel
theorem d_Mv_carryOut_17 : decode b_Mv_carryOut 17 = .ok (.aload_n 0, 1) := by decide +kernel
theorem d_Mv_carryOut_18 : decode b_Mv_carryOut 18 = .ok (.getfield 22, 3) := by decide +kernel
theorem d_Mv_carryOut_21 : decode b_Mv_carryOut 21 = .ok (.dup, 1) := by decide +kernel
theorem d_Mv_carryOut_22 : decode b_Mv_carryOut 22 = .ok (.getfield 42, 3) := by decide +kernel
theorem d_Mv_carryOut_25 : decode b_Mv_carryOut 25 = .ok (.aload_n 0, 1) := by decide +kernel
theorem d_Mv_carryOut_26 : decode b_Mv_carryOut 26 = .ok (.getfield 25, 3) := by decide +kernel
theorem d_Mv_carryOut_29 : decode b_Mv_carryOut 29 = .ok (.i2l, 1) := by decide +kernel
theorem d_Mv_carryOut_30 : decode b_Mv_carryOut 30 = .ok (.ladd, 1) := by decide +kernel
theorem d_Mv_carryOut_31 : decode b_Mv_carryOut 31 = .ok (.putfield 42, 3) := by decide +kernel
theorem d_Mv_carryOut_34 : decode b_Mv_carryOut 34 = .ok (.aload_n 0, 1) := by decide +kernel
theorem d_Mv_carryOut_35 : decode b_Mv_carryOut 35 = .ok (.iconst 1, 1) := by decide +kernel
theorem d_Mv_carryOut_36 : decode b_Mv_carryOut 36 = .ok (.putfield 46, 3) := by decide +kernel
theorem d_Mv_carryOut_39 : decode b_Mv_carryOut 39 = .ok (.return_, 1) := by decide +kernel
set_option maxHeartbeats 4000000 in
set_option maxRecDepth 100000 in
theorem c_Mv_carryOut (l : Launch) (dC : Nat → ClassId) (dI : Nat → Nat → Nat) (tys : List (ClassId × FieldType)) (L : List Nat) (f : Nat → va_E) (sz : Nat) (mv : Nat) (a : Nat) (b : Nat) (mv_ct : Int32) (mv_ap : Nat) (mv_hp : Bool) (a_n a_cy : Int32) (a_g a_en a_sp a_pd : Int64) (b_n b_cy : Int32) (b_g b_en b_sp b_pd : Int64) (hm_mv : mv ∈ L) (he_mv : f mv = .inr (3, [.ref a, .ref b, .int mv_ct, .ref mv_ap, .int (bI mv_hp)])) (hm_a : a ∈ L) (he_a : f a = .inr (1, [.int a_n, .int a_cy, .long a_g, .long a_en, .long a_sp, .long a_pd])) (hm_b : b ∈ L) (he_b : f b = .inr (1, [.int b_n, .int b_cy, .long b_g, .long b_en, .long b_sp, .long b_pd])) (ne_a_b : a ≠ b) : Met l y_Mv_carryOut w_Mv_carryOut { frames := 0, cells := 0, slots := 0, locals := 0 } (mu_P (dC, dI) classes tys (va_pl L f) sz [.ref mv]) (va_Qv (fun u => u = (L, va_up (va_up (va_up f a (.inr (1, [.int a_n, .int a_cy, .long (a_g - mv_ct.toInt64), .long a_en, .long a_sp, .long a_pd]))) b (.inr (1, [.int b_n, .int b_cy, .long (b_g + mv_ct.toInt64), .long b_en, .long b_sp, .long b_pd]))) mv (.inr (3, [.ref a, .ref b, .int mv_ct, .ref mv_ap, .int (bI true)])))) (mu_B (dC, dI) classes tys (va_A (va_pl L f) sz) fw_w) (va_A (va_pl L f) sz)) 0 0 (va_A (va_pl L f) sz) := by
  refine Met.ofW (cc := b_Mv_carryOut) (maxL := 1) (ret := none) (by decide) rfl ?_
  intro p e s m args below meth c s₁ B hml hv
  obtain ⟨rfl, hsz, hP, hK, hD0, hN⟩ := hv
  have hx := B.exec
  have hb := B.bytes
  have hr := B.returns
  have hts := atoms_spec (ws := w_Mv_carryOut) B.pre
  have hG := fun (w : Cond) (h : w ∈ wG) => hts w (List.mem_cons_of_mem _ h)
  have hown : s.vm.findClass R_Mv = some m.cls := findClass_of_methodNamed B.named
  have hlocks := B.notSynchronized
  subst hsz
  have hD := hD0.self (sz := s.heap.size)
  generalize hAe : va_A (va_pl L f) s.heap.size = A at hD ⊢
  have hA : ∀ q : Nat, s.heap.size ≤ q → A q := fun q h => by rw [← hAe]; exact Or.inr h
  have hS : va_S A s.heap s.heap [] := va_S.rf
  have hP : va_P (dC, dI) classes (va_pl L f) s.heap := hP
  have hl := lv_entry ([.ref mv]) (n := 1) (Nat.le_of_ble_eq_true rfl)
  rw [lg_entry_eq]
  generalize (lg_sl ([.ref mv]) ++ List.replicate (1 - (lg_sl ([.ref mv])).length) Slot.unset).toArray = ls at hl ⊢
  have hl : lv_has ls 1 [(0, .ref mv)] := hl
  have ne_mv_a : mv ≠ a := (fw_ne he_mv he_a (show (4 : Nat) ≠ 2 by decide))
  have ne_mv_b : mv ≠ b := (fw_ne he_mv he_b (show (4 : Nat) ≠ 2 by decide))
  refine lv_aload_n hx hb d_Mv_carryOut_0 rfl (lv_at hl 0 rfl) ?_
  refine fw_get (D := (dC, dI)) (ci := 3) (v := .ref a) (C := R_Mv) (T := F_Mv) (N := 5) hx hb hG iG_Mv hown hK hP hm_mv he_mv rfl 0 (by decide) (hG _ k_343) (fun _ h9 => h9) rfl d_Mv_carryOut_1 ?_
  refine lv_dup hx hb d_Mv_carryOut_4 rfl ?_
  refine fw_getN (D := (dC, dI)) (ci := 1) (v := .long a_g) (C := R_Ac) (T := F_Ac) (N := 6) hx hb hG iG_Ac hown hK hP hm_a he_a rfl 2 (by decide) (hN.use k_119) (fun _ h9 => h9) rfl d_Mv_carryOut_5 ?_
  refine lv_aload_n hx hb d_Mv_carryOut_8 rfl (lv_at hl 0 rfl) ?_
  refine fw_get (D := (dC, dI)) (ci := 3) (v := .int mv_ct) (C := R_Mv) (T := F_Mv) (N := 5) hx hb hG iG_Mv hown hK hP hm_mv he_mv rfl 2 (by decide) (hG _ k_345) (fun _ h9 => h9) rfl d_Mv_carryOut_9 ?_
  refine lv_i2l hx hb d_Mv_carryOut_12 rfl ?_
  refine lv_lsub hx hb d_Mv_carryOut_13 ?_
  refine fw_putN (D := (dC, dI)) (ci := 1) (v := .long (a_g - (mv_ct.toInt64))) (ty := .long) (C := R_Ac) (T := F_Ac) (N := 6) hx hb hG iG_Ac t_Ac t_Ac_ok n_Ac hown hK hP hD hS hm_a he_a rfl 2 (by decide) (hN.use k_119) (fun _ h9 => h9) rfl (by decide +kernel) rfl rfl (Nat.le_of_ble_eq_true rfl) d_Mv_carryOut_14 (fun H locs hP hD hS => ?_)
  obtain ⟨f_1, ef_1⟩ : ∃ z, z = va_up f a (.inr (1, [.int a_n, .int a_cy, .long (a_g - (mv_ct.toInt64)), .long a_en, .long a_sp, .long a_pd])) := ⟨_, rfl⟩
  have he_2 : f_1 mv = .inr (3, [.ref a, .ref b, .int mv_ct, .ref mv_ap, .int (bI mv_hp)]) := by rw [ef_1, va_up_ne _ _ ne_mv_a]; exact he_mv
  have he_3 : f_1 a = .inr (1, [.int a_n, .int a_cy, .long (a_g - (mv_ct.toInt64)), .long a_en, .long a_sp, .long a_pd]) := by rw [ef_1]; exact va_up_self _ _ _
  have he_4 : f_1 b = .inr (1, [.int b_n, .int b_cy, .long b_g, .long b_en, .long b_sp, .long b_pd]) := by rw [ef_1, va_up_ne _ _ (Ne.symm ne_a_b)]; exact he_b
  have hP : va_P (dC, dI) classes (va_pl L f_1) H := by rw [ef_1]; exact hP
  have hD : va_D A (va_pl L f_1) := by rw [ef_1]; exact hD
  refine lv_aload_n hx hb d_Mv_carryOut_17 rfl (lv_at hl 0 rfl) ?_
  refine fw_get (D := (dC, dI)) (ci := 3) (v := .ref b) (C := R_Mv) (T := F_Mv) (N := 5) hx hb hG iG_Mv hown hK hP hm_mv he_2 rfl 1 (by decide) (hG _ k_344) (fun _ h9 => h9) rfl d_Mv_carryOut_18 ?_
  refine lv_dup hx hb d_Mv_carryOut_21 rfl ?_
  refine fw_getN (D := (dC, dI)) (ci := 1) (v := .long b_g) (C := R_Ac) (T := F_Ac) (N := 6) hx hb hG iG_Ac hown hK hP hm_b he_4 rfl 2 (by decide) (hN.use k_119) (fun _ h9 => h9) rfl d_Mv_carryOut_22 ?_
  refine lv_aload_n hx hb d_Mv_carryOut_25 rfl (lv_at hl 0 rfl) ?_
  refine fw_get (D := (dC, dI)) (ci := 3) (v := .int mv_ct) (C := R_Mv) (T := F_Mv) (N := 5) hx hb hG iG_Mv hown hK hP hm_mv he_2 rfl 2 (by decide) (hG _ k_345) (fun _ h9 => h9) rfl d_Mv_carryOut_26 ?_
  refine lv_i2l hx hb d_Mv_carryOut_29 rfl ?_
  refine lv_ladd hx hb d_Mv_carryOut_30 ?_
  refine fw_putN (D := (dC, dI)) (ci := 1) (v := .long (b_g + (mv_ct.toInt64))) (ty := .long) (C := R_Ac) (T := F_Ac) (N := 6) hx hb hG iG_Ac t_Ac t_Ac_ok n_Ac hown hK hP hD hS hm_b he_4 rfl 2 (by decide) (hN.use k_119) (fun _ h9 => h9) rfl (by decide +kernel) rfl rfl (Nat.le_of_ble_eq_true rfl) d_Mv_carryOut_31 (fun H locs hP hD hS => ?_)
  obtain ⟨f_5, ef_5⟩ : ∃ z, z = va_up f_1 b (.inr (1, [.int b_n, .int b_cy, .long (b_g + (mv_ct.toInt64)), .long b_en, .long b_sp, .long b_pd])) := ⟨_, rfl⟩
  have he_6 : f_5 mv = .inr (3, [.ref a, .ref b, .int mv_ct, .ref mv_ap, .int (bI mv_hp)]) := by rw [ef_5, va_up_ne _ _ ne_mv_b]; exact he_2
  have he_7 : f_5 a = .inr (1, [.int a_n, .int a_cy, .long (a_g - (mv_ct.toInt64)), .long a_en, .long a_sp, .long a_pd]) := by rw [ef_5, va_up_ne _ _ ne_a_b]; exact he_3
  have he_8 : f_5 b = .inr (1, [.int b_n, .int b_cy, .long (b_g + (mv_ct.toInt64)), .long b_en, .long b_sp, .long b_pd]) := by rw [ef_5]; exact va_up_self _ _ _
  have hP : va_P (dC, dI) classes (va_pl L f_5) H := by rw [ef_5]; exact hP
  have hD : va_D A (va_pl L f_5) := by rw [ef_5]; exact hD
  refine lv_aload_n hx hb d_Mv_carryOut_34 rfl (lv_at hl 0 rfl) ?_
  refine lv_iconst (v := 1) hx hb d_Mv_carryOut_35 (by decide) ?_
  refine fw_put (D := (dC, dI)) (ci := 3) (v := .int 1) (ty := .boolean) (C := R_Mv) (T := F_Mv) (N := 5) hx hb hG iG_Mv t_Mv t_Mv_ok n_Mv hown hK hP hD hS hm_mv he_6 rfl 4 (by decide) (hG _ k_348) (fun _ h9 => h9) rfl (by decide +kernel) rfl rfl (Nat.le_of_ble_eq_true rfl) d_Mv_carryOut_36 (fun H locs hP hD hS => ?_)
  obtain ⟨f_9, ef_9⟩ : ∃ z, z = va_up f_5 mv (.inr (3, [.ref a, .ref b, .int mv_ct, .ref mv_ap, .int (bI true)])) := ⟨_, rfl⟩
  have he_10 : f_9 mv = .inr (3, [.ref a, .ref b, .int mv_ct, .ref mv_ap, .int (bI true)]) := by rw [ef_9]; exact va_up_self _ _ _
  have he_11 : f_9 a = .inr (1, [.int a_n, .int a_cy, .long (a_g - (mv_ct.toInt64)), .long a_en, .long a_sp, .long a_pd]) := by rw [ef_9, va_up_ne _ _ (Ne.symm ne_mv_a)]; exact he_7
  have he_12 : f_9 b = .inr (1, [.int b_n, .int b_cy, .long (b_g + (mv_ct.toInt64)), .long b_en, .long b_sp, .long b_pd]) := by rw [ef_9, va_up_ne _ _ (Ne.symm ne_mv_b)]; exact he_8
  have hP : va_P (dC, dI) classes (va_pl L f_9) H := by rw [ef_9]; exact hP
  have hD : va_D A (va_pl L f_9) := by rw [ef_9]; exact hD
  exact W.vret hx hb hr (fun t ht hW => ⟨⟨(L, f_9), rfl, (by rw [ef_9, ef_5, ef_1] <;> exact fw_same (by intro z; simp only [va_up] <;> grind)), by rw [ht]; exact hP, va_K.moved hW.alike hK, hD⟩, hS.F ht⟩) hS.2.2 d_Mv_carryOut_39
