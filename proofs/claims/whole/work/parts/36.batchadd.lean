theorem d_Ba_add_0 : decode b_Ba_add 0 = .ok (.aload_n 0, 1) := by decide +kernel
theorem d_Ba_add_1 : decode b_Ba_add 1 = .ok (.invokevirtual 21, 3) := by decide +kernel
theorem d_Ba_add_4 : decode b_Ba_add 4 = .ok (.ifCond .eq 4, 3) := by decide +kernel
theorem d_Ba_add_8 : decode b_Ba_add 8 = .ok (.aload_n 0, 1) := by decide +kernel
theorem d_Ba_add_9 : decode b_Ba_add 9 = .ok (.getfield 11, 3) := by decide +kernel
theorem d_Ba_add_12 : decode b_Ba_add 12 = .ok (.aload_n 0, 1) := by decide +kernel
theorem d_Ba_add_13 : decode b_Ba_add 13 = .ok (.getfield 17, 3) := by decide +kernel
theorem d_Ba_add_16 : decode b_Ba_add 16 = .ok (.aload_n 1, 1) := by decide +kernel
theorem d_Ba_add_17 : decode b_Ba_add 17 = .ok (.aastore, 1) := by decide +kernel
theorem d_Ba_add_18 : decode b_Ba_add 18 = .ok (.aload_n 0, 1) := by decide +kernel
theorem d_Ba_add_19 : decode b_Ba_add 19 = .ok (.dup, 1) := by decide +kernel
theorem d_Ba_add_20 : decode b_Ba_add 20 = .ok (.getfield 17, 3) := by decide +kernel
theorem d_Ba_add_23 : decode b_Ba_add 23 = .ok (.iconst 1, 1) := by decide +kernel
theorem d_Ba_add_24 : decode b_Ba_add 24 = .ok (.iadd, 1) := by decide +kernel
theorem d_Ba_add_25 : decode b_Ba_add 25 = .ok (.putfield 17, 3) := by decide +kernel
theorem d_Ba_add_28 : decode b_Ba_add 28 = .ok (.aload_n 1, 1) := by decide +kernel
theorem d_Ba_add_29 : decode b_Ba_add 29 = .ok (.dup, 1) := by decide +kernel
theorem d_Ba_add_30 : decode b_Ba_add 30 = .ok (.getfield 25, 3) := by decide +kernel
theorem d_Ba_add_33 : decode b_Ba_add 33 = .ok (.iload_n 2, 1) := by decide +kernel
theorem d_Ba_add_34 : decode b_Ba_add 34 = .ok (.i2l, 1) := by decide +kernel
theorem d_Ba_add_35 : decode b_Ba_add 35 = .ok (.ladd, 1) := by decide +kernel
theorem d_Ba_add_36 : decode b_Ba_add 36 = .ok (.putfield 25, 3) := by decide +kernel
theorem d_Ba_add_39 : decode b_Ba_add 39 = .ok (.aload_n 0, 1) := by decide +kernel
theorem d_Ba_add_40 : decode b_Ba_add 40 = .ok (.dup, 1) := by decide +kernel
theorem d_Ba_add_41 : decode b_Ba_add 41 = .ok (.getfield 29, 3) := by decide +kernel
theorem d_Ba_add_44 : decode b_Ba_add 44 = .ok (.iload_n 2, 1) := by decide +kernel
theorem d_Ba_add_45 : decode b_Ba_add 45 = .ok (.i2l, 1) := by decide +kernel
theorem d_Ba_add_46 : decode b_Ba_add 46 = .ok (.ladd, 1) := by decide +kernel
theorem d_Ba_add_47 : decode b_Ba_add 47 = .ok (.putfield 29, 3) := by decide +kernel
theorem d_Ba_add_50 : decode b_Ba_add 50 = .ok (.return_, 1) := by decide +kernel
set_option maxHeartbeats 4000000 in
set_option maxRecDepth 100000 in
theorem c_Ba_add (l : Launch) (dC : Nat → ClassId) (dI : Nat → Nat → Nat) (tys : List (ClassId × FieldType)) (L : List Nat) (f : Nat → va_E) (sz : Nat) (k : Nat) (hk : k < 20) (t : Nat) (x : Nat) (a : Nat) (t_tt : Int64) (x_c : ClassId) (x_g : Nat → Option Nat) (a_n a_cy : Int32) (a_g a_en a_sp a_pd : Int64) (c0 : Int32) (hm_t : t ∈ L) (he_t : f t = .inr (6, [.ref x, .int (nI k), .long t_tt])) (hm_x : x ∈ L) (he_x : f x = .inl (x_c, 20, .inr (.inr (.inr (.inr x_g))))) (ht_x : tys[4]? = some (x_c, .object "FundBook$Account")) (hm_a : a ∈ L) (he_a : f a = .inr (1, [.int a_n, .int a_cy, .long a_g, .long a_en, .long a_sp, .long a_pd])) : Met l y_Ba_add w_Ba_add { frames := 1, cells := 0, slots := 0, locals := 20 } (mu_P (dC, dI) classes tys (va_pl L f) sz [.ref t, .ref a, .int c0]) (va_Qv (fun u => u = (L, va_up (va_up (va_up f x (.inl (x_c, 20, .inr (.inr (.inr (.inr (va_up x_g k (some a)))))))) t (.inr (6, [.ref x, .int (nI (k + 1)), .long (t_tt + c0.toInt64)]))) a (.inr (1, [.int a_n, .int a_cy, .long a_g, .long a_en, .long a_sp, .long (a_pd + c0.toInt64)])))) (mu_B (dC, dI) classes tys (va_A (va_pl L f) sz) fw_w) (va_A (va_pl L f) sz)) 0 0 (va_A (va_pl L f) sz) := by
  refine Met.ofW (cc := b_Ba_add) (maxL := 3) (ret := none) (by decide) rfl ?_
  intro p e s m args below meth c s₁ B hml hv
  obtain ⟨rfl, hsz, hP, hK, hD0, hN⟩ := hv
  have hx := B.exec
  have hb := B.bytes
  have hr := B.returns
  have hts := atoms_spec (ws := w_Ba_add) B.pre
  have hG := fun (w : Cond) (h : w ∈ wG) => hts w (List.mem_cons_of_mem _ h)
  have hown : s.vm.findClass R_Ba = some m.cls := findClass_of_methodNamed B.named
  have hlocks := B.notSynchronized
  subst hsz
  have hD := hD0.self (sz := s.heap.size)
  generalize hAe : va_A (va_pl L f) s.heap.size = A at hD ⊢
  have hA : ∀ q : Nat, s.heap.size ≤ q → A q := fun q h => by rw [← hAe]; exact Or.inr h
  have hS : va_S A s.heap s.heap [] := va_S.rf
  have hP : va_P (dC, dI) classes (va_pl L f) s.heap := hP
  have hl := lv_entry ([.ref t, .ref a, .int c0]) (n := 3) (Nat.le_of_ble_eq_true rfl)
  rw [lg_entry_eq]
  generalize (lg_sl ([.ref t, .ref a, .int c0]) ++ List.replicate (3 - (lg_sl ([.ref t, .ref a, .int c0])).length) Slot.unset).toArray = ls at hl ⊢
  have hl : lv_has ls 3 [(0, .ref t), (1, .ref a), (2, .int c0)] := hl
  have ne_t_x : t ≠ x := (fw_ne he_t he_x (show (7 : Nat) ≠ 0 by decide))
  have ne_t_a : t ≠ a := (fw_ne he_t he_a (show (7 : Nat) ≠ 2 by decide))
  have ne_x_a : x ≠ a := (fw_ne he_x he_a (show (0 : Nat) ≠ 2 by decide))
  refine lv_aload_n hx hb d_Ba_add_0 rfl (lv_at hl 0 rfl) ?_
  refine rd_calli (va_runV (As := []) (rest := []) ⟨hx, hb, hml, hown, hts⟩ (c_Ba_isFull l dC dI tys L f t x (nI k) t_tt x_c x_g hm_t he_t hm_x he_x ht_x) (cwV 0 hts (gd_V k_396 k_389 k_390 k_15 k_391) rfl rfl rfl (by decide +kernel) ⟨Nat.le_of_ble_eq_true rfl, Nat.le_of_ble_eq_true rfl⟩) (fw_preV hK hN hP rfl hm_t he_t) rfl rfl hl.1 rfl (lv_room (Nat.le_of_ble_eq_true rfl)) d_Ba_add_1 ⟨Nat.zero_le _, Nat.zero_le _⟩) (fun r_1 hr_1 => ?_)
  subst hr_1
  refine lb_if_eq (tgt := 8) hx hb d_Ba_add_4 (by decide) (fun c_2 => ?_) (fun c_2 => ?_)
  · refine lv_aload_n hx hb d_Ba_add_8 rfl (lv_at hl 0 rfl) ?_
    refine fw_get (D := (dC, dI)) (ci := 6) (v := .ref x) (C := R_Ba) (T := F_Ba) (N := 3) hx hb hG iG_Ba hown hK hP hm_t he_t rfl 0 (by decide) (hG _ k_50) (fun _ h9 => h9) rfl d_Ba_add_9 ?_
    refine lv_aload_n hx hb d_Ba_add_12 rfl (lv_at hl 0 rfl) ?_
    refine fw_get (D := (dC, dI)) (ci := 6) (v := .int (nI k)) (C := R_Ba) (T := F_Ba) (N := 3) hx hb hG iG_Ba hown hK hP hm_t he_t rfl 1 (by decide) (hG _ k_51) (fun _ h9 => h9) rfl d_Ba_add_13 ?_
    refine lv_aload_n hx hb d_Ba_add_16 rfl (lv_at hl 1 rfl) ?_
    refine fw_ast (D := (dC, dI)) (r := (R_Ac, F_Ac, 6)) (ci := 1) (n := 20) (g := x_g) hx hb hK hP hD hS hm_x 4 he_x ht_x hm_a he_a rfl (vp_in_nI (by omega) (by omega)) d_Ba_add_17 (fun H locs hP hD hS => ?_)
    rw [nI_clamp (by omega)] at hP hD
    obtain ⟨f_3, ef_3⟩ : ∃ z, z = va_up f x (.inl (x_c, 20, .inr (.inr (.inr (.inr (va_up x_g k (some a))))))) := ⟨_, rfl⟩
    have he_4 : f_3 t = .inr (6, [.ref x, .int (nI k), .long t_tt]) := by rw [ef_3, va_up_ne _ _ ne_t_x]; exact he_t
    have he_5 : f_3 x = .inl (x_c, 20, .inr (.inr (.inr (.inr (va_up x_g k (some a)))))) := by rw [ef_3]; exact va_up_self _ _ _
    have he_6 : f_3 a = .inr (1, [.int a_n, .int a_cy, .long a_g, .long a_en, .long a_sp, .long a_pd]) := by rw [ef_3, va_up_ne _ _ (Ne.symm ne_x_a)]; exact he_a
    have hP : va_P (dC, dI) classes (va_pl L f_3) H := by rw [ef_3]; exact hP
    have hD : va_D A (va_pl L f_3) := by rw [ef_3]; exact hD
    refine lv_aload_n hx hb d_Ba_add_18 rfl (lv_at hl 0 rfl) ?_
    refine lv_dup hx hb d_Ba_add_19 rfl ?_
    refine fw_get (D := (dC, dI)) (ci := 6) (v := .int (nI k)) (C := R_Ba) (T := F_Ba) (N := 3) hx hb hG iG_Ba hown hK hP hm_t he_4 rfl 1 (by decide) (hG _ k_51) (fun _ h9 => h9) rfl d_Ba_add_20 ?_
    refine lv_iconst (v := 1) hx hb d_Ba_add_23 (by decide) ?_
    refine lv_iadd hx hb d_Ba_add_24 ?_
    refine lv_topI (y := nI (k + 1)) (nI_add k 1) ?_
    refine fw_put (D := (dC, dI)) (ci := 6) (v := .int (nI (k + 1))) (ty := .int) (C := R_Ba) (T := F_Ba) (N := 3) hx hb hG iG_Ba t_Ba t_Ba_ok n_Ba hown hK hP hD hS hm_t he_4 rfl 1 (by decide) (hG _ k_51) (fun _ h9 => h9) rfl (by decide +kernel) rfl rfl (Nat.le_of_ble_eq_true rfl) d_Ba_add_25 (fun H locs hP hD hS => ?_)
    obtain ⟨f_7, ef_7⟩ : ∃ z, z = va_up f_3 t (.inr (6, [.ref x, .int (nI (k + 1)), .long t_tt])) := ⟨_, rfl⟩
    have he_8 : f_7 t = .inr (6, [.ref x, .int (nI (k + 1)), .long t_tt]) := by rw [ef_7]; exact va_up_self _ _ _
    have he_9 : f_7 x = .inl (x_c, 20, .inr (.inr (.inr (.inr (va_up x_g k (some a)))))) := by rw [ef_7, va_up_ne _ _ (Ne.symm ne_t_x)]; exact he_5
    have he_10 : f_7 a = .inr (1, [.int a_n, .int a_cy, .long a_g, .long a_en, .long a_sp, .long a_pd]) := by rw [ef_7, va_up_ne _ _ (Ne.symm ne_t_a)]; exact he_6
    have hP : va_P (dC, dI) classes (va_pl L f_7) H := by rw [ef_7]; exact hP
    have hD : va_D A (va_pl L f_7) := by rw [ef_7]; exact hD
    refine lv_aload_n hx hb d_Ba_add_28 rfl (lv_at hl 1 rfl) ?_
    refine lv_dup hx hb d_Ba_add_29 rfl ?_
    refine fw_getN (D := (dC, dI)) (ci := 1) (v := .long a_pd) (C := R_Ac) (T := F_Ac) (N := 6) hx hb hG iG_Ac hown hK hP hm_a he_10 rfl 5 (by decide) (hN.use k_127) (fun _ h9 => h9) rfl d_Ba_add_30 ?_
    refine lv_iload_n hx hb d_Ba_add_33 rfl (lv_at hl 2 rfl) ?_
    refine lv_i2l hx hb d_Ba_add_34 rfl ?_
    refine lv_ladd hx hb d_Ba_add_35 ?_
    refine fw_putN (D := (dC, dI)) (ci := 1) (v := .long (a_pd + (c0.toInt64))) (ty := .long) (C := R_Ac) (T := F_Ac) (N := 6) hx hb hG iG_Ac t_Ac t_Ac_ok n_Ac hown hK hP hD hS hm_a he_10 rfl 5 (by decide) (hN.use k_127) (fun _ h9 => h9) rfl (by decide +kernel) rfl rfl (Nat.le_of_ble_eq_true rfl) d_Ba_add_36 (fun H locs hP hD hS => ?_)
    obtain ⟨f_11, ef_11⟩ : ∃ z, z = va_up f_7 a (.inr (1, [.int a_n, .int a_cy, .long a_g, .long a_en, .long a_sp, .long (a_pd + (c0.toInt64))])) := ⟨_, rfl⟩
    have he_12 : f_11 t = .inr (6, [.ref x, .int (nI (k + 1)), .long t_tt]) := by rw [ef_11, va_up_ne _ _ ne_t_a]; exact he_8
    have he_13 : f_11 x = .inl (x_c, 20, .inr (.inr (.inr (.inr (va_up x_g k (some a)))))) := by rw [ef_11, va_up_ne _ _ ne_x_a]; exact he_9
    have he_14 : f_11 a = .inr (1, [.int a_n, .int a_cy, .long a_g, .long a_en, .long a_sp, .long (a_pd + (c0.toInt64))]) := by rw [ef_11]; exact va_up_self _ _ _
    have hP : va_P (dC, dI) classes (va_pl L f_11) H := by rw [ef_11]; exact hP
    have hD : va_D A (va_pl L f_11) := by rw [ef_11]; exact hD
    refine lv_aload_n hx hb d_Ba_add_39 rfl (lv_at hl 0 rfl) ?_
    refine lv_dup hx hb d_Ba_add_40 rfl ?_
    refine fw_get (D := (dC, dI)) (ci := 6) (v := .long t_tt) (C := R_Ba) (T := F_Ba) (N := 3) hx hb hG iG_Ba hown hK hP hm_t he_12 rfl 2 (by decide) (hG _ k_53) (fun _ h9 => h9) rfl d_Ba_add_41 ?_
    refine lv_iload_n hx hb d_Ba_add_44 rfl (lv_at hl 2 rfl) ?_
    refine lv_i2l hx hb d_Ba_add_45 rfl ?_
    refine lv_ladd hx hb d_Ba_add_46 ?_
    refine fw_put (D := (dC, dI)) (ci := 6) (v := .long (t_tt + (c0.toInt64))) (ty := .long) (C := R_Ba) (T := F_Ba) (N := 3) hx hb hG iG_Ba t_Ba t_Ba_ok n_Ba hown hK hP hD hS hm_t he_12 rfl 2 (by decide) (hG _ k_53) (fun _ h9 => h9) rfl (by decide +kernel) rfl rfl (Nat.le_of_ble_eq_true rfl) d_Ba_add_47 (fun H locs hP hD hS => ?_)
    obtain ⟨f_15, ef_15⟩ : ∃ z, z = va_up f_11 t (.inr (6, [.ref x, .int (nI (k + 1)), .long (t_tt + (c0.toInt64))])) := ⟨_, rfl⟩
    have he_16 : f_15 t = .inr (6, [.ref x, .int (nI (k + 1)), .long (t_tt + (c0.toInt64))]) := by rw [ef_15]; exact va_up_self _ _ _
    have he_17 : f_15 x = .inl (x_c, 20, .inr (.inr (.inr (.inr (va_up x_g k (some a)))))) := by rw [ef_15, va_up_ne _ _ (Ne.symm ne_t_x)]; exact he_13
    have he_18 : f_15 a = .inr (1, [.int a_n, .int a_cy, .long a_g, .long a_en, .long a_sp, .long (a_pd + (c0.toInt64))]) := by rw [ef_15, va_up_ne _ _ (Ne.symm ne_t_a)]; exact he_14
    have hP : va_P (dC, dI) classes (va_pl L f_15) H := by rw [ef_15]; exact hP
    have hD : va_D A (va_pl L f_15) := by rw [ef_15]; exact hD
    exact W.vret hx hb hr (fun t ht hW => ⟨⟨(L, f_15), rfl, (by rw [ef_15, ef_11, ef_7, ef_3] <;> exact fw_same (by intro z; simp only [va_up] <;> grind)), by rw [ht]; exact hP, va_K.moved hW.alike hK, hD⟩, hS.F ht⟩) hS.2.2 d_Ba_add_50
  · exact absurd (nI_lt hk (by decide)) (of_decide_eq_true c_2)
