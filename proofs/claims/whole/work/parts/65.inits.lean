theorem d_Ba_init_0 : decode b_Ba_init 0 = .ok (.aload_n 0, 1) := by decide +kernel
theorem d_Ba_init_1 : decode b_Ba_init 1 = .ok (.invokespecial 3, 3) := by decide +kernel
theorem d_Ba_init_4 : decode b_Ba_init 4 = .ok (.aload_n 0, 1) := by decide +kernel
theorem d_Ba_init_5 : decode b_Ba_init 5 = .ok (.bipush 20, 2) := by decide +kernel
theorem d_Ba_init_7 : decode b_Ba_init 7 = .ok (.anewarray 9, 3) := by decide +kernel
theorem d_Ba_init_10 : decode b_Ba_init 10 = .ok (.putfield 11, 3) := by decide +kernel
theorem d_Ba_init_13 : decode b_Ba_init 13 = .ok (.return_, 1) := by decide +kernel
set_option maxHeartbeats 4000000 in
set_option maxRecDepth 100000 in
theorem c_Ba_init (l : Launch) (dC : Nat → ClassId) (dI : Nat → Nat → Nat) (tys : List (ClassId × FieldType)) (L : List Nat) (f : Nat → va_E) (sz b0 : Nat) (hm_b : b0 ∈ L) (he_b : f b0 = .inr (6, [.null, .int 0, .long 0])) : Met l y_Ba_init w_Ba_init { frames := 1, cells := 1, slots := 20, locals := 12 } (in_P (dC, dI) classes tys (va_pl L f) sz [.ref b0]) (va_Qv (fun u : Nat × ClassId => u.1 ∉ L) (fun u t => va_P (dC, dI) classes (va_pl (L ++ [u.1]) (va_up (va_up f b0 (oBat u.1 0 0)) u.1 (oArr u.2 20 (fun _ => none)))) t.heap ∧ va_K (dC, dI) classes (tys ++ [(u.2, .object "FundBook$Account")]) t ∧ va_D (va_A (va_pl L f) sz) (va_pl (L ++ [u.1]) (va_up (va_up f b0 (oBat u.1 0 0)) u.1 (oArr u.2 20 (fun _ => none))))) (va_A (va_pl L f) sz)) 1 20 (va_A (va_pl L f) sz) := by
  refine Met.ofW (cc := b_Ba_init) (maxL := 1) (ret := none) (by decide) rfl ?_
  intro p e s m args below meth c s₁ B hml hv
  obtain ⟨⟨rfl, hsz, hP, hK, hD0, hN⟩, hO⟩ := hv
  have hx := B.exec
  have hb := B.bytes
  have hr := B.returns
  have hts := atoms_spec (ws := w_Ba_init) B.pre
  have hG := fun (w : Cond) (h : w ∈ wG) => hts w (List.mem_cons_of_mem _ h)
  have hown : s.vm.findClass R_Ba = some m.cls := findClass_of_methodNamed B.named
  have hlocks := B.notSynchronized
  have hin : meth.name = "<init>" := (name_of_methodNamed B.named B.method).1
  subst hsz
  have hD := hD0.self (sz := s.heap.size)
  generalize hAe : va_A (va_pl L f) s.heap.size = A at hD ⊢
  have hA : ∀ q : Nat, s.heap.size ≤ q → A q := fun q h => by rw [← hAe]; exact Or.inr h
  have hS : va_S A s.heap s.heap [] := va_S.rf
  have hP : va_P (dC, dI) classes (va_pl L f) s.heap := hP
  have hl := lv_entry ([.ref b0]) (n := 1) (Nat.le_of_ble_eq_true rfl)
  rw [lg_entry_eq]
  generalize (lg_sl ([.ref b0]) ++ List.replicate (1 - (lg_sl ([.ref b0])).length) Slot.unset).toArray = ls at hl ⊢
  have hl : lv_has ls 1 [(0, .ref b0)] := hl
  refine lv_aload_n hx hb d_Ba_init_0 rfl (lv_at hl 0 rfl) ?_
  refine W.objInit hx hb hown (hG _ k_48) (hG _ k_33) (hG _ k_34) rfl (by rw [hml]; exact hl.1) rfl d_Ba_init_1 (Nat.le_of_ble_eq_true rfl) (Nat.le_of_ble_eq_true rfl) ?_
  refine W.eq (g2 := F0 m 4 ls []) rfl ?_
  refine lv_aload_n hx hb d_Ba_init_4 rfl (lv_at hl 0 rfl) ?_
  refine lv_bipush (v := 20) hx hb d_Ba_init_5 (by decide) ?_
  refine fw_newq (D := (dC, dI)) (C := "FundBook$Account") (N' := 20) hx hb hown (hG _ k_49) hO.1 hK hP hD hS hA (by decide) (by decide) (by decide) (Nat.le_of_ble_eq_true rfl) (Nat.le_of_ble_eq_true rfl) d_Ba_init_7 (fun q_1 kA_2 H hq_q_1 hK hP hD hS => ?_)
  obtain ⟨L_4, eL_4⟩ : ∃ z, z = L ++ [q_1] := ⟨_, rfl⟩
  obtain ⟨f_3, ef_3⟩ : ∃ z, z = va_up f q_1 (.inl (kA_2, 20, .inr (.inr (.inr (.inr (fun _ => none)))))) := ⟨_, rfl⟩
  have hP : va_P (dC, dI) classes (va_pl L_4 f_3) H := by rw [eL_4, ef_3]; exact hP
  have hD : va_D A (va_pl L_4 f_3) := by rw [eL_4, ef_3]; exact hD
  have ne_7 : b0 ≠ q_1 := fun z => hq_q_1 (z ▸ hm_b)
  have hm_6 : b0 ∈ L_4 := by rw [eL_4]; exact List.mem_append_left _ hm_b
  have he_5 : f_3 b0 = .inr (6, [.null, .int 0, .long 0]) := by rw [ef_3, va_up_ne _ _ ne_7]; exact he_b
  have hm_9 : q_1 ∈ L_4 := by rw [eL_4]; exact List.mem_append_right _ (List.mem_singleton.mpr rfl)
  have he_8 : f_3 q_1 = .inl (kA_2, 20, .inr (.inr (.inr (.inr (fun _ => none))))) := by rw [ef_3]; exact va_up_self _ _ _
  refine fw_putF (D := (dC, dI)) (ci := 6) (v := .ref q_1) (ty := (.array (.object "FundBook$Account"))) (C := R_Ba) (T := F_Ba) (N := 3) hx hb hG iG_Ba t_Ba t_Ba_ok n_Ba hown hK hP hD hS hm_6 he_5 rfl 0 (by decide) (hG _ k_50) (fun _ h9 => h9) rfl hin rfl (by decide +kernel) rfl rfl (Nat.le_of_ble_eq_true rfl) d_Ba_init_10 (fun H locs hP hD hS => ?_)
  obtain ⟨f_10, ef_10⟩ : ∃ z, z = va_up f_3 b0 (.inr (6, [.ref q_1, .int 0, .long 0])) := ⟨_, rfl⟩
  have he_11 : f_10 b0 = .inr (6, [.ref q_1, .int 0, .long 0]) := by rw [ef_10]; exact va_up_self _ _ _
  have he_12 : f_10 q_1 = .inl (kA_2, 20, .inr (.inr (.inr (.inr (fun _ => none))))) := by rw [ef_10, va_up_ne _ _ (Ne.symm ne_7)]; exact he_8
  have hP : va_P (dC, dI) classes (va_pl L_4 f_10) H := by rw [ef_10]; exact hP
  have hD : va_D A (va_pl L_4 f_10) := by rw [ef_10]; exact hD
  have hne : b0 ≠ q_1 := fun z => hq_q_1 (z ▸ hm_b)
  have hsw : va_up (va_up f q_1 (oArr kA_2 20 (fun _ => none))) b0 (oBat q_1 0 0) = va_up (va_up f b0 (oBat q_1 0 0)) q_1 (oArr kA_2 20 (fun _ => none)) := by
    funext z
    by_cases h1 : z = b0
    · subst h1; rw [va_up_self, va_up_ne _ _ hne, va_up_self]
    · by_cases h2 : z = q_1
      · subst h2; rw [va_up_ne _ _ h1, va_up_self, va_up_self]
      · rw [va_up_ne _ _ h1, va_up_ne _ _ h2, va_up_ne _ _ h2, va_up_ne _ _ h1]
  rw [ef_10, ef_3, eL_4, hsw] at hP hD
  refine W.widen (k := 1) (n := 20) (Nat.le_of_ble_eq_true rfl) (Nat.le_of_ble_eq_true rfl) ?_
  exact W.vret hx hb hr (fun t ht hW => ⟨⟨(q_1, kA_2), rfl, hq_q_1, by rw [ht]; exact hP, va_K.moved hW.alike hK, hD⟩, hS.F ht⟩) hS.2.2 d_Ba_init_13

theorem d_FB_init_0 : decode b_FB_init 0 = .ok (.aload_n 0, 1) := by decide +kernel
theorem d_FB_init_1 : decode b_FB_init 1 = .ok (.invokespecial 1, 3) := by decide +kernel
theorem d_FB_init_4 : decode b_FB_init 4 = .ok (.aload_n 0, 1) := by decide +kernel
theorem d_FB_init_5 : decode b_FB_init 5 = .ok (.bipush 30, 2) := by decide +kernel
theorem d_FB_init_7 : decode b_FB_init 7 = .ok (.anewarray 9, 3) := by decide +kernel
theorem d_FB_init_10 : decode b_FB_init 10 = .ok (.putfield 11, 3) := by decide +kernel
theorem d_FB_init_13 : decode b_FB_init 13 = .ok (.aload_n 0, 1) := by decide +kernel
theorem d_FB_init_14 : decode b_FB_init 14 = .ok (.sipush 300, 3) := by decide +kernel
theorem d_FB_init_17 : decode b_FB_init 17 = .ok (.anewarray 15, 3) := by decide +kernel
theorem d_FB_init_20 : decode b_FB_init 20 = .ok (.putfield 17, 3) := by decide +kernel
theorem d_FB_init_23 : decode b_FB_init 23 = .ok (.aload_n 0, 1) := by decide +kernel
theorem d_FB_init_24 : decode b_FB_init 24 = .ok (.bipush 100, 2) := by decide +kernel
theorem d_FB_init_26 : decode b_FB_init 26 = .ok (.anewarray 21, 3) := by decide +kernel
theorem d_FB_init_29 : decode b_FB_init 29 = .ok (.putfield 23, 3) := by decide +kernel
theorem d_FB_init_32 : decode b_FB_init 32 = .ok (.aload_n 0, 1) := by decide +kernel
theorem d_FB_init_33 : decode b_FB_init 33 = .ok (.bipush 10, 2) := by decide +kernel
theorem d_FB_init_35 : decode b_FB_init 35 = .ok (.anewarray 27, 3) := by decide +kernel
theorem d_FB_init_38 : decode b_FB_init 38 = .ok (.putfield 29, 3) := by decide +kernel
theorem d_FB_init_41 : decode b_FB_init 41 = .ok (.aload_n 0, 1) := by decide +kernel
theorem d_FB_init_42 : decode b_FB_init 42 = .ok (.new 33, 3) := by decide +kernel
theorem d_FB_init_45 : decode b_FB_init 45 = .ok (.dup, 1) := by decide +kernel
theorem d_FB_init_46 : decode b_FB_init 46 = .ok (.invokespecial 35, 3) := by decide +kernel
theorem d_FB_init_49 : decode b_FB_init 49 = .ok (.putfield 36, 3) := by decide +kernel
theorem d_FB_init_52 : decode b_FB_init 52 = .ok (.aload_n 0, 1) := by decide +kernel
theorem d_FB_init_53 : decode b_FB_init 53 = .ok (.bipush 50, 2) := by decide +kernel
theorem d_FB_init_55 : decode b_FB_init 55 = .ok (.putfield 40, 3) := by decide +kernel
theorem d_FB_init_58 : decode b_FB_init 58 = .ok (.aload_n 0, 1) := by decide +kernel
theorem d_FB_init_59 : decode b_FB_init 59 = .ok (.iconst (-1), 1) := by decide +kernel
theorem d_FB_init_60 : decode b_FB_init 60 = .ok (.putfield 44, 3) := by decide +kernel
theorem d_FB_init_63 : decode b_FB_init 63 = .ok (.aload_n 0, 1) := by decide +kernel
theorem d_FB_init_64 : decode b_FB_init 64 = .ok (.iconst 0, 1) := by decide +kernel
theorem d_FB_init_65 : decode b_FB_init 65 = .ok (.sipush 9999, 3) := by decide +kernel
theorem d_FB_init_68 : decode b_FB_init 68 = .ok (.iload_n 1, 1) := by decide +kernel
theorem d_FB_init_69 : decode b_FB_init 69 = .ok (.invokestatic 47, 3) := by decide +kernel
theorem d_FB_init_72 : decode b_FB_init 72 = .ok (.invokestatic 53, 3) := by decide +kernel
theorem d_FB_init_75 : decode b_FB_init 75 = .ok (.putfield 56, 3) := by decide +kernel
theorem d_FB_init_78 : decode b_FB_init 78 = .ok (.return_, 1) := by decide +kernel
set_option maxHeartbeats 4000000 in
set_option maxRecDepth 100000 in
theorem c_FB_init (l : Launch) (dC : Nat → ClassId) (dI : Nat → Nat → Nat) (L : List Nat) (f : Nat → va_E) (sz o : Nat) (x0 : Int32) (hm_o : o ∈ L) (he_o : f o = .inr (0, [.null, .null, .null, .null, .null, .int 0, .int 0, .int 0, .int 0, .int 0, .int 0])) : Met l y_FB_init w_FB_init { frames := 2, cells := 6, slots := 463, locals := 32 } (in_P (dC, dI) classes [] (va_pl L f) sz [.ref o, .int x0]) (va_Qv (fun u : (List Nat × (Nat → va_E)) × (Nat → ClassId) => CS u.2 o (0, (if 0 ≤ x0 then (if x0 ≤ 9999 then x0 else 9999) else 0), 0, 0, 0, 50, 0, -1, (fun _ _ => 0), (fun _ _ => 0), (fun _ _ => false), (fun _ _ => 0)) u.1.1 u.1.2) (fun u t => va_P (dC, dI) classes (fw_w u.1) t.heap ∧ va_K (dC, dI) classes (ctys u.2) t ∧ va_D (va_A (va_pl L f) sz) (fw_w u.1)) (va_A (va_pl L f) sz)) 6 463 (va_A (va_pl L f) sz) := by
  refine Met.ofW (cc := b_FB_init) (maxL := 2) (ret := none) (by decide) rfl ?_
  intro p e s m args below meth c s₁ B hml hv
  obtain ⟨⟨rfl, hsz, hP, hK, hD0, hN⟩, hO⟩ := hv
  have hx := B.exec
  have hb := B.bytes
  have hr := B.returns
  have hts := atoms_spec (ws := w_FB_init) B.pre
  have hG := fun (w : Cond) (h : w ∈ wG) => hts w (List.mem_cons_of_mem _ h)
  have hown : s.vm.findClass R_FB = some m.cls := findClass_of_methodNamed B.named
  have hlocks := B.notSynchronized
  have hin : meth.name = "<init>" := (name_of_methodNamed B.named B.method).1
  subst hsz
  have hD := hD0.self (sz := s.heap.size)
  generalize hAe : va_A (va_pl L f) s.heap.size = A at hD ⊢
  have hA : ∀ q : Nat, s.heap.size ≤ q → A q := fun q h => by rw [← hAe]; exact Or.inr h
  have hS : va_S A s.heap s.heap [] := va_S.rf
  have hP : va_P (dC, dI) classes (va_pl L f) s.heap := hP
  have hl := lv_entry ([.ref o, .int x0]) (n := 2) (Nat.le_of_ble_eq_true rfl)
  rw [lg_entry_eq]
  generalize (lg_sl ([.ref o, .int x0]) ++ List.replicate (2 - (lg_sl ([.ref o, .int x0])).length) Slot.unset).toArray = ls at hl ⊢
  have hl : lv_has ls 2 [(0, .ref o), (1, .int x0)] := hl
  refine lv_aload_n hx hb d_FB_init_0 rfl (lv_at hl 0 rfl) ?_
  refine W.objInit hx hb hown (hG _ k_32) (hG _ k_33) (hG _ k_34) rfl (by rw [hml]; exact hl.1) rfl d_FB_init_1 (Nat.le_of_ble_eq_true rfl) (Nat.le_of_ble_eq_true rfl) ?_
  refine W.eq (g2 := F0 m 4 ls []) rfl ?_
  refine lv_aload_n hx hb d_FB_init_4 rfl (lv_at hl 0 rfl) ?_
  refine lv_bipush (v := 30) hx hb d_FB_init_5 (by decide) ?_
  refine fw_newq (D := (dC, dI)) (C := "FundBook$Account") (N' := 30) hx hb hown (hG _ k_35) hO.1 hK hP hD hS hA (by decide) (by decide) (by decide) (Nat.le_of_ble_eq_true rfl) (Nat.le_of_ble_eq_true rfl) d_FB_init_7 (fun q_1 kA_2 H hq_q_1 hK hP hD hS => ?_)
  obtain ⟨L_4, eL_4⟩ : ∃ z, z = L ++ [q_1] := ⟨_, rfl⟩
  obtain ⟨f_3, ef_3⟩ : ∃ z, z = va_up f q_1 (.inl (kA_2, 30, .inr (.inr (.inr (.inr (fun _ => none)))))) := ⟨_, rfl⟩
  have hP : va_P (dC, dI) classes (va_pl L_4 f_3) H := by rw [eL_4, ef_3]; exact hP
  have hD : va_D A (va_pl L_4 f_3) := by rw [eL_4, ef_3]; exact hD
  have ne_7 : o ≠ q_1 := fun z => hq_q_1 (z ▸ hm_o)
  have hm_6 : o ∈ L_4 := by rw [eL_4]; exact List.mem_append_left _ hm_o
  have he_5 : f_3 o = .inr (0, [.null, .null, .null, .null, .null, .int 0, .int 0, .int 0, .int 0, .int 0, .int 0]) := by rw [ef_3, va_up_ne _ _ ne_7]; exact he_o
  have hm_9 : q_1 ∈ L_4 := by rw [eL_4]; exact List.mem_append_right _ (List.mem_singleton.mpr rfl)
  have he_8 : f_3 q_1 = .inl (kA_2, 30, .inr (.inr (.inr (.inr (fun _ => none))))) := by rw [ef_3]; exact va_up_self _ _ _
  refine fw_putF (D := (dC, dI)) (ci := 0) (v := .ref q_1) (ty := (.array (.object "FundBook$Account"))) (C := R_FB) (T := F_FB) (N := 11) hx hb hG iG_FB t_FB t_FB_ok n_FB hown hK hP hD hS hm_6 he_5 rfl 0 (by decide) (hG _ k_67) (fun _ h9 => h9) rfl hin rfl (by decide +kernel) rfl rfl (Nat.le_of_ble_eq_true rfl) d_FB_init_10 (fun H locs hP hD hS => ?_)
  obtain ⟨f_10, ef_10⟩ : ∃ z, z = va_up f_3 o (.inr (0, [.ref q_1, .null, .null, .null, .null, .int 0, .int 0, .int 0, .int 0, .int 0, .int 0])) := ⟨_, rfl⟩
  have he_11 : f_10 o = .inr (0, [.ref q_1, .null, .null, .null, .null, .int 0, .int 0, .int 0, .int 0, .int 0, .int 0]) := by rw [ef_10]; exact va_up_self _ _ _
  have he_12 : f_10 q_1 = .inl (kA_2, 30, .inr (.inr (.inr (.inr (fun _ => none))))) := by rw [ef_10, va_up_ne _ _ (Ne.symm ne_7)]; exact he_8
  have hP : va_P (dC, dI) classes (va_pl L_4 f_10) H := by rw [ef_10]; exact hP
  have hD : va_D A (va_pl L_4 f_10) := by rw [ef_10]; exact hD
  refine lv_aload_n hx hb d_FB_init_13 rfl (lv_at hl 0 rfl) ?_
  refine lv_sipush (v := 300) hx hb d_FB_init_14 (by decide) ?_
  refine fw_newq (D := (dC, dI)) (C := "FundBook$Purchase") (N' := 300) hx hb hown (hG _ k_37) hO.2.1 hK hP hD hS hA (by decide) (by decide) (by decide) (Nat.le_of_ble_eq_true rfl) (Nat.le_of_ble_eq_true rfl) d_FB_init_17 (fun q_13 kA_14 H hq_q_13 hK hP hD hS => ?_)
  obtain ⟨L_16, eL_16⟩ : ∃ z, z = L_4 ++ [q_13] := ⟨_, rfl⟩
  obtain ⟨f_15, ef_15⟩ : ∃ z, z = va_up f_10 q_13 (.inl (kA_14, 300, .inr (.inr (.inr (.inr (fun _ => none)))))) := ⟨_, rfl⟩
  have hP : va_P (dC, dI) classes (va_pl L_16 f_15) H := by rw [eL_16, ef_15]; exact hP
  have hD : va_D A (va_pl L_16 f_15) := by rw [eL_16, ef_15]; exact hD
  have ne_19 : o ≠ q_13 := fun z => hq_q_13 (z ▸ hm_6)
  have hm_18 : o ∈ L_16 := by rw [eL_16]; exact List.mem_append_left _ hm_6
  have he_17 : f_15 o = .inr (0, [.ref q_1, .null, .null, .null, .null, .int 0, .int 0, .int 0, .int 0, .int 0, .int 0]) := by rw [ef_15, va_up_ne _ _ ne_19]; exact he_11
  have ne_22 : q_1 ≠ q_13 := fun z => hq_q_13 (z ▸ hm_9)
  have hm_21 : q_1 ∈ L_16 := by rw [eL_16]; exact List.mem_append_left _ hm_9
  have he_20 : f_15 q_1 = .inl (kA_2, 30, .inr (.inr (.inr (.inr (fun _ => none))))) := by rw [ef_15, va_up_ne _ _ ne_22]; exact he_12
  have hm_24 : q_13 ∈ L_16 := by rw [eL_16]; exact List.mem_append_right _ (List.mem_singleton.mpr rfl)
  have he_23 : f_15 q_13 = .inl (kA_14, 300, .inr (.inr (.inr (.inr (fun _ => none))))) := by rw [ef_15]; exact va_up_self _ _ _
  refine fw_putF (D := (dC, dI)) (ci := 0) (v := .ref q_13) (ty := (.array (.object "FundBook$Purchase"))) (C := R_FB) (T := F_FB) (N := 11) hx hb hG iG_FB t_FB t_FB_ok n_FB hown hK hP hD hS hm_18 he_17 rfl 1 (by decide) (hG _ k_68) (fun _ h9 => h9) rfl hin rfl (by decide +kernel) rfl rfl (Nat.le_of_ble_eq_true rfl) d_FB_init_20 (fun H locs hP hD hS => ?_)
  obtain ⟨f_25, ef_25⟩ : ∃ z, z = va_up f_15 o (.inr (0, [.ref q_1, .ref q_13, .null, .null, .null, .int 0, .int 0, .int 0, .int 0, .int 0, .int 0])) := ⟨_, rfl⟩
  have he_26 : f_25 o = .inr (0, [.ref q_1, .ref q_13, .null, .null, .null, .int 0, .int 0, .int 0, .int 0, .int 0, .int 0]) := by rw [ef_25]; exact va_up_self _ _ _
  have he_27 : f_25 q_1 = .inl (kA_2, 30, .inr (.inr (.inr (.inr (fun _ => none))))) := by rw [ef_25, va_up_ne _ _ (Ne.symm ne_7)]; exact he_20
  have he_28 : f_25 q_13 = .inl (kA_14, 300, .inr (.inr (.inr (.inr (fun _ => none))))) := by rw [ef_25, va_up_ne _ _ (Ne.symm ne_19)]; exact he_23
  have hP : va_P (dC, dI) classes (va_pl L_16 f_25) H := by rw [ef_25]; exact hP
  have hD : va_D A (va_pl L_16 f_25) := by rw [ef_25]; exact hD
  refine lv_aload_n hx hb d_FB_init_23 rfl (lv_at hl 0 rfl) ?_
  refine lv_bipush (v := 100) hx hb d_FB_init_24 (by decide) ?_
  refine fw_newq (D := (dC, dI)) (C := "FundBook$Move") (N' := 100) hx hb hown (hG _ k_39) hO.2.2.1 hK hP hD hS hA (by decide) (by decide) (by decide) (Nat.le_of_ble_eq_true rfl) (Nat.le_of_ble_eq_true rfl) d_FB_init_26 (fun q_29 kA_30 H hq_q_29 hK hP hD hS => ?_)
  obtain ⟨L_32, eL_32⟩ : ∃ z, z = L_16 ++ [q_29] := ⟨_, rfl⟩
  obtain ⟨f_31, ef_31⟩ : ∃ z, z = va_up f_25 q_29 (.inl (kA_30, 100, .inr (.inr (.inr (.inr (fun _ => none)))))) := ⟨_, rfl⟩
  have hP : va_P (dC, dI) classes (va_pl L_32 f_31) H := by rw [eL_32, ef_31]; exact hP
  have hD : va_D A (va_pl L_32 f_31) := by rw [eL_32, ef_31]; exact hD
  have ne_35 : o ≠ q_29 := fun z => hq_q_29 (z ▸ hm_18)
  have hm_34 : o ∈ L_32 := by rw [eL_32]; exact List.mem_append_left _ hm_18
  have he_33 : f_31 o = .inr (0, [.ref q_1, .ref q_13, .null, .null, .null, .int 0, .int 0, .int 0, .int 0, .int 0, .int 0]) := by rw [ef_31, va_up_ne _ _ ne_35]; exact he_26
  have ne_38 : q_1 ≠ q_29 := fun z => hq_q_29 (z ▸ hm_21)
  have hm_37 : q_1 ∈ L_32 := by rw [eL_32]; exact List.mem_append_left _ hm_21
  have he_36 : f_31 q_1 = .inl (kA_2, 30, .inr (.inr (.inr (.inr (fun _ => none))))) := by rw [ef_31, va_up_ne _ _ ne_38]; exact he_27
  have ne_41 : q_13 ≠ q_29 := fun z => hq_q_29 (z ▸ hm_24)
  have hm_40 : q_13 ∈ L_32 := by rw [eL_32]; exact List.mem_append_left _ hm_24
  have he_39 : f_31 q_13 = .inl (kA_14, 300, .inr (.inr (.inr (.inr (fun _ => none))))) := by rw [ef_31, va_up_ne _ _ ne_41]; exact he_28
  have hm_43 : q_29 ∈ L_32 := by rw [eL_32]; exact List.mem_append_right _ (List.mem_singleton.mpr rfl)
  have he_42 : f_31 q_29 = .inl (kA_30, 100, .inr (.inr (.inr (.inr (fun _ => none))))) := by rw [ef_31]; exact va_up_self _ _ _
  refine fw_putF (D := (dC, dI)) (ci := 0) (v := .ref q_29) (ty := (.array (.object "FundBook$Move"))) (C := R_FB) (T := F_FB) (N := 11) hx hb hG iG_FB t_FB t_FB_ok n_FB hown hK hP hD hS hm_34 he_33 rfl 2 (by decide) (hG _ k_69) (fun _ h9 => h9) rfl hin rfl (by decide +kernel) rfl rfl (Nat.le_of_ble_eq_true rfl) d_FB_init_29 (fun H locs hP hD hS => ?_)
  obtain ⟨f_44, ef_44⟩ : ∃ z, z = va_up f_31 o (.inr (0, [.ref q_1, .ref q_13, .ref q_29, .null, .null, .int 0, .int 0, .int 0, .int 0, .int 0, .int 0])) := ⟨_, rfl⟩
  have he_45 : f_44 o = .inr (0, [.ref q_1, .ref q_13, .ref q_29, .null, .null, .int 0, .int 0, .int 0, .int 0, .int 0, .int 0]) := by rw [ef_44]; exact va_up_self _ _ _
  have he_46 : f_44 q_1 = .inl (kA_2, 30, .inr (.inr (.inr (.inr (fun _ => none))))) := by rw [ef_44, va_up_ne _ _ (Ne.symm ne_7)]; exact he_36
  have he_47 : f_44 q_13 = .inl (kA_14, 300, .inr (.inr (.inr (.inr (fun _ => none))))) := by rw [ef_44, va_up_ne _ _ (Ne.symm ne_19)]; exact he_39
  have he_48 : f_44 q_29 = .inl (kA_30, 100, .inr (.inr (.inr (.inr (fun _ => none))))) := by rw [ef_44, va_up_ne _ _ (Ne.symm ne_35)]; exact he_42
  have hP : va_P (dC, dI) classes (va_pl L_32 f_44) H := by rw [ef_44]; exact hP
  have hD : va_D A (va_pl L_32 f_44) := by rw [ef_44]; exact hD
  refine lv_aload_n hx hb d_FB_init_32 rfl (lv_at hl 0 rfl) ?_
  refine lv_bipush (v := 10) hx hb d_FB_init_33 (by decide) ?_
  refine fw_newq (D := (dC, dI)) (C := "FundBook$Rate") (N' := 10) hx hb hown (hG _ k_41) hO.2.2.2 hK hP hD hS hA (by decide) (by decide) (by decide) (Nat.le_of_ble_eq_true rfl) (Nat.le_of_ble_eq_true rfl) d_FB_init_35 (fun q_49 kA_50 H hq_q_49 hK hP hD hS => ?_)
  obtain ⟨L_52, eL_52⟩ : ∃ z, z = L_32 ++ [q_49] := ⟨_, rfl⟩
  obtain ⟨f_51, ef_51⟩ : ∃ z, z = va_up f_44 q_49 (.inl (kA_50, 10, .inr (.inr (.inr (.inr (fun _ => none)))))) := ⟨_, rfl⟩
  have hP : va_P (dC, dI) classes (va_pl L_52 f_51) H := by rw [eL_52, ef_51]; exact hP
  have hD : va_D A (va_pl L_52 f_51) := by rw [eL_52, ef_51]; exact hD
  have ne_55 : o ≠ q_49 := fun z => hq_q_49 (z ▸ hm_34)
  have hm_54 : o ∈ L_52 := by rw [eL_52]; exact List.mem_append_left _ hm_34
  have he_53 : f_51 o = .inr (0, [.ref q_1, .ref q_13, .ref q_29, .null, .null, .int 0, .int 0, .int 0, .int 0, .int 0, .int 0]) := by rw [ef_51, va_up_ne _ _ ne_55]; exact he_45
  have ne_58 : q_1 ≠ q_49 := fun z => hq_q_49 (z ▸ hm_37)
  have hm_57 : q_1 ∈ L_52 := by rw [eL_52]; exact List.mem_append_left _ hm_37
  have he_56 : f_51 q_1 = .inl (kA_2, 30, .inr (.inr (.inr (.inr (fun _ => none))))) := by rw [ef_51, va_up_ne _ _ ne_58]; exact he_46
  have ne_61 : q_13 ≠ q_49 := fun z => hq_q_49 (z ▸ hm_40)
  have hm_60 : q_13 ∈ L_52 := by rw [eL_52]; exact List.mem_append_left _ hm_40
  have he_59 : f_51 q_13 = .inl (kA_14, 300, .inr (.inr (.inr (.inr (fun _ => none))))) := by rw [ef_51, va_up_ne _ _ ne_61]; exact he_47
  have ne_64 : q_29 ≠ q_49 := fun z => hq_q_49 (z ▸ hm_43)
  have hm_63 : q_29 ∈ L_52 := by rw [eL_52]; exact List.mem_append_left _ hm_43
  have he_62 : f_51 q_29 = .inl (kA_30, 100, .inr (.inr (.inr (.inr (fun _ => none))))) := by rw [ef_51, va_up_ne _ _ ne_64]; exact he_48
  have hm_66 : q_49 ∈ L_52 := by rw [eL_52]; exact List.mem_append_right _ (List.mem_singleton.mpr rfl)
  have he_65 : f_51 q_49 = .inl (kA_50, 10, .inr (.inr (.inr (.inr (fun _ => none))))) := by rw [ef_51]; exact va_up_self _ _ _
  refine fw_putF (D := (dC, dI)) (ci := 0) (v := .ref q_49) (ty := (.array (.object "FundBook$Rate"))) (C := R_FB) (T := F_FB) (N := 11) hx hb hG iG_FB t_FB t_FB_ok n_FB hown hK hP hD hS hm_54 he_53 rfl 3 (by decide) (hG _ k_70) (fun _ h9 => h9) rfl hin rfl (by decide +kernel) rfl rfl (Nat.le_of_ble_eq_true rfl) d_FB_init_38 (fun H locs hP hD hS => ?_)
  obtain ⟨f_67, ef_67⟩ : ∃ z, z = va_up f_51 o (.inr (0, [.ref q_1, .ref q_13, .ref q_29, .ref q_49, .null, .int 0, .int 0, .int 0, .int 0, .int 0, .int 0])) := ⟨_, rfl⟩
  have he_68 : f_67 o = .inr (0, [.ref q_1, .ref q_13, .ref q_29, .ref q_49, .null, .int 0, .int 0, .int 0, .int 0, .int 0, .int 0]) := by rw [ef_67]; exact va_up_self _ _ _
  have he_69 : f_67 q_1 = .inl (kA_2, 30, .inr (.inr (.inr (.inr (fun _ => none))))) := by rw [ef_67, va_up_ne _ _ (Ne.symm ne_7)]; exact he_56
  have he_70 : f_67 q_13 = .inl (kA_14, 300, .inr (.inr (.inr (.inr (fun _ => none))))) := by rw [ef_67, va_up_ne _ _ (Ne.symm ne_19)]; exact he_59
  have he_71 : f_67 q_29 = .inl (kA_30, 100, .inr (.inr (.inr (.inr (fun _ => none))))) := by rw [ef_67, va_up_ne _ _ (Ne.symm ne_35)]; exact he_62
  have he_72 : f_67 q_49 = .inl (kA_50, 10, .inr (.inr (.inr (.inr (fun _ => none))))) := by rw [ef_67, va_up_ne _ _ (Ne.symm ne_55)]; exact he_65
  have hP : va_P (dC, dI) classes (va_pl L_52 f_67) H := by rw [ef_67]; exact hP
  have hD : va_D A (va_pl L_52 f_67) := by rw [ef_67]; exact hD
  refine lv_aload_n hx hb d_FB_init_41 rfl (lv_at hl 0 rfl) ?_
  refine fw_new (D := (dC, dI)) (ci := 6) (fs := [.null, .int 0, .long 0]) (C := R_Ba) (T := F_Ba) (N := 3) hx hb hG iG_Ba t_Ba t_Ba_ok hown (hG _ k_43) (hG _ k_44) (hG _ k_15) hK hP hD hS hA rfl (fun j hj => by rcases (show j = 0 ∨ j = 1 ∨ j = 2 by omega) with rfl | rfl | rfl <;> rfl) (Nat.le_of_ble_eq_true rfl) (Nat.le_of_ble_eq_true rfl) d_FB_init_42 (fun q_73 H hq_q_73 hP hD hS => ?_)
  obtain ⟨L_75, eL_75⟩ : ∃ z, z = L_52 ++ [q_73] := ⟨_, rfl⟩
  obtain ⟨f_74, ef_74⟩ : ∃ z, z = va_up f_67 q_73 (.inr (6, [.null, .int 0, .long 0])) := ⟨_, rfl⟩
  have hP : va_P (dC, dI) classes (va_pl L_75 f_74) H := by rw [eL_75, ef_74]; exact hP
  have hD : va_D A (va_pl L_75 f_74) := by rw [eL_75, ef_74]; exact hD
  have ne_78 : o ≠ q_73 := fun z => hq_q_73 (z ▸ hm_54)
  have hm_77 : o ∈ L_75 := by rw [eL_75]; exact List.mem_append_left _ hm_54
  have he_76 : f_74 o = .inr (0, [.ref q_1, .ref q_13, .ref q_29, .ref q_49, .null, .int 0, .int 0, .int 0, .int 0, .int 0, .int 0]) := by rw [ef_74, va_up_ne _ _ ne_78]; exact he_68
  have ne_81 : q_1 ≠ q_73 := fun z => hq_q_73 (z ▸ hm_57)
  have hm_80 : q_1 ∈ L_75 := by rw [eL_75]; exact List.mem_append_left _ hm_57
  have he_79 : f_74 q_1 = .inl (kA_2, 30, .inr (.inr (.inr (.inr (fun _ => none))))) := by rw [ef_74, va_up_ne _ _ ne_81]; exact he_69
  have ne_84 : q_13 ≠ q_73 := fun z => hq_q_73 (z ▸ hm_60)
  have hm_83 : q_13 ∈ L_75 := by rw [eL_75]; exact List.mem_append_left _ hm_60
  have he_82 : f_74 q_13 = .inl (kA_14, 300, .inr (.inr (.inr (.inr (fun _ => none))))) := by rw [ef_74, va_up_ne _ _ ne_84]; exact he_70
  have ne_87 : q_29 ≠ q_73 := fun z => hq_q_73 (z ▸ hm_63)
  have hm_86 : q_29 ∈ L_75 := by rw [eL_75]; exact List.mem_append_left _ hm_63
  have he_85 : f_74 q_29 = .inl (kA_30, 100, .inr (.inr (.inr (.inr (fun _ => none))))) := by rw [ef_74, va_up_ne _ _ ne_87]; exact he_71
  have ne_90 : q_49 ≠ q_73 := fun z => hq_q_73 (z ▸ hm_66)
  have hm_89 : q_49 ∈ L_75 := by rw [eL_75]; exact List.mem_append_left _ hm_66
  have he_88 : f_74 q_49 = .inl (kA_50, 10, .inr (.inr (.inr (.inr (fun _ => none))))) := by rw [ef_74, va_up_ne _ _ ne_90]; exact he_72
  have hm_92 : q_73 ∈ L_75 := by rw [eL_75]; exact List.mem_append_right _ (List.mem_singleton.mpr rfl)
  have he_91 : f_74 q_73 = .inr (6, [.null, .int 0, .long 0]) := by rw [ef_74]; exact va_up_self _ _ _
  refine lv_dup hx hb d_FB_init_45 rfl ?_
  refine in_callv (va_runIN (As := []) (rest := [.ref q_73, .ref o]) ⟨hx, hb, hml, hown, hts⟩ (c_Ba_init l dC dI _ L_75 f_74 _ q_73 hm_92 he_91) ⟨va_cnB 0 hts (gd_c k_47) rfl rfl rfl (hN _ k_45) (hG _ k_15) (by decide +kernel) ⟨Nat.le_of_ble_eq_true rfl, Nat.le_of_ble_eq_true rfl⟩, rfl, (hG _ k_46)⟩ (in_pre hK hN hP hD hO) rfl rfl hl.1 rfl (lv_room (Nat.le_of_ble_eq_true rfl)) d_FB_init_46 ⟨Nat.le_of_ble_eq_true rfl, Nat.le_of_ble_eq_true rfl⟩) hD hS hA (fun ur_93 H locs hr_93 hK hP hD hS => ?_)
  obtain ⟨q_94, kA_95⟩ := ur_93
  have hq_q_94 : q_94 ∉ L_75 := hr_93
  obtain ⟨f_96, ef_96⟩ : ∃ z, z = va_up f_74 q_73 (.inr (6, [.ref q_94, .int 0, .long 0])) := ⟨_, rfl⟩
  have he_97 : f_96 o = .inr (0, [.ref q_1, .ref q_13, .ref q_29, .ref q_49, .null, .int 0, .int 0, .int 0, .int 0, .int 0, .int 0]) := by rw [ef_96, va_up_ne _ _ ne_78]; exact he_76
  have he_98 : f_96 q_1 = .inl (kA_2, 30, .inr (.inr (.inr (.inr (fun _ => none))))) := by rw [ef_96, va_up_ne _ _ ne_81]; exact he_79
  have he_99 : f_96 q_13 = .inl (kA_14, 300, .inr (.inr (.inr (.inr (fun _ => none))))) := by rw [ef_96, va_up_ne _ _ ne_84]; exact he_82
  have he_100 : f_96 q_29 = .inl (kA_30, 100, .inr (.inr (.inr (.inr (fun _ => none))))) := by rw [ef_96, va_up_ne _ _ ne_87]; exact he_85
  have he_101 : f_96 q_49 = .inl (kA_50, 10, .inr (.inr (.inr (.inr (fun _ => none))))) := by rw [ef_96, va_up_ne _ _ ne_90]; exact he_88
  have he_102 : f_96 q_73 = .inr (6, [.ref q_94, .int 0, .long 0]) := by rw [ef_96]; exact va_up_self _ _ _
  obtain ⟨L_104, eL_104⟩ : ∃ z, z = L_75 ++ [q_94] := ⟨_, rfl⟩
  obtain ⟨f_103, ef_103⟩ : ∃ z, z = va_up f_96 q_94 (.inl (kA_95, 20, .inr (.inr (.inr (.inr (fun _ => none)))))) := ⟨_, rfl⟩
  have ne_107 : o ≠ q_94 := fun z => hq_q_94 (z ▸ hm_77)
  have hm_106 : o ∈ L_104 := by rw [eL_104]; exact List.mem_append_left _ hm_77
  have he_105 : f_103 o = .inr (0, [.ref q_1, .ref q_13, .ref q_29, .ref q_49, .null, .int 0, .int 0, .int 0, .int 0, .int 0, .int 0]) := by rw [ef_103, va_up_ne _ _ ne_107]; exact he_97
  have ne_110 : q_1 ≠ q_94 := fun z => hq_q_94 (z ▸ hm_80)
  have hm_109 : q_1 ∈ L_104 := by rw [eL_104]; exact List.mem_append_left _ hm_80
  have he_108 : f_103 q_1 = .inl (kA_2, 30, .inr (.inr (.inr (.inr (fun _ => none))))) := by rw [ef_103, va_up_ne _ _ ne_110]; exact he_98
  have ne_113 : q_13 ≠ q_94 := fun z => hq_q_94 (z ▸ hm_83)
  have hm_112 : q_13 ∈ L_104 := by rw [eL_104]; exact List.mem_append_left _ hm_83
  have he_111 : f_103 q_13 = .inl (kA_14, 300, .inr (.inr (.inr (.inr (fun _ => none))))) := by rw [ef_103, va_up_ne _ _ ne_113]; exact he_99
  have ne_116 : q_29 ≠ q_94 := fun z => hq_q_94 (z ▸ hm_86)
  have hm_115 : q_29 ∈ L_104 := by rw [eL_104]; exact List.mem_append_left _ hm_86
  have he_114 : f_103 q_29 = .inl (kA_30, 100, .inr (.inr (.inr (.inr (fun _ => none))))) := by rw [ef_103, va_up_ne _ _ ne_116]; exact he_100
  have ne_119 : q_49 ≠ q_94 := fun z => hq_q_94 (z ▸ hm_89)
  have hm_118 : q_49 ∈ L_104 := by rw [eL_104]; exact List.mem_append_left _ hm_89
  have he_117 : f_103 q_49 = .inl (kA_50, 10, .inr (.inr (.inr (.inr (fun _ => none))))) := by rw [ef_103, va_up_ne _ _ ne_119]; exact he_101
  have ne_122 : q_73 ≠ q_94 := fun z => hq_q_94 (z ▸ hm_92)
  have hm_121 : q_73 ∈ L_104 := by rw [eL_104]; exact List.mem_append_left _ hm_92
  have he_120 : f_103 q_73 = .inr (6, [.ref q_94, .int 0, .long 0]) := by rw [ef_103, va_up_ne _ _ ne_122]; exact he_102
  have hm_124 : q_94 ∈ L_104 := by rw [eL_104]; exact List.mem_append_right _ (List.mem_singleton.mpr rfl)
  have he_123 : f_103 q_94 = .inl (kA_95, 20, .inr (.inr (.inr (.inr (fun _ => none))))) := by rw [ef_103]; exact va_up_self _ _ _
  have hP : va_P (dC, dI) classes (va_pl L_104 f_103) H := by rw [ef_103, eL_104, ef_96]; exact hP
  have hD : va_D A (va_pl L_104 f_103) := by rw [ef_103, eL_104, ef_96]; exact hD
  refine fw_putF (D := (dC, dI)) (ci := 0) (v := .ref q_73) (ty := (.object "FundBook$Batch")) (C := R_FB) (T := F_FB) (N := 11) hx hb hG iG_FB t_FB t_FB_ok n_FB hown hK hP hD hS hm_106 he_105 rfl 4 (by decide) (hG _ k_71) (fun _ h9 => h9) rfl hin rfl (by decide +kernel) rfl rfl (Nat.le_of_ble_eq_true rfl) d_FB_init_49 (fun H locs hP hD hS => ?_)
  obtain ⟨f_125, ef_125⟩ : ∃ z, z = va_up f_103 o (.inr (0, [.ref q_1, .ref q_13, .ref q_29, .ref q_49, .ref q_73, .int 0, .int 0, .int 0, .int 0, .int 0, .int 0])) := ⟨_, rfl⟩
  have he_126 : f_125 o = .inr (0, [.ref q_1, .ref q_13, .ref q_29, .ref q_49, .ref q_73, .int 0, .int 0, .int 0, .int 0, .int 0, .int 0]) := by rw [ef_125]; exact va_up_self _ _ _
  have he_127 : f_125 q_1 = .inl (kA_2, 30, .inr (.inr (.inr (.inr (fun _ => none))))) := by rw [ef_125, va_up_ne _ _ (Ne.symm ne_7)]; exact he_108
  have he_128 : f_125 q_13 = .inl (kA_14, 300, .inr (.inr (.inr (.inr (fun _ => none))))) := by rw [ef_125, va_up_ne _ _ (Ne.symm ne_19)]; exact he_111
  have he_129 : f_125 q_29 = .inl (kA_30, 100, .inr (.inr (.inr (.inr (fun _ => none))))) := by rw [ef_125, va_up_ne _ _ (Ne.symm ne_35)]; exact he_114
  have he_130 : f_125 q_49 = .inl (kA_50, 10, .inr (.inr (.inr (.inr (fun _ => none))))) := by rw [ef_125, va_up_ne _ _ (Ne.symm ne_55)]; exact he_117
  have he_131 : f_125 q_73 = .inr (6, [.ref q_94, .int 0, .long 0]) := by rw [ef_125, va_up_ne _ _ (Ne.symm ne_78)]; exact he_120
  have he_132 : f_125 q_94 = .inl (kA_95, 20, .inr (.inr (.inr (.inr (fun _ => none))))) := by rw [ef_125, va_up_ne _ _ (Ne.symm ne_107)]; exact he_123
  have hP : va_P (dC, dI) classes (va_pl L_104 f_125) H := by rw [ef_125]; exact hP
  have hD : va_D A (va_pl L_104 f_125) := by rw [ef_125]; exact hD
  refine lv_aload_n hx hb d_FB_init_52 rfl (lv_at hl 0 rfl) ?_
  refine lv_bipush (v := 50) hx hb d_FB_init_53 (by decide) ?_
  refine fw_put (D := (dC, dI)) (ci := 0) (v := .int 50) (ty := .int) (C := R_FB) (T := F_FB) (N := 11) hx hb hG iG_FB t_FB t_FB_ok n_FB hown hK hP hD hS hm_106 he_126 rfl 9 (by decide) (hG _ k_76) (fun _ h9 => h9) rfl (by decide +kernel) rfl rfl (Nat.le_of_ble_eq_true rfl) d_FB_init_55 (fun H locs hP hD hS => ?_)
  obtain ⟨f_133, ef_133⟩ : ∃ z, z = va_up f_125 o (.inr (0, [.ref q_1, .ref q_13, .ref q_29, .ref q_49, .ref q_73, .int 0, .int 0, .int 0, .int 0, .int 50, .int 0])) := ⟨_, rfl⟩
  have he_134 : f_133 o = .inr (0, [.ref q_1, .ref q_13, .ref q_29, .ref q_49, .ref q_73, .int 0, .int 0, .int 0, .int 0, .int 50, .int 0]) := by rw [ef_133]; exact va_up_self _ _ _
  have he_135 : f_133 q_1 = .inl (kA_2, 30, .inr (.inr (.inr (.inr (fun _ => none))))) := by rw [ef_133, va_up_ne _ _ (Ne.symm ne_7)]; exact he_127
  have he_136 : f_133 q_13 = .inl (kA_14, 300, .inr (.inr (.inr (.inr (fun _ => none))))) := by rw [ef_133, va_up_ne _ _ (Ne.symm ne_19)]; exact he_128
  have he_137 : f_133 q_29 = .inl (kA_30, 100, .inr (.inr (.inr (.inr (fun _ => none))))) := by rw [ef_133, va_up_ne _ _ (Ne.symm ne_35)]; exact he_129
  have he_138 : f_133 q_49 = .inl (kA_50, 10, .inr (.inr (.inr (.inr (fun _ => none))))) := by rw [ef_133, va_up_ne _ _ (Ne.symm ne_55)]; exact he_130
  have he_139 : f_133 q_73 = .inr (6, [.ref q_94, .int 0, .long 0]) := by rw [ef_133, va_up_ne _ _ (Ne.symm ne_78)]; exact he_131
  have he_140 : f_133 q_94 = .inl (kA_95, 20, .inr (.inr (.inr (.inr (fun _ => none))))) := by rw [ef_133, va_up_ne _ _ (Ne.symm ne_107)]; exact he_132
  have hP : va_P (dC, dI) classes (va_pl L_104 f_133) H := by rw [ef_133]; exact hP
  have hD : va_D A (va_pl L_104 f_133) := by rw [ef_133]; exact hD
  refine lv_aload_n hx hb d_FB_init_58 rfl (lv_at hl 0 rfl) ?_
  refine lv_iconst (v := (-1)) hx hb d_FB_init_59 (by decide) ?_
  refine fw_put (D := (dC, dI)) (ci := 0) (v := .int (-1)) (ty := .int) (C := R_FB) (T := F_FB) (N := 11) hx hb hG iG_FB t_FB t_FB_ok n_FB hown hK hP hD hS hm_106 he_134 rfl 10 (by decide) (hG _ k_77) (fun _ h9 => h9) rfl (by decide +kernel) rfl rfl (Nat.le_of_ble_eq_true rfl) d_FB_init_60 (fun H locs hP hD hS => ?_)
  obtain ⟨f_141, ef_141⟩ : ∃ z, z = va_up f_133 o (.inr (0, [.ref q_1, .ref q_13, .ref q_29, .ref q_49, .ref q_73, .int 0, .int 0, .int 0, .int 0, .int 50, .int (-1)])) := ⟨_, rfl⟩
  have he_142 : f_141 o = .inr (0, [.ref q_1, .ref q_13, .ref q_29, .ref q_49, .ref q_73, .int 0, .int 0, .int 0, .int 0, .int 50, .int (-1)]) := by rw [ef_141]; exact va_up_self _ _ _
  have he_143 : f_141 q_1 = .inl (kA_2, 30, .inr (.inr (.inr (.inr (fun _ => none))))) := by rw [ef_141, va_up_ne _ _ (Ne.symm ne_7)]; exact he_135
  have he_144 : f_141 q_13 = .inl (kA_14, 300, .inr (.inr (.inr (.inr (fun _ => none))))) := by rw [ef_141, va_up_ne _ _ (Ne.symm ne_19)]; exact he_136
  have he_145 : f_141 q_29 = .inl (kA_30, 100, .inr (.inr (.inr (.inr (fun _ => none))))) := by rw [ef_141, va_up_ne _ _ (Ne.symm ne_35)]; exact he_137
  have he_146 : f_141 q_49 = .inl (kA_50, 10, .inr (.inr (.inr (.inr (fun _ => none))))) := by rw [ef_141, va_up_ne _ _ (Ne.symm ne_55)]; exact he_138
  have he_147 : f_141 q_73 = .inr (6, [.ref q_94, .int 0, .long 0]) := by rw [ef_141, va_up_ne _ _ (Ne.symm ne_78)]; exact he_139
  have he_148 : f_141 q_94 = .inl (kA_95, 20, .inr (.inr (.inr (.inr (fun _ => none))))) := by rw [ef_141, va_up_ne _ _ (Ne.symm ne_107)]; exact he_140
  have hP : va_P (dC, dI) classes (va_pl L_104 f_141) H := by rw [ef_141]; exact hP
  have hD : va_D A (va_pl L_104 f_141) := by rw [ef_141]; exact hD
  refine lv_aload_n hx hb d_FB_init_63 rfl (lv_at hl 0 rfl) ?_
  refine lv_iconst (v := 0) hx hb d_FB_init_64 (by decide) ?_
  refine lv_sipush (v := 9999) hx hb d_FB_init_65 (by decide) ?_
  refine lv_iload_n hx hb d_FB_init_68 rfl (lv_at hl 1 rfl) ?_
  refine va_mmin hx hb (by rw [hml]; exact hl.1.symm) hown (hG _ k_61) (hG _ k_62) (hG _ k_16) (hG _ k_63) (Nat.le_of_ble_eq_true rfl) (Nat.le_of_ble_eq_true rfl) (Nat.le_of_ble_eq_true rfl) (Nat.le_of_ble_eq_true rfl) d_FB_init_69 ?_
  refine va_mmax hx hb (by rw [hml]; exact hl.1.symm) hown (hG _ k_64) (hG _ k_65) (hG _ k_16) (hG _ k_66) (Nat.le_of_ble_eq_true rfl) (Nat.le_of_ble_eq_true rfl) (Nat.le_of_ble_eq_true rfl) (Nat.le_of_ble_eq_true rfl) d_FB_init_72 ?_
  refine lv_topI (y := (if 0 ≤ x0 then (if x0 ≤ 9999 then x0 else 9999) else 0)) (year0 x0) ?_
  refine fw_put (D := (dC, dI)) (ci := 0) (v := .int (if 0 ≤ x0 then (if x0 ≤ 9999 then x0 else 9999) else 0)) (ty := .int) (C := R_FB) (T := F_FB) (N := 11) hx hb hG iG_FB t_FB t_FB_ok n_FB hown hK hP hD hS hm_106 he_142 rfl 8 (by decide) (hG _ k_75) (fun _ h9 => h9) rfl (by decide +kernel) rfl rfl (Nat.le_of_ble_eq_true rfl) d_FB_init_75 (fun H locs hP hD hS => ?_)
  obtain ⟨f_149, ef_149⟩ : ∃ z, z = va_up f_141 o (.inr (0, [.ref q_1, .ref q_13, .ref q_29, .ref q_49, .ref q_73, .int 0, .int 0, .int 0, .int (if 0 ≤ x0 then (if x0 ≤ 9999 then x0 else 9999) else 0), .int 50, .int (-1)])) := ⟨_, rfl⟩
  have he_150 : f_149 o = .inr (0, [.ref q_1, .ref q_13, .ref q_29, .ref q_49, .ref q_73, .int 0, .int 0, .int 0, .int (if 0 ≤ x0 then (if x0 ≤ 9999 then x0 else 9999) else 0), .int 50, .int (-1)]) := by rw [ef_149]; exact va_up_self _ _ _
  have he_151 : f_149 q_1 = .inl (kA_2, 30, .inr (.inr (.inr (.inr (fun _ => none))))) := by rw [ef_149, va_up_ne _ _ (Ne.symm ne_7)]; exact he_143
  have he_152 : f_149 q_13 = .inl (kA_14, 300, .inr (.inr (.inr (.inr (fun _ => none))))) := by rw [ef_149, va_up_ne _ _ (Ne.symm ne_19)]; exact he_144
  have he_153 : f_149 q_29 = .inl (kA_30, 100, .inr (.inr (.inr (.inr (fun _ => none))))) := by rw [ef_149, va_up_ne _ _ (Ne.symm ne_35)]; exact he_145
  have he_154 : f_149 q_49 = .inl (kA_50, 10, .inr (.inr (.inr (.inr (fun _ => none))))) := by rw [ef_149, va_up_ne _ _ (Ne.symm ne_55)]; exact he_146
  have he_155 : f_149 q_73 = .inr (6, [.ref q_94, .int 0, .long 0]) := by rw [ef_149, va_up_ne _ _ (Ne.symm ne_78)]; exact he_147
  have he_156 : f_149 q_94 = .inl (kA_95, 20, .inr (.inr (.inr (.inr (fun _ => none))))) := by rw [ef_149, va_up_ne _ _ (Ne.symm ne_107)]; exact he_148
  have hP : va_P (dC, dI) classes (va_pl L_104 f_149) H := by rw [ef_149]; exact hP
  have hD : va_D A (va_pl L_104 f_149) := by rw [ef_149]; exact hD
  refine W.widen (k := 6) (n := 463) (Nat.le_of_ble_eq_true rfl) (Nat.le_of_ble_eq_true rfl) ?_
  have hcs := CS_init (cs := (fun k => ([kA_2, kA_14, kA_30, kA_50, kA_95] : List ClassId).getD k 0)) (L := L_104) (f := f_149) 0 hm_106 hm_109 hm_112 hm_115 hm_118 hm_121 hm_124 he_150 he_151 he_152 he_153 he_154 he_155 he_156 ne_7 ne_19 ne_35 ne_55 ne_78 ne_107 ne_22 ne_38 ne_58 ne_81 ne_110 ne_41 ne_61 ne_84 ne_113 ne_64 ne_87 ne_116 ne_90 ne_119 ne_122 (year_in x0)
  have hK9 : va_K (dC, dI) classes (ctys (fun k => ([kA_2, kA_14, kA_30, kA_50, kA_95] : List ClassId).getD k 0)) s := hK
  exact W.vret hx hb hr (fun t ht hW => ⟨⟨((L_104, f_149), (fun k => ([kA_2, kA_14, kA_30, kA_50, kA_95] : List ClassId).getD k 0)), rfl, hcs, by rw [ht]; exact hP, va_K.moved hW.alike hK9, hD⟩, hS.F ht⟩) hS.2.2 d_FB_init_78
