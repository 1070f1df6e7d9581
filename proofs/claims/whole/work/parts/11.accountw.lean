theorem d_Ac_beginYear_0 : decode b_Ac_beginYear 0 = .ok (.aload_n 0, 1) := by decide +kernel
theorem d_Ac_beginYear_1 : decode b_Ac_beginYear 1 = .ok (.aload_n 0, 1) := by decide +kernel
theorem d_Ac_beginYear_2 : decode b_Ac_beginYear 2 = .ok (.invokevirtual 38, 3) := by decide +kernel
theorem d_Ac_beginYear_5 : decode b_Ac_beginYear 5 = .ok (.aload_n 0, 1) := by decide +kernel
theorem d_Ac_beginYear_6 : decode b_Ac_beginYear 6 = .ok (.getfield 22, 3) := by decide +kernel
theorem d_Ac_beginYear_9 : decode b_Ac_beginYear 9 = .ok (.ladd, 1) := by decide +kernel
theorem d_Ac_beginYear_10 : decode b_Ac_beginYear 10 = .ok (.putfield 18, 3) := by decide +kernel
theorem d_Ac_beginYear_13 : decode b_Ac_beginYear 13 = .ok (.aload_n 0, 1) := by decide +kernel
theorem d_Ac_beginYear_14 : decode b_Ac_beginYear 14 = .ok (.lconst 0, 1) := by decide +kernel
theorem d_Ac_beginYear_15 : decode b_Ac_beginYear 15 = .ok (.putfield 25, 3) := by decide +kernel
theorem d_Ac_beginYear_18 : decode b_Ac_beginYear 18 = .ok (.return_, 1) := by decide +kernel
set_option maxHeartbeats 4000000 in
set_option maxRecDepth 100000 in
theorem c_Ac_beginYear (l : Launch) (dC : Nat → ClassId) (dI : Nat → Nat → Nat) (tys : List (ClassId × FieldType)) (L : List Nat) (f : Nat → va_E) (sz : Nat) (a : Nat) (a_n a_cy : Int32) (a_g a_en a_sp a_pd : Int64) (hm_a : a ∈ L) (he_a : f a = .inr (1, [.int a_n, .int a_cy, .long a_g, .long a_en, .long a_sp, .long a_pd])) : Met l y_Ac_beginYear w_Ac_beginYear { frames := 2, cells := 0, slots := 0, locals := 42 } (mu_P (dC, dI) classes tys (va_pl L f) sz [.ref a]) (va_Qv (fun u => u = (L, va_up f a (.inr (1, [.int a_n, .int a_cy, .long ((if a_g - a_en - a_sp < 0 ∨ a_cy = 0 then 0 else if a_cy = 2 then (a_g - a_en - a_sp) / 2 else a_g - a_en - a_sp) + a_en), .long a_en, .long 0, .long a_pd])))) (mu_B (dC, dI) classes tys (va_A (va_pl L f) sz) fw_w) (va_A (va_pl L f) sz)) 0 0 (va_A (va_pl L f) sz) := by
  refine Met.ofW (cc := b_Ac_beginYear) (maxL := 1) (ret := none) (by decide) rfl ?_
  intro p e s m args below meth c s₁ B hml hv
  obtain ⟨rfl, hsz, hP, hK, hD0, hN⟩ := hv
  have hx := B.exec
  have hb := B.bytes
  have hr := B.returns
  have hts := atoms_spec (ws := w_Ac_beginYear) B.pre
  have hG := fun (w : Cond) (h : w ∈ wG) => hts w (List.mem_cons_of_mem _ h)
  have hown : s.vm.findClass R_Ac = some m.cls := findClass_of_methodNamed B.named
  have hlocks := B.notSynchronized
  subst hsz
  have hD := hD0.self (sz := s.heap.size)
  generalize hAe : va_A (va_pl L f) s.heap.size = A at hD ⊢
  have hA : ∀ q : Nat, s.heap.size ≤ q → A q := fun q h => by rw [← hAe]; exact Or.inr h
  have hS : va_S A s.heap s.heap [] := va_S.rf
  have hP : va_P (dC, dI) classes (va_pl L f) s.heap := hP
  have hl := lv_entry ([.ref a]) (n := 1) (Nat.le_of_ble_eq_true rfl)
  rw [lg_entry_eq]
  generalize (lg_sl ([.ref a]) ++ List.replicate (1 - (lg_sl ([.ref a])).length) Slot.unset).toArray = ls at hl ⊢
  have hl : lv_has ls 1 [(0, .ref a)] := hl
  refine lv_aload_n hx hb d_Ac_beginYear_0 rfl (lv_at hl 0 rfl) ?_
  refine lv_aload_n hx hb d_Ac_beginYear_1 rfl (lv_at hl 0 rfl) ?_
  refine rd_calll (va_runV (As := []) (rest := [.ref a]) ⟨hx, hb, hml, hown, hts⟩ (c_Ac_carried l dC dI tys L f a a_n a_cy a_g a_en a_sp a_pd hm_a he_a) (cwV 0 hts (gd_V k_409 k_410 k_411 k_18 k_412) rfl rfl rfl (by decide +kernel) ⟨Nat.le_of_ble_eq_true rfl, Nat.le_of_ble_eq_true rfl⟩) (fw_preV hK hN hP rfl hm_a he_a) rfl rfl hl.1 rfl (lv_room (Nat.le_of_ble_eq_true rfl)) d_Ac_beginYear_2 ⟨Nat.zero_le _, Nat.zero_le _⟩) (fun r_1 hr_1 => ?_)
  subst hr_1
  refine lv_aload_n hx hb d_Ac_beginYear_5 rfl (lv_at hl 0 rfl) ?_
  refine fw_get (D := (dC, dI)) (ci := 1) (v := .long a_en) (C := R_Ac) (T := F_Ac) (N := 6) hx hb hG iG_Ac hown hK hP hm_a he_a rfl 3 (by decide) (hG _ k_121) (fun _ h9 => h9) rfl d_Ac_beginYear_6 ?_
  refine lv_ladd hx hb d_Ac_beginYear_9 ?_
  refine fw_put (D := (dC, dI)) (ci := 1) (v := .long ((if a_g - a_en - a_sp < 0 ∨ a_cy = 0 then 0 else if a_cy = 2 then (a_g - a_en - a_sp) / 2 else a_g - a_en - a_sp) + a_en)) (ty := .long) (C := R_Ac) (T := F_Ac) (N := 6) hx hb hG iG_Ac t_Ac t_Ac_ok n_Ac hown hK hP hD hS hm_a he_a rfl 2 (by decide) (hG _ k_117) (fun _ h9 => h9) rfl (by decide +kernel) rfl rfl (Nat.le_of_ble_eq_true rfl) d_Ac_beginYear_10 (fun H locs hP hD hS => ?_)
  obtain ⟨f_2, ef_2⟩ : ∃ z, z = va_up f a (.inr (1, [.int a_n, .int a_cy, .long ((if a_g - a_en - a_sp < 0 ∨ a_cy = 0 then 0 else if a_cy = 2 then (a_g - a_en - a_sp) / 2 else a_g - a_en - a_sp) + a_en), .long a_en, .long a_sp, .long a_pd])) := ⟨_, rfl⟩
  have he_3 : f_2 a = .inr (1, [.int a_n, .int a_cy, .long ((if a_g - a_en - a_sp < 0 ∨ a_cy = 0 then 0 else if a_cy = 2 then (a_g - a_en - a_sp) / 2 else a_g - a_en - a_sp) + a_en), .long a_en, .long a_sp, .long a_pd]) := by rw [ef_2]; exact va_up_self _ _ _
  have hP : va_P (dC, dI) classes (va_pl L f_2) H := by rw [ef_2]; exact hP
  have hD : va_D A (va_pl L f_2) := by rw [ef_2]; exact hD
  refine lv_aload_n hx hb d_Ac_beginYear_13 rfl (lv_at hl 0 rfl) ?_
  refine lv_lconst (v := 0) hx hb d_Ac_beginYear_14 (by decide) ?_
  refine fw_put (D := (dC, dI)) (ci := 1) (v := .long 0) (ty := .long) (C := R_Ac) (T := F_Ac) (N := 6) hx hb hG iG_Ac t_Ac t_Ac_ok n_Ac hown hK hP hD hS hm_a he_3 rfl 4 (by decide) (hG _ k_124) (fun _ h9 => h9) rfl (by decide +kernel) rfl rfl (Nat.le_of_ble_eq_true rfl) d_Ac_beginYear_15 (fun H locs hP hD hS => ?_)
  obtain ⟨f_4, ef_4⟩ : ∃ z, z = va_up f_2 a (.inr (1, [.int a_n, .int a_cy, .long ((if a_g - a_en - a_sp < 0 ∨ a_cy = 0 then 0 else if a_cy = 2 then (a_g - a_en - a_sp) / 2 else a_g - a_en - a_sp) + a_en), .long a_en, .long 0, .long a_pd])) := ⟨_, rfl⟩
  have he_5 : f_4 a = .inr (1, [.int a_n, .int a_cy, .long ((if a_g - a_en - a_sp < 0 ∨ a_cy = 0 then 0 else if a_cy = 2 then (a_g - a_en - a_sp) / 2 else a_g - a_en - a_sp) + a_en), .long a_en, .long 0, .long a_pd]) := by rw [ef_4]; exact va_up_self _ _ _
  have hP : va_P (dC, dI) classes (va_pl L f_4) H := by rw [ef_4]; exact hP
  have hD : va_D A (va_pl L f_4) := by rw [ef_4]; exact hD
  exact W.vret hx hb hr (fun t ht hW => ⟨⟨(L, f_4), rfl, (by rw [ef_4, ef_2] <;> exact fw_same (by intro z; simp only [va_up] <;> grind)), by rw [ht]; exact hP, va_K.moved hW.alike hK, hD⟩, hS.F ht⟩) hS.2.2 d_Ac_beginYear_18
