theorem d_FB_accountAt_0 : decode b_FB_accountAt 0 = .ok (.iload_n 1, 1) := by decide +kernel
theorem d_FB_accountAt_1 : decode b_FB_accountAt 1 = .ok (.i2l, 1) := by decide +kernel
theorem d_FB_accountAt_2 : decode b_FB_accountAt 2 = .ok (.lconst 0, 1) := by decide +kernel
theorem d_FB_accountAt_3 : decode b_FB_accountAt 3 = .ok (.aload_n 0, 1) := by decide +kernel
theorem d_FB_accountAt_4 : decode b_FB_accountAt 4 = .ok (.getfield 11, 3) := by decide +kernel
theorem d_FB_accountAt_7 : decode b_FB_accountAt 7 = .ok (.arraylength, 1) := by decide +kernel
theorem d_FB_accountAt_8 : decode b_FB_accountAt 8 = .ok (.iconst 1, 1) := by decide +kernel
theorem d_FB_accountAt_9 : decode b_FB_accountAt 9 = .ok (.isub, 1) := by decide +kernel
theorem d_FB_accountAt_10 : decode b_FB_accountAt 10 = .ok (.i2l, 1) := by decide +kernel
theorem d_FB_accountAt_11 : decode b_FB_accountAt 11 = .ok (.invokestatic 61, 3) := by decide +kernel
theorem d_FB_accountAt_14 : decode b_FB_accountAt 14 = .ok (.ifCond .eq 12, 3) := by decide +kernel
theorem d_FB_accountAt_17 : decode b_FB_accountAt 17 = .ok (.aload_n 0, 1) := by decide +kernel
theorem d_FB_accountAt_18 : decode b_FB_accountAt 18 = .ok (.getfield 11, 3) := by decide +kernel
theorem d_FB_accountAt_21 : decode b_FB_accountAt 21 = .ok (.iload_n 1, 1) := by decide +kernel
theorem d_FB_accountAt_22 : decode b_FB_accountAt 22 = .ok (.aaload, 1) := by decide +kernel
theorem d_FB_accountAt_23 : decode b_FB_accountAt 23 = .ok (.goto 4, 3) := by decide +kernel
theorem d_FB_accountAt_26 : decode b_FB_accountAt 26 = .ok (.aconst_null, 1) := by decide +kernel
theorem d_FB_accountAt_27 : decode b_FB_accountAt 27 = .ok (.areturn, 1) := by decide +kernel
set_option maxHeartbeats 4000000 in
set_option maxRecDepth 100000 in
theorem c_FB_accountAt (l : Launch) (dC : Nat → ClassId) (dI : Nat → Nat → Nat) (tys : List (ClassId × FieldType)) (L : List Nat) (f : Nat → va_E) (o : Nat) (x : Nat) (o_na o_np o_nm o_yr o_tl o_fl : Int32) (o_xp o_xm o_xr o_xb : Nat) (x_c : ClassId) (x_g : Nat → Option Nat) (fd : Int32) (hm_o : o ∈ L) (he_o : f o = .inr (0, [.ref x, .ref o_xp, .ref o_xm, .ref o_xr, .ref o_xb, .int o_na, .int o_np, .int o_nm, .int o_yr, .int o_tl, .int o_fl])) (hm_x : x ∈ L) (he_x : f x = .inl (x_c, 30, .inr (.inr (.inr (.inr x_g))))) (ht_x : tys[0]? = some (x_c, .object "FundBook$Account")) : Met l y_FB_accountAt w_FB_accountAt { frames := 1, cells := 0, slots := 0, locals := 25 } (rd_P (dC, dI) classes tys (va_pl L f) [.ref o, .int fd]) (va_Sq (fun r => r = if inN fd 30 = true then x_g fd.toNatClampNeg else none)) 0 0 (fun _ => False) := by
  refine Met.ofW (cc := b_FB_accountAt) (maxL := 2) (ret := (some (.object "FundBook$Account"))) (by decide) rfl ?_
  intro p e s m args below meth c s₁ B hml hv
  obtain ⟨rfl, hP, hK, hN⟩ := hv
  have hx := B.exec
  have hb := B.bytes
  have hr := B.returns
  have hts := atoms_spec (ws := w_FB_accountAt) B.pre
  have hG := fun (w : Cond) (h : w ∈ wG) => hts w (List.mem_cons_of_mem _ h)
  have hown : s.vm.findClass R_FB = some m.cls := findClass_of_methodNamed B.named
  have hlocks := B.notSynchronized
  have hl := lv_entry ([.ref o, .int fd]) (n := 2) (Nat.le_of_ble_eq_true rfl)
  rw [lg_entry_eq]
  generalize (lg_sl ([.ref o, .int fd]) ++ List.replicate (2 - (lg_sl ([.ref o, .int fd])).length) Slot.unset).toArray = ls at hl ⊢
  have hl : lv_has ls 2 [(0, .ref o), (1, .int fd)] := hl
  refine lv_iload_n hx hb d_FB_accountAt_0 rfl (lv_at hl 1 rfl) ?_
  refine lv_i2l hx hb d_FB_accountAt_1 rfl ?_
  refine lv_lconst (v := 0) hx hb d_FB_accountAt_2 (by decide) ?_
  refine lv_aload_n hx hb d_FB_accountAt_3 rfl (lv_at hl 0 rfl) ?_
  refine fw_get (D := (dC, dI)) (ci := 0) (v := .ref x) (C := R_FB) (T := F_FB) (N := 11) hx hb hG iG_FB hown hK hP hm_o he_o rfl 0 (by decide) (hG _ k_67) (fun _ h9 => h9) rfl d_FB_accountAt_4 ?_
  refine fw_alen (D := (dC, dI)) (v := nI 30) hx hb hK hP hm_x 0 he_x ht_x rfl d_FB_accountAt_7 ?_
  refine lv_iconst (v := 1) hx hb d_FB_accountAt_8 (by decide) ?_
  refine lv_isub hx hb d_FB_accountAt_9 ?_
  refine lv_i2l hx hb d_FB_accountAt_10 rfl ?_
  refine rd_calli (va_runS (As := [.long (fd.toInt64), .long 0, .long ((nI 30 - 1).toInt64)]) (rest := []) ⟨hx, hb, hml, hown, hts⟩ (c_FB_isWithin l dC dI tys (va_pl L f) (fd.toInt64) 0 ((nI 30 - 1).toInt64)) (cwS 3 hts (gd_S k_106 k_107 k_14 k_108) rfl rfl rfl (by decide +kernel) ⟨Nat.le_of_ble_eq_true rfl, Nat.le_of_ble_eq_true rfl⟩) (rd_preS hK hN hP) rfl rfl hl.1 rfl (lv_room (Nat.le_of_ble_eq_true rfl)) d_FB_accountAt_11 ⟨Nat.zero_le _, Nat.zero_le _⟩) (fun r_1 hr_1 => ?_)
  subst hr_1
  refine lb_if_eq (tgt := 26) hx hb d_FB_accountAt_14 (by decide) (fun c_2 => ?_) (fun c_2 => ?_)
  · refine lv_null hx hb d_FB_accountAt_26 ?_
    exact W.aret (v := .null) hx hb hr (Or.inl ⟨_, rfl⟩) (Or.inl rfl) (fun t ht hW => ⟨none, rfl, (by simp [inN, c_2]), ht⟩) (fun q h => by cases h) d_FB_accountAt_27
  · refine lv_aload_n hx hb d_FB_accountAt_17 rfl (lv_at hl 0 rfl) ?_
    refine fw_get (D := (dC, dI)) (ci := 0) (v := .ref x) (C := R_FB) (T := F_FB) (N := 11) hx hb hG iG_FB hown hK hP hm_o he_o rfl 0 (by decide) (hG _ k_67) (fun _ h9 => h9) rfl d_FB_accountAt_18 ?_
    refine lv_iload_n hx hb d_FB_accountAt_21 rfl (lv_at hl 1 rfl) ?_
    refine fw_ald (D := (dC, dI)) (C := "FundBook$Account") (n := 30) (g := x_g) hx hb hK hP hm_x 0 he_x ht_x (inN_vp (n := 30) (by decide) c_2) d_FB_accountAt_22 ?_
    refine lv_goto (tgt := 27) hx hb d_FB_accountAt_23 (by decide) ?_
    exact W.aret (v := va_rf (x_g (fd.toNatClampNeg))) hx hb hr (Or.inl ⟨_, rfl⟩) (va_rf_or _) (fun t ht hW => ⟨x_g (fd.toNatClampNeg), rfl, (by simp [inN, c_2]), ht⟩) (fun q h => by cases h) d_FB_accountAt_27

theorem d_FB_purchaseAt_0 : decode b_FB_purchaseAt 0 = .ok (.iload_n 1, 1) := by decide +kernel
theorem d_FB_purchaseAt_1 : decode b_FB_purchaseAt 1 = .ok (.i2l, 1) := by decide +kernel
theorem d_FB_purchaseAt_2 : decode b_FB_purchaseAt 2 = .ok (.lconst 0, 1) := by decide +kernel
theorem d_FB_purchaseAt_3 : decode b_FB_purchaseAt 3 = .ok (.aload_n 0, 1) := by decide +kernel
theorem d_FB_purchaseAt_4 : decode b_FB_purchaseAt 4 = .ok (.getfield 17, 3) := by decide +kernel
theorem d_FB_purchaseAt_7 : decode b_FB_purchaseAt 7 = .ok (.arraylength, 1) := by decide +kernel
theorem d_FB_purchaseAt_8 : decode b_FB_purchaseAt 8 = .ok (.iconst 1, 1) := by decide +kernel
theorem d_FB_purchaseAt_9 : decode b_FB_purchaseAt 9 = .ok (.isub, 1) := by decide +kernel
theorem d_FB_purchaseAt_10 : decode b_FB_purchaseAt 10 = .ok (.i2l, 1) := by decide +kernel
theorem d_FB_purchaseAt_11 : decode b_FB_purchaseAt 11 = .ok (.invokestatic 61, 3) := by decide +kernel
theorem d_FB_purchaseAt_14 : decode b_FB_purchaseAt 14 = .ok (.ifCond .eq 12, 3) := by decide +kernel
theorem d_FB_purchaseAt_17 : decode b_FB_purchaseAt 17 = .ok (.aload_n 0, 1) := by decide +kernel
theorem d_FB_purchaseAt_18 : decode b_FB_purchaseAt 18 = .ok (.getfield 17, 3) := by decide +kernel
theorem d_FB_purchaseAt_21 : decode b_FB_purchaseAt 21 = .ok (.iload_n 1, 1) := by decide +kernel
theorem d_FB_purchaseAt_22 : decode b_FB_purchaseAt 22 = .ok (.aaload, 1) := by decide +kernel
theorem d_FB_purchaseAt_23 : decode b_FB_purchaseAt 23 = .ok (.goto 4, 3) := by decide +kernel
theorem d_FB_purchaseAt_26 : decode b_FB_purchaseAt 26 = .ok (.aconst_null, 1) := by decide +kernel
theorem d_FB_purchaseAt_27 : decode b_FB_purchaseAt 27 = .ok (.areturn, 1) := by decide +kernel
set_option maxHeartbeats 4000000 in
set_option maxRecDepth 100000 in
theorem c_FB_purchaseAt (l : Launch) (dC : Nat → ClassId) (dI : Nat → Nat → Nat) (tys : List (ClassId × FieldType)) (L : List Nat) (f : Nat → va_E) (o : Nat) (x : Nat) (o_na o_np o_nm o_yr o_tl o_fl : Int32) (o_xa o_xm o_xr o_xb : Nat) (x_c : ClassId) (x_g : Nat → Option Nat) (fd : Int32) (hm_o : o ∈ L) (he_o : f o = .inr (0, [.ref o_xa, .ref x, .ref o_xm, .ref o_xr, .ref o_xb, .int o_na, .int o_np, .int o_nm, .int o_yr, .int o_tl, .int o_fl])) (hm_x : x ∈ L) (he_x : f x = .inl (x_c, 300, .inr (.inr (.inr (.inr x_g))))) (ht_x : tys[1]? = some (x_c, .object "FundBook$Purchase")) : Met l y_FB_purchaseAt w_FB_purchaseAt { frames := 1, cells := 0, slots := 0, locals := 25 } (rd_P (dC, dI) classes tys (va_pl L f) [.ref o, .int fd]) (va_Sq (fun r => r = if inN fd 300 = true then x_g fd.toNatClampNeg else none)) 0 0 (fun _ => False) := by
  refine Met.ofW (cc := b_FB_purchaseAt) (maxL := 2) (ret := (some (.object "FundBook$Purchase"))) (by decide) rfl ?_
  intro p e s m args below meth c s₁ B hml hv
  obtain ⟨rfl, hP, hK, hN⟩ := hv
  have hx := B.exec
  have hb := B.bytes
  have hr := B.returns
  have hts := atoms_spec (ws := w_FB_purchaseAt) B.pre
  have hG := fun (w : Cond) (h : w ∈ wG) => hts w (List.mem_cons_of_mem _ h)
  have hown : s.vm.findClass R_FB = some m.cls := findClass_of_methodNamed B.named
  have hlocks := B.notSynchronized
  have hl := lv_entry ([.ref o, .int fd]) (n := 2) (Nat.le_of_ble_eq_true rfl)
  rw [lg_entry_eq]
  generalize (lg_sl ([.ref o, .int fd]) ++ List.replicate (2 - (lg_sl ([.ref o, .int fd])).length) Slot.unset).toArray = ls at hl ⊢
  have hl : lv_has ls 2 [(0, .ref o), (1, .int fd)] := hl
  refine lv_iload_n hx hb d_FB_purchaseAt_0 rfl (lv_at hl 1 rfl) ?_
  refine lv_i2l hx hb d_FB_purchaseAt_1 rfl ?_
  refine lv_lconst (v := 0) hx hb d_FB_purchaseAt_2 (by decide) ?_
  refine lv_aload_n hx hb d_FB_purchaseAt_3 rfl (lv_at hl 0 rfl) ?_
  refine fw_get (D := (dC, dI)) (ci := 0) (v := .ref x) (C := R_FB) (T := F_FB) (N := 11) hx hb hG iG_FB hown hK hP hm_o he_o rfl 1 (by decide) (hG _ k_68) (fun _ h9 => h9) rfl d_FB_purchaseAt_4 ?_
  refine fw_alen (D := (dC, dI)) (v := nI 300) hx hb hK hP hm_x 1 he_x ht_x rfl d_FB_purchaseAt_7 ?_
  refine lv_iconst (v := 1) hx hb d_FB_purchaseAt_8 (by decide) ?_
  refine lv_isub hx hb d_FB_purchaseAt_9 ?_
  refine lv_i2l hx hb d_FB_purchaseAt_10 rfl ?_
  refine rd_calli (va_runS (As := [.long (fd.toInt64), .long 0, .long ((nI 300 - 1).toInt64)]) (rest := []) ⟨hx, hb, hml, hown, hts⟩ (c_FB_isWithin l dC dI tys (va_pl L f) (fd.toInt64) 0 ((nI 300 - 1).toInt64)) (cwS 3 hts (gd_S k_106 k_107 k_14 k_108) rfl rfl rfl (by decide +kernel) ⟨Nat.le_of_ble_eq_true rfl, Nat.le_of_ble_eq_true rfl⟩) (rd_preS hK hN hP) rfl rfl hl.1 rfl (lv_room (Nat.le_of_ble_eq_true rfl)) d_FB_purchaseAt_11 ⟨Nat.zero_le _, Nat.zero_le _⟩) (fun r_1 hr_1 => ?_)
  subst hr_1
  refine lb_if_eq (tgt := 26) hx hb d_FB_purchaseAt_14 (by decide) (fun c_2 => ?_) (fun c_2 => ?_)
  · refine lv_null hx hb d_FB_purchaseAt_26 ?_
    exact W.aret (v := .null) hx hb hr (Or.inl ⟨_, rfl⟩) (Or.inl rfl) (fun t ht hW => ⟨none, rfl, (by simp [inN, c_2]), ht⟩) (fun q h => by cases h) d_FB_purchaseAt_27
  · refine lv_aload_n hx hb d_FB_purchaseAt_17 rfl (lv_at hl 0 rfl) ?_
    refine fw_get (D := (dC, dI)) (ci := 0) (v := .ref x) (C := R_FB) (T := F_FB) (N := 11) hx hb hG iG_FB hown hK hP hm_o he_o rfl 1 (by decide) (hG _ k_68) (fun _ h9 => h9) rfl d_FB_purchaseAt_18 ?_
    refine lv_iload_n hx hb d_FB_purchaseAt_21 rfl (lv_at hl 1 rfl) ?_
    refine fw_ald (D := (dC, dI)) (C := "FundBook$Purchase") (n := 300) (g := x_g) hx hb hK hP hm_x 1 he_x ht_x (inN_vp (n := 300) (by decide) c_2) d_FB_purchaseAt_22 ?_
    refine lv_goto (tgt := 27) hx hb d_FB_purchaseAt_23 (by decide) ?_
    exact W.aret (v := va_rf (x_g (fd.toNatClampNeg))) hx hb hr (Or.inl ⟨_, rfl⟩) (va_rf_or _) (fun t ht hW => ⟨x_g (fd.toNatClampNeg), rfl, (by simp [inN, c_2]), ht⟩) (fun q h => by cases h) d_FB_purchaseAt_27

theorem d_FB_moveAt_0 : decode b_FB_moveAt 0 = .ok (.iload_n 1, 1) := by decide +kernel
theorem d_FB_moveAt_1 : decode b_FB_moveAt 1 = .ok (.i2l, 1) := by decide +kernel
theorem d_FB_moveAt_2 : decode b_FB_moveAt 2 = .ok (.lconst 0, 1) := by decide +kernel
theorem d_FB_moveAt_3 : decode b_FB_moveAt 3 = .ok (.aload_n 0, 1) := by decide +kernel
theorem d_FB_moveAt_4 : decode b_FB_moveAt 4 = .ok (.getfield 23, 3) := by decide +kernel
theorem d_FB_moveAt_7 : decode b_FB_moveAt 7 = .ok (.arraylength, 1) := by decide +kernel
theorem d_FB_moveAt_8 : decode b_FB_moveAt 8 = .ok (.iconst 1, 1) := by decide +kernel
theorem d_FB_moveAt_9 : decode b_FB_moveAt 9 = .ok (.isub, 1) := by decide +kernel
theorem d_FB_moveAt_10 : decode b_FB_moveAt 10 = .ok (.i2l, 1) := by decide +kernel
theorem d_FB_moveAt_11 : decode b_FB_moveAt 11 = .ok (.invokestatic 61, 3) := by decide +kernel
theorem d_FB_moveAt_14 : decode b_FB_moveAt 14 = .ok (.ifCond .eq 12, 3) := by decide +kernel
theorem d_FB_moveAt_17 : decode b_FB_moveAt 17 = .ok (.aload_n 0, 1) := by decide +kernel
theorem d_FB_moveAt_18 : decode b_FB_moveAt 18 = .ok (.getfield 23, 3) := by decide +kernel
theorem d_FB_moveAt_21 : decode b_FB_moveAt 21 = .ok (.iload_n 1, 1) := by decide +kernel
theorem d_FB_moveAt_22 : decode b_FB_moveAt 22 = .ok (.aaload, 1) := by decide +kernel
theorem d_FB_moveAt_23 : decode b_FB_moveAt 23 = .ok (.goto 4, 3) := by decide +kernel
theorem d_FB_moveAt_26 : decode b_FB_moveAt 26 = .ok (.aconst_null, 1) := by decide +kernel
theorem d_FB_moveAt_27 : decode b_FB_moveAt 27 = .ok (.areturn, 1) := by decide +kernel
set_option maxHeartbeats 4000000 in
set_option maxRecDepth 100000 in
theorem c_FB_moveAt (l : Launch) (dC : Nat → ClassId) (dI : Nat → Nat → Nat) (tys : List (ClassId × FieldType)) (L : List Nat) (f : Nat → va_E) (o : Nat) (x : Nat) (o_na o_np o_nm o_yr o_tl o_fl : Int32) (o_xa o_xp o_xr o_xb : Nat) (x_c : ClassId) (x_g : Nat → Option Nat) (fd : Int32) (hm_o : o ∈ L) (he_o : f o = .inr (0, [.ref o_xa, .ref o_xp, .ref x, .ref o_xr, .ref o_xb, .int o_na, .int o_np, .int o_nm, .int o_yr, .int o_tl, .int o_fl])) (hm_x : x ∈ L) (he_x : f x = .inl (x_c, 100, .inr (.inr (.inr (.inr x_g))))) (ht_x : tys[2]? = some (x_c, .object "FundBook$Move")) : Met l y_FB_moveAt w_FB_moveAt { frames := 1, cells := 0, slots := 0, locals := 25 } (rd_P (dC, dI) classes tys (va_pl L f) [.ref o, .int fd]) (va_Sq (fun r => r = if inN fd 100 = true then x_g fd.toNatClampNeg else none)) 0 0 (fun _ => False) := by
  refine Met.ofW (cc := b_FB_moveAt) (maxL := 2) (ret := (some (.object "FundBook$Move"))) (by decide) rfl ?_
  intro p e s m args below meth c s₁ B hml hv
  obtain ⟨rfl, hP, hK, hN⟩ := hv
  have hx := B.exec
  have hb := B.bytes
  have hr := B.returns
  have hts := atoms_spec (ws := w_FB_moveAt) B.pre
  have hG := fun (w : Cond) (h : w ∈ wG) => hts w (List.mem_cons_of_mem _ h)
  have hown : s.vm.findClass R_FB = some m.cls := findClass_of_methodNamed B.named
  have hlocks := B.notSynchronized
  have hl := lv_entry ([.ref o, .int fd]) (n := 2) (Nat.le_of_ble_eq_true rfl)
  rw [lg_entry_eq]
  generalize (lg_sl ([.ref o, .int fd]) ++ List.replicate (2 - (lg_sl ([.ref o, .int fd])).length) Slot.unset).toArray = ls at hl ⊢
  have hl : lv_has ls 2 [(0, .ref o), (1, .int fd)] := hl
  refine lv_iload_n hx hb d_FB_moveAt_0 rfl (lv_at hl 1 rfl) ?_
  refine lv_i2l hx hb d_FB_moveAt_1 rfl ?_
  refine lv_lconst (v := 0) hx hb d_FB_moveAt_2 (by decide) ?_
  refine lv_aload_n hx hb d_FB_moveAt_3 rfl (lv_at hl 0 rfl) ?_
  refine fw_get (D := (dC, dI)) (ci := 0) (v := .ref x) (C := R_FB) (T := F_FB) (N := 11) hx hb hG iG_FB hown hK hP hm_o he_o rfl 2 (by decide) (hG _ k_69) (fun _ h9 => h9) rfl d_FB_moveAt_4 ?_
  refine fw_alen (D := (dC, dI)) (v := nI 100) hx hb hK hP hm_x 2 he_x ht_x rfl d_FB_moveAt_7 ?_
  refine lv_iconst (v := 1) hx hb d_FB_moveAt_8 (by decide) ?_
  refine lv_isub hx hb d_FB_moveAt_9 ?_
  refine lv_i2l hx hb d_FB_moveAt_10 rfl ?_
  refine rd_calli (va_runS (As := [.long (fd.toInt64), .long 0, .long ((nI 100 - 1).toInt64)]) (rest := []) ⟨hx, hb, hml, hown, hts⟩ (c_FB_isWithin l dC dI tys (va_pl L f) (fd.toInt64) 0 ((nI 100 - 1).toInt64)) (cwS 3 hts (gd_S k_106 k_107 k_14 k_108) rfl rfl rfl (by decide +kernel) ⟨Nat.le_of_ble_eq_true rfl, Nat.le_of_ble_eq_true rfl⟩) (rd_preS hK hN hP) rfl rfl hl.1 rfl (lv_room (Nat.le_of_ble_eq_true rfl)) d_FB_moveAt_11 ⟨Nat.zero_le _, Nat.zero_le _⟩) (fun r_1 hr_1 => ?_)
  subst hr_1
  refine lb_if_eq (tgt := 26) hx hb d_FB_moveAt_14 (by decide) (fun c_2 => ?_) (fun c_2 => ?_)
  · refine lv_null hx hb d_FB_moveAt_26 ?_
    exact W.aret (v := .null) hx hb hr (Or.inl ⟨_, rfl⟩) (Or.inl rfl) (fun t ht hW => ⟨none, rfl, (by simp [inN, c_2]), ht⟩) (fun q h => by cases h) d_FB_moveAt_27
  · refine lv_aload_n hx hb d_FB_moveAt_17 rfl (lv_at hl 0 rfl) ?_
    refine fw_get (D := (dC, dI)) (ci := 0) (v := .ref x) (C := R_FB) (T := F_FB) (N := 11) hx hb hG iG_FB hown hK hP hm_o he_o rfl 2 (by decide) (hG _ k_69) (fun _ h9 => h9) rfl d_FB_moveAt_18 ?_
    refine lv_iload_n hx hb d_FB_moveAt_21 rfl (lv_at hl 1 rfl) ?_
    refine fw_ald (D := (dC, dI)) (C := "FundBook$Move") (n := 100) (g := x_g) hx hb hK hP hm_x 2 he_x ht_x (inN_vp (n := 100) (by decide) c_2) d_FB_moveAt_22 ?_
    refine lv_goto (tgt := 27) hx hb d_FB_moveAt_23 (by decide) ?_
    exact W.aret (v := va_rf (x_g (fd.toNatClampNeg))) hx hb hr (Or.inl ⟨_, rfl⟩) (va_rf_or _) (fun t ht hW => ⟨x_g (fd.toNatClampNeg), rfl, (by simp [inN, c_2]), ht⟩) (fun q h => by cases h) d_FB_moveAt_27

theorem d_FB_isCurrency_0 : decode b_FB_isCurrency 0 = .ok (.iload_n 1, 1) := by decide +kernel
theorem d_FB_isCurrency_1 : decode b_FB_isCurrency 1 = .ok (.i2l, 1) := by decide +kernel
theorem d_FB_isCurrency_2 : decode b_FB_isCurrency 2 = .ok (.lconst 0, 1) := by decide +kernel
theorem d_FB_isCurrency_3 : decode b_FB_isCurrency 3 = .ok (.aload_n 0, 1) := by decide +kernel
theorem d_FB_isCurrency_4 : decode b_FB_isCurrency 4 = .ok (.getfield 29, 3) := by decide +kernel
theorem d_FB_isCurrency_7 : decode b_FB_isCurrency 7 = .ok (.arraylength, 1) := by decide +kernel
theorem d_FB_isCurrency_8 : decode b_FB_isCurrency 8 = .ok (.iconst 1, 1) := by decide +kernel
theorem d_FB_isCurrency_9 : decode b_FB_isCurrency 9 = .ok (.isub, 1) := by decide +kernel
theorem d_FB_isCurrency_10 : decode b_FB_isCurrency 10 = .ok (.i2l, 1) := by decide +kernel
theorem d_FB_isCurrency_11 : decode b_FB_isCurrency 11 = .ok (.invokestatic 61, 3) := by decide +kernel
theorem d_FB_isCurrency_14 : decode b_FB_isCurrency 14 = .ok (.ireturn, 1) := by decide +kernel
set_option maxHeartbeats 4000000 in
set_option maxRecDepth 100000 in
theorem c_FB_isCurrency (l : Launch) (dC : Nat → ClassId) (dI : Nat → Nat → Nat) (tys : List (ClassId × FieldType)) (L : List Nat) (f : Nat → va_E) (o : Nat) (x : Nat) (o_na o_np o_nm o_yr o_tl o_fl : Int32) (o_xa o_xp o_xm o_xb : Nat) (x_c : ClassId) (x_g : Nat → Option Nat) (cu : Int32) (hm_o : o ∈ L) (he_o : f o = .inr (0, [.ref o_xa, .ref o_xp, .ref o_xm, .ref x, .ref o_xb, .int o_na, .int o_np, .int o_nm, .int o_yr, .int o_tl, .int o_fl])) (hm_x : x ∈ L) (he_x : f x = .inl (x_c, 10, .inr (.inr (.inr (.inr x_g))))) (ht_x : tys[3]? = some (x_c, .object "FundBook$Rate")) : Met l y_FB_isCurrency w_FB_isCurrency { frames := 1, cells := 0, slots := 0, locals := 25 } (rd_P (dC, dI) classes tys (va_pl L f) [.ref o, .int cu]) (vp_Si (fun r => r = bI (inN cu 10))) 0 0 (fun _ => False) := by
  refine Met.ofW (cc := b_FB_isCurrency) (maxL := 2) (ret := (some .boolean)) (by decide) rfl ?_
  intro p e s m args below meth c s₁ B hml hv
  obtain ⟨rfl, hP, hK, hN⟩ := hv
  have hx := B.exec
  have hb := B.bytes
  have hr := B.returns
  have hts := atoms_spec (ws := w_FB_isCurrency) B.pre
  have hG := fun (w : Cond) (h : w ∈ wG) => hts w (List.mem_cons_of_mem _ h)
  have hown : s.vm.findClass R_FB = some m.cls := findClass_of_methodNamed B.named
  have hlocks := B.notSynchronized
  have hl := lv_entry ([.ref o, .int cu]) (n := 2) (Nat.le_of_ble_eq_true rfl)
  rw [lg_entry_eq]
  generalize (lg_sl ([.ref o, .int cu]) ++ List.replicate (2 - (lg_sl ([.ref o, .int cu])).length) Slot.unset).toArray = ls at hl ⊢
  have hl : lv_has ls 2 [(0, .ref o), (1, .int cu)] := hl
  refine lv_iload_n hx hb d_FB_isCurrency_0 rfl (lv_at hl 1 rfl) ?_
  refine lv_i2l hx hb d_FB_isCurrency_1 rfl ?_
  refine lv_lconst (v := 0) hx hb d_FB_isCurrency_2 (by decide) ?_
  refine lv_aload_n hx hb d_FB_isCurrency_3 rfl (lv_at hl 0 rfl) ?_
  refine fw_get (D := (dC, dI)) (ci := 0) (v := .ref x) (C := R_FB) (T := F_FB) (N := 11) hx hb hG iG_FB hown hK hP hm_o he_o rfl 3 (by decide) (hG _ k_70) (fun _ h9 => h9) rfl d_FB_isCurrency_4 ?_
  refine fw_alen (D := (dC, dI)) (v := nI 10) hx hb hK hP hm_x 3 he_x ht_x rfl d_FB_isCurrency_7 ?_
  refine lv_iconst (v := 1) hx hb d_FB_isCurrency_8 (by decide) ?_
  refine lv_isub hx hb d_FB_isCurrency_9 ?_
  refine lv_i2l hx hb d_FB_isCurrency_10 rfl ?_
  refine rd_calli (va_runS (As := [.long (cu.toInt64), .long 0, .long ((nI 10 - 1).toInt64)]) (rest := []) ⟨hx, hb, hml, hown, hts⟩ (c_FB_isWithin l dC dI tys (va_pl L f) (cu.toInt64) 0 ((nI 10 - 1).toInt64)) (cwS 3 hts (gd_S k_106 k_107 k_14 k_108) rfl rfl rfl (by decide +kernel) ⟨Nat.le_of_ble_eq_true rfl, Nat.le_of_ble_eq_true rfl⟩) (rd_preS hK hN hP) rfl rfl hl.1 rfl (lv_room (Nat.le_of_ble_eq_true rfl)) d_FB_isCurrency_11 ⟨Nat.zero_le _, Nat.zero_le _⟩) (fun r_1 hr_1 => ?_)
  subst hr_1
  exact W.zret (v := (bI (iw (cu.toInt64) 0 ((nI 10 - 1).toInt64)))) (ty := .boolean) hx hb hr (bI_nar _) (fun t ht hW => ⟨_, rfl, rfl, ht⟩) (fun q h => by cases h) d_FB_isCurrency_14

theorem d_FB_failing_0 : decode b_FB_failing 0 = .ok (.aload_n 0, 1) := by decide +kernel
theorem d_FB_failing_1 : decode b_FB_failing 1 = .ok (.getfield 44, 3) := by decide +kernel
theorem d_FB_failing_4 : decode b_FB_failing 4 = .ok (.ireturn, 1) := by decide +kernel
set_option maxHeartbeats 4000000 in
set_option maxRecDepth 100000 in
theorem c_FB_failing (l : Launch) (dC : Nat → ClassId) (dI : Nat → Nat → Nat) (tys : List (ClassId × FieldType)) (L : List Nat) (f : Nat → va_E) (o : Nat) (o_na o_np o_nm o_yr o_tl o_fl : Int32) (o_xa o_xp o_xm o_xr o_xb : Nat) (hm_o : o ∈ L) (he_o : f o = .inr (0, [.ref o_xa, .ref o_xp, .ref o_xm, .ref o_xr, .ref o_xb, .int o_na, .int o_np, .int o_nm, .int o_yr, .int o_tl, .int o_fl])) : Met l y_FB_failing w_FB_failing { frames := 0, cells := 0, slots := 0, locals := 0 } (rd_P (dC, dI) classes tys (va_pl L f) [.ref o]) (vp_Si (fun r => r = o_fl)) 0 0 (fun _ => False) := by
  refine Met.ofW (cc := b_FB_failing) (maxL := 1) (ret := (some .int)) (by decide) rfl ?_
  intro p e s m args below meth c s₁ B hml hv
  obtain ⟨rfl, hP, hK, hN⟩ := hv
  have hx := B.exec
  have hb := B.bytes
  have hr := B.returns
  have hts := atoms_spec (ws := w_FB_failing) B.pre
  have hG := fun (w : Cond) (h : w ∈ wG) => hts w (List.mem_cons_of_mem _ h)
  have hown : s.vm.findClass R_FB = some m.cls := findClass_of_methodNamed B.named
  have hlocks := B.notSynchronized
  have hl := lv_entry ([.ref o]) (n := 1) (Nat.le_of_ble_eq_true rfl)
  rw [lg_entry_eq]
  generalize (lg_sl ([.ref o]) ++ List.replicate (1 - (lg_sl ([.ref o])).length) Slot.unset).toArray = ls at hl ⊢
  have hl : lv_has ls 1 [(0, .ref o)] := hl
  refine lv_aload_n hx hb d_FB_failing_0 rfl (lv_at hl 0 rfl) ?_
  refine fw_get (D := (dC, dI)) (ci := 0) (v := .int o_fl) (C := R_FB) (T := F_FB) (N := 11) hx hb hG iG_FB hown hK hP hm_o he_o rfl 10 (by decide) (hG _ k_77) (fun _ h9 => h9) rfl d_FB_failing_1 ?_
  exact W.iret (v := o_fl) hx hb hr (fun t ht hW => ⟨_, rfl, rfl, ht⟩) (fun q h => by cases h) d_FB_failing_4
