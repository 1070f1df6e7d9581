theorem d_Pu_awaitsInvoiceIn_0 : decode b_Pu_awaitsInvoiceIn 0 = .ok (.aload_n 0, 1) := by decide +kernel
theorem d_Pu_awaitsInvoiceIn_1 : decode b_Pu_awaitsInvoiceIn 1 = .ok (.getfield 18, 3) := by decide +kernel
theorem d_Pu_awaitsInvoiceIn_4 : decode b_Pu_awaitsInvoiceIn 4 = .ok (.iconst 1, 1) := by decide +kernel
theorem d_Pu_awaitsInvoiceIn_5 : decode b_Pu_awaitsInvoiceIn 5 = .ok (.if_icmp .ne 22, 3) := by decide +kernel
theorem d_Pu_awaitsInvoiceIn_8 : decode b_Pu_awaitsInvoiceIn 8 = .ok (.aload_n 0, 1) := by decide +kernel
theorem d_Pu_awaitsInvoiceIn_9 : decode b_Pu_awaitsInvoiceIn 9 = .ok (.getfield 32, 3) := by decide +kernel
theorem d_Pu_awaitsInvoiceIn_12 : decode b_Pu_awaitsInvoiceIn 12 = .ok (.ifCond .eq 11, 3) := by decide +kernel
theorem d_Pu_awaitsInvoiceIn_15 : decode b_Pu_awaitsInvoiceIn 15 = .ok (.iload_n 1, 1) := by decide +kernel
theorem d_Pu_awaitsInvoiceIn_16 : decode b_Pu_awaitsInvoiceIn 16 = .ok (.aload_n 0, 1) := by decide +kernel
theorem d_Pu_awaitsInvoiceIn_17 : decode b_Pu_awaitsInvoiceIn 17 = .ok (.getfield 22, 3) := by decide +kernel
theorem d_Pu_awaitsInvoiceIn_20 : decode b_Pu_awaitsInvoiceIn 20 = .ok (.if_icmp .le 7, 3) := by decide +kernel
theorem d_Pu_awaitsInvoiceIn_23 : decode b_Pu_awaitsInvoiceIn 23 = .ok (.iconst 1, 1) := by decide +kernel
theorem d_Pu_awaitsInvoiceIn_24 : decode b_Pu_awaitsInvoiceIn 24 = .ok (.goto 4, 3) := by decide +kernel
theorem d_Pu_awaitsInvoiceIn_27 : decode b_Pu_awaitsInvoiceIn 27 = .ok (.iconst 0, 1) := by decide +kernel
theorem d_Pu_awaitsInvoiceIn_28 : decode b_Pu_awaitsInvoiceIn 28 = .ok (.ireturn, 1) := by decide +kernel
set_option maxHeartbeats 4000000 in
set_option maxRecDepth 100000 in
theorem c_Pu_awaitsInvoiceIn (l : Launch) (dC : Nat → ClassId) (dI : Nat → Nat → Nat) (tys : List (ClassId × FieldType)) (L : List Nat) (f : Nat → va_E) (pu : Nat) (pu_ct pu_stt pu_ic pu_lm : Int32) (pu_lx : Int64) (pu_ac pu_ap : Nat) (pu_st : Bool) (mo : Int32) (hm_pu : pu ∈ L) (he_pu : f pu = .inr (2, [.ref pu_ac, .int pu_ct, .int (bI pu_st), .ref pu_ap, .int pu_stt, .int pu_ic, .int pu_lm, .long pu_lx])) : Met l y_Pu_awaitsInvoiceIn w_Pu_awaitsInvoiceIn { frames := 0, cells := 0, slots := 0, locals := 0 } (rd_P (dC, dI) classes tys (va_pl L f) [.ref pu, .int mo]) (vp_Si (fun r => r = bI (decide (pu_stt = 1) && (!pu_st || !decide (mo ≤ pu_lm))))) 0 0 (fun _ => False) := by
  refine Met.ofW (cc := b_Pu_awaitsInvoiceIn) (maxL := 2) (ret := (some .boolean)) (by decide) rfl ?_
  intro p e s m args below meth c s₁ B hml hv
  obtain ⟨rfl, hP, hK, hN⟩ := hv
  have hx := B.exec
  have hb := B.bytes
  have hr := B.returns
  have hts := atoms_spec (ws := w_Pu_awaitsInvoiceIn) B.pre
  have hG := fun (w : Cond) (h : w ∈ wG) => hts w (List.mem_cons_of_mem _ h)
  have hown : s.vm.findClass R_Pu = some m.cls := findClass_of_methodNamed B.named
  have hlocks := B.notSynchronized
  have hl := lv_entry ([.ref pu, .int mo]) (n := 2) (Nat.le_of_ble_eq_true rfl)
  rw [lg_entry_eq]
  generalize (lg_sl ([.ref pu, .int mo]) ++ List.replicate (2 - (lg_sl ([.ref pu, .int mo])).length) Slot.unset).toArray = ls at hl ⊢
  have hl : lv_has ls 2 [(0, .ref pu), (1, .int mo)] := hl
  refine lv_aload_n hx hb d_Pu_awaitsInvoiceIn_0 rfl (lv_at hl 0 rfl) ?_
  refine fw_get (D := (dC, dI)) (ci := 2) (v := .int pu_stt) (C := R_Pu) (T := F_Pu) (N := 8) hx hb hG iG_Pu hown hK hP hm_pu he_pu rfl 4 (by decide) (hG _ k_198) (fun _ h9 => h9) rfl d_Pu_awaitsInvoiceIn_1 ?_
  refine lv_iconst (v := 1) hx hb d_Pu_awaitsInvoiceIn_4 (by decide) ?_
  refine lv_icmp_ne (tgt := 27) hx hb d_Pu_awaitsInvoiceIn_5 (by decide) (fun c_1 => ?_) (fun c_1 => ?_)
  · refine lv_iconst (v := 0) hx hb d_Pu_awaitsInvoiceIn_27 (by decide) ?_
    exact W.zret (v := 0) (ty := .boolean) hx hb hr rfl (fun t ht hW => ⟨_, rfl, (by simp [bI, c_1]), ht⟩) (fun q h => by cases h) d_Pu_awaitsInvoiceIn_28
  · refine lv_aload_n hx hb d_Pu_awaitsInvoiceIn_8 rfl (lv_at hl 0 rfl) ?_
    refine fw_get (D := (dC, dI)) (ci := 2) (v := .int (bI pu_st)) (C := R_Pu) (T := F_Pu) (N := 8) hx hb hG iG_Pu hown hK hP hm_pu he_pu rfl 2 (by decide) (hG _ k_195) (fun _ h9 => h9) rfl d_Pu_awaitsInvoiceIn_9 ?_
    refine lb_if_eq (tgt := 23) hx hb d_Pu_awaitsInvoiceIn_12 (by decide) (fun c_2 => ?_) (fun c_2 => ?_)
    · refine lv_iconst (v := 1) hx hb d_Pu_awaitsInvoiceIn_23 (by decide) ?_
      refine lv_goto (tgt := 28) hx hb d_Pu_awaitsInvoiceIn_24 (by decide) ?_
      exact W.zret (v := 1) (ty := .boolean) hx hb hr rfl (fun t ht hW => ⟨_, rfl, (by simp [bI, c_1, c_2]), ht⟩) (fun q h => by cases h) d_Pu_awaitsInvoiceIn_28
    · refine lv_iload_n hx hb d_Pu_awaitsInvoiceIn_15 rfl (lv_at hl 1 rfl) ?_
      refine lv_aload_n hx hb d_Pu_awaitsInvoiceIn_16 rfl (lv_at hl 0 rfl) ?_
      refine fw_get (D := (dC, dI)) (ci := 2) (v := .int pu_lm) (C := R_Pu) (T := F_Pu) (N := 8) hx hb hG iG_Pu hown hK hP hm_pu he_pu rfl 6 (by decide) (hG _ k_202) (fun _ h9 => h9) rfl d_Pu_awaitsInvoiceIn_17 ?_
      refine lv_icmp_le (tgt := 27) hx hb d_Pu_awaitsInvoiceIn_20 (by decide) (fun c_3 => ?_) (fun c_3 => ?_)
      · refine lv_iconst (v := 0) hx hb d_Pu_awaitsInvoiceIn_27 (by decide) ?_
        exact W.zret (v := 0) (ty := .boolean) hx hb hr rfl (fun t ht hW => ⟨_, rfl, (by simp [bI, c_1, c_2, c_3]), ht⟩) (fun q h => by cases h) d_Pu_awaitsInvoiceIn_28
      · refine lv_iconst (v := 1) hx hb d_Pu_awaitsInvoiceIn_23 (by decide) ?_
        refine lv_goto (tgt := 28) hx hb d_Pu_awaitsInvoiceIn_24 (by decide) ?_
        exact W.zret (v := 1) (ty := .boolean) hx hb hr rfl (fun t ht hW => ⟨_, rfl, (by simp [bI, c_1, c_2, c_3]), ht⟩) (fun q h => by cases h) d_Pu_awaitsInvoiceIn_28

theorem d_Pu_isInBand_0 : decode b_Pu_isInBand 0 = .ok (.aload_n 0, 1) := by decide +kernel
theorem d_Pu_isInBand_1 : decode b_Pu_isInBand 1 = .ok (.getfield 29, 3) := by decide +kernel
theorem d_Pu_isInBand_4 : decode b_Pu_isInBand 4 = .ok (.i2l, 1) := by decide +kernel
theorem d_Pu_isInBand_5 : decode b_Pu_isInBand 5 = .ok (.iload_n 3, 1) := by decide +kernel
theorem d_Pu_isInBand_6 : decode b_Pu_isInBand 6 = .ok (.i2l, 1) := by decide +kernel
theorem d_Pu_isInBand_7 : decode b_Pu_isInBand 7 = .ok (.lmul, 1) := by decide +kernel
theorem d_Pu_isInBand_8 : decode b_Pu_isInBand 8 = .ok (.ldc2_w 42, 3) := by decide +kernel
theorem d_Pu_isInBand_11 : decode b_Pu_isInBand 11 = .ok (.ldiv, 1) := by decide +kernel
theorem d_Pu_isInBand_12 : decode b_Pu_isInBand 12 = .ok (.lstore 4, 2) := by decide +kernel
theorem d_Pu_isInBand_14 : decode b_Pu_isInBand 14 = .ok (.lload_n 1, 1) := by decide +kernel
theorem d_Pu_isInBand_15 : decode b_Pu_isInBand 15 = .ok (.aload_n 0, 1) := by decide +kernel
theorem d_Pu_isInBand_16 : decode b_Pu_isInBand 16 = .ok (.getfield 29, 3) := by decide +kernel
theorem d_Pu_isInBand_19 : decode b_Pu_isInBand 19 = .ok (.i2l, 1) := by decide +kernel
theorem d_Pu_isInBand_20 : decode b_Pu_isInBand 20 = .ok (.lload 4, 2) := by decide +kernel
theorem d_Pu_isInBand_22 : decode b_Pu_isInBand 22 = .ok (.lsub, 1) := by decide +kernel
theorem d_Pu_isInBand_23 : decode b_Pu_isInBand 23 = .ok (.aload_n 0, 1) := by decide +kernel
theorem d_Pu_isInBand_24 : decode b_Pu_isInBand 24 = .ok (.getfield 29, 3) := by decide +kernel
theorem d_Pu_isInBand_27 : decode b_Pu_isInBand 27 = .ok (.i2l, 1) := by decide +kernel
theorem d_Pu_isInBand_28 : decode b_Pu_isInBand 28 = .ok (.lload 4, 2) := by decide +kernel
theorem d_Pu_isInBand_30 : decode b_Pu_isInBand 30 = .ok (.ladd, 1) := by decide +kernel
theorem d_Pu_isInBand_31 : decode b_Pu_isInBand 31 = .ok (.invokestatic 44, 3) := by decide +kernel
theorem d_Pu_isInBand_34 : decode b_Pu_isInBand 34 = .ok (.ireturn, 1) := by decide +kernel
set_option maxHeartbeats 4000000 in
set_option maxRecDepth 100000 in
theorem c_Pu_isInBand (l : Launch) (dC : Nat → ClassId) (dI : Nat → Nat → Nat) (tys : List (ClassId × FieldType)) (L : List Nat) (f : Nat → va_E) (pu : Nat) (pu_ct pu_stt pu_ic pu_lm : Int32) (pu_lx : Int64) (pu_ac pu_ap : Nat) (pu_st : Bool) (hc : Int64) (tl : Int32) (hm_pu : pu ∈ L) (he_pu : f pu = .inr (2, [.ref pu_ac, .int pu_ct, .int (bI pu_st), .ref pu_ap, .int pu_stt, .int pu_ic, .int pu_lm, .long pu_lx])) : Met l y_Pu_isInBand w_Pu_isInBand { frames := 1, cells := 0, slots := 0, locals := 25 } (rd_P (dC, dI) classes tys (va_pl L f) [.ref pu, .long hc, .int tl]) (vp_Si (fun r => r = bI (iw hc (pu_ct.toInt64 - pu_ct.toInt64 * tl.toInt64 / 1000) (pu_ct.toInt64 + pu_ct.toInt64 * tl.toInt64 / 1000)))) 0 0 (fun _ => False) := by
  refine Met.ofW (cc := b_Pu_isInBand) (maxL := 6) (ret := (some .boolean)) (by decide) rfl ?_
  intro p e s m args below meth c s₁ B hml hv
  obtain ⟨rfl, hP, hK, hN⟩ := hv
  have hx := B.exec
  have hb := B.bytes
  have hr := B.returns
  have hts := atoms_spec (ws := w_Pu_isInBand) B.pre
  have hG := fun (w : Cond) (h : w ∈ wG) => hts w (List.mem_cons_of_mem _ h)
  have hown : s.vm.findClass R_Pu = some m.cls := findClass_of_methodNamed B.named
  have hlocks := B.notSynchronized
  have hl := lv_entry ([.ref pu, .long hc, .int tl]) (n := 6) (Nat.le_of_ble_eq_true rfl)
  rw [lg_entry_eq]
  generalize (lg_sl ([.ref pu, .long hc, .int tl]) ++ List.replicate (6 - (lg_sl ([.ref pu, .long hc, .int tl])).length) Slot.unset).toArray = ls at hl ⊢
  have hl : lv_has ls 6 [(0, .ref pu), (1, .long hc), (3, .int tl)] := hl
  refine lv_aload_n hx hb d_Pu_isInBand_0 rfl (lv_at hl 0 rfl) ?_
  refine fw_get (D := (dC, dI)) (ci := 2) (v := .int pu_ct) (C := R_Pu) (T := F_Pu) (N := 8) hx hb hG iG_Pu hown hK hP hm_pu he_pu rfl 1 (by decide) (hG _ k_193) (fun _ h9 => h9) rfl d_Pu_isInBand_1 ?_
  refine lv_i2l hx hb d_Pu_isInBand_4 rfl ?_
  refine lv_iload_n hx hb d_Pu_isInBand_5 rfl (lv_at hl 2 rfl) ?_
  refine lv_i2l hx hb d_Pu_isInBand_6 rfl ?_
  refine lv_lmul hx hb d_Pu_isInBand_7 ?_
  refine lv_ldc2 (own := R_Pu) (v := 1000) hx hb hown (hG _ k_276) d_Pu_isInBand_8 ?_
  refine lv_ldiv hx hb d_Pu_isInBand_11 (by decide) ?_
  refine lv_lstore (lv' := [(4, .long (((pu_ct.toInt64) * (tl.toInt64)) / 1000)), (0, .ref pu), (1, .long hc), (3, .int tl)]) hx hb d_Pu_isInBand_12 hl (by decide) rfl (fun ls hl => ?_)
  refine lv_lload_n hx hb d_Pu_isInBand_14 rfl (lv_at hl 2 rfl) ?_
  refine lv_aload_n hx hb d_Pu_isInBand_15 rfl (lv_at hl 1 rfl) ?_
  refine fw_get (D := (dC, dI)) (ci := 2) (v := .int pu_ct) (C := R_Pu) (T := F_Pu) (N := 8) hx hb hG iG_Pu hown hK hP hm_pu he_pu rfl 1 (by decide) (hG _ k_193) (fun _ h9 => h9) rfl d_Pu_isInBand_16 ?_
  refine lv_i2l hx hb d_Pu_isInBand_19 rfl ?_
  refine lv_lload hx hb d_Pu_isInBand_20 (lv_at hl 0 rfl) ?_
  refine lv_lsub hx hb d_Pu_isInBand_22 ?_
  refine lv_aload_n hx hb d_Pu_isInBand_23 rfl (lv_at hl 1 rfl) ?_
  refine fw_get (D := (dC, dI)) (ci := 2) (v := .int pu_ct) (C := R_Pu) (T := F_Pu) (N := 8) hx hb hG iG_Pu hown hK hP hm_pu he_pu rfl 1 (by decide) (hG _ k_193) (fun _ h9 => h9) rfl d_Pu_isInBand_24 ?_
  refine lv_i2l hx hb d_Pu_isInBand_27 rfl ?_
  refine lv_lload hx hb d_Pu_isInBand_28 (lv_at hl 0 rfl) ?_
  refine lv_ladd hx hb d_Pu_isInBand_30 ?_
  refine rd_calli (va_runSN (As := [.long hc, .long ((pu_ct.toInt64) - (((pu_ct.toInt64) * (tl.toInt64)) / 1000)), .long ((pu_ct.toInt64) + (((pu_ct.toInt64) * (tl.toInt64)) / 1000))]) (rest := []) ⟨hx, hb, hml, hown, hts⟩ (c_FB_isWithin l dC dI tys (va_pl L f) hc ((pu_ct.toInt64) - (((pu_ct.toInt64) * (tl.toInt64)) / 1000)) ((pu_ct.toInt64) + (((pu_ct.toInt64) * (tl.toInt64)) / 1000))) ⟨va_cnB 3 hts (gd_c k_108) rfl rfl rfl (hN _ k_277) (hG _ k_14) (by decide +kernel) ⟨Nat.le_of_ble_eq_true rfl, Nat.le_of_ble_eq_true rfl⟩, (hG _ k_107), trivial⟩ (rd_preS hK hN hP) rfl rfl hl.1 rfl (lv_room (Nat.le_of_ble_eq_true rfl)) d_Pu_isInBand_31 ⟨Nat.zero_le _, Nat.zero_le _⟩) (fun r_1 hr_1 => ?_)
  subst hr_1
  exact W.zret (v := (bI (iw hc ((pu_ct.toInt64) - (((pu_ct.toInt64) * (tl.toInt64)) / 1000)) ((pu_ct.toInt64) + (((pu_ct.toInt64) * (tl.toInt64)) / 1000))))) (ty := .boolean) hx hb hr (bI_nar _) (fun t ht hW => ⟨_, rfl, rfl, ht⟩) (fun q h => by cases h) d_Pu_isInBand_34

theorem d_Pu_releasedByInvoice_0 : decode b_Pu_releasedByInvoice 0 = .ok (.aload_n 0, 1) := by decide +kernel
theorem d_Pu_releasedByInvoice_1 : decode b_Pu_releasedByInvoice 1 = .ok (.getfield 32, 3) := by decide +kernel
theorem d_Pu_releasedByInvoice_4 : decode b_Pu_releasedByInvoice 4 = .ok (.ifCond .eq 7, 3) := by decide +kernel
theorem d_Pu_releasedByInvoice_7 : decode b_Pu_releasedByInvoice 7 = .ok (.iconst 0, 1) := by decide +kernel
theorem d_Pu_releasedByInvoice_8 : decode b_Pu_releasedByInvoice 8 = .ok (.goto 7, 3) := by decide +kernel
theorem d_Pu_releasedByInvoice_11 : decode b_Pu_releasedByInvoice 11 = .ok (.aload_n 0, 1) := by decide +kernel
theorem d_Pu_releasedByInvoice_12 : decode b_Pu_releasedByInvoice 12 = .ok (.getfield 29, 3) := by decide +kernel
theorem d_Pu_releasedByInvoice_15 : decode b_Pu_releasedByInvoice 15 = .ok (.ireturn, 1) := by decide +kernel
set_option maxHeartbeats 4000000 in
set_option maxRecDepth 100000 in
theorem c_Pu_releasedByInvoice (l : Launch) (dC : Nat → ClassId) (dI : Nat → Nat → Nat) (tys : List (ClassId × FieldType)) (L : List Nat) (f : Nat → va_E) (pu : Nat) (pu_ct pu_stt pu_ic pu_lm : Int32) (pu_lx : Int64) (pu_ac pu_ap : Nat) (pu_st : Bool) (hm_pu : pu ∈ L) (he_pu : f pu = .inr (2, [.ref pu_ac, .int pu_ct, .int (bI pu_st), .ref pu_ap, .int pu_stt, .int pu_ic, .int pu_lm, .long pu_lx])) : Met l y_Pu_releasedByInvoice w_Pu_releasedByInvoice { frames := 0, cells := 0, slots := 0, locals := 0 } (rd_P (dC, dI) classes tys (va_pl L f) [.ref pu]) (vp_Si (fun r => r = if pu_st = true then 0 else pu_ct)) 0 0 (fun _ => False) := by
  refine Met.ofW (cc := b_Pu_releasedByInvoice) (maxL := 1) (ret := (some .int)) (by decide) rfl ?_
  intro p e s m args below meth c s₁ B hml hv
  obtain ⟨rfl, hP, hK, hN⟩ := hv
  have hx := B.exec
  have hb := B.bytes
  have hr := B.returns
  have hts := atoms_spec (ws := w_Pu_releasedByInvoice) B.pre
  have hG := fun (w : Cond) (h : w ∈ wG) => hts w (List.mem_cons_of_mem _ h)
  have hown : s.vm.findClass R_Pu = some m.cls := findClass_of_methodNamed B.named
  have hlocks := B.notSynchronized
  have hl := lv_entry ([.ref pu]) (n := 1) (Nat.le_of_ble_eq_true rfl)
  rw [lg_entry_eq]
  generalize (lg_sl ([.ref pu]) ++ List.replicate (1 - (lg_sl ([.ref pu])).length) Slot.unset).toArray = ls at hl ⊢
  have hl : lv_has ls 1 [(0, .ref pu)] := hl
  refine lv_aload_n hx hb d_Pu_releasedByInvoice_0 rfl (lv_at hl 0 rfl) ?_
  refine fw_get (D := (dC, dI)) (ci := 2) (v := .int (bI pu_st)) (C := R_Pu) (T := F_Pu) (N := 8) hx hb hG iG_Pu hown hK hP hm_pu he_pu rfl 2 (by decide) (hG _ k_195) (fun _ h9 => h9) rfl d_Pu_releasedByInvoice_1 ?_
  refine lb_if_eq (tgt := 11) hx hb d_Pu_releasedByInvoice_4 (by decide) (fun c_1 => ?_) (fun c_1 => ?_)
  · refine lv_aload_n hx hb d_Pu_releasedByInvoice_11 rfl (lv_at hl 0 rfl) ?_
    refine fw_get (D := (dC, dI)) (ci := 2) (v := .int pu_ct) (C := R_Pu) (T := F_Pu) (N := 8) hx hb hG iG_Pu hown hK hP hm_pu he_pu rfl 1 (by decide) (hG _ k_193) (fun _ h9 => h9) rfl d_Pu_releasedByInvoice_12 ?_
    exact W.iret (v := pu_ct) hx hb hr (fun t ht hW => ⟨_, rfl, (by simp [bI, c_1]), ht⟩) (fun q h => by cases h) d_Pu_releasedByInvoice_15
  · refine lv_iconst (v := 0) hx hb d_Pu_releasedByInvoice_7 (by decide) ?_
    refine lv_goto (tgt := 15) hx hb d_Pu_releasedByInvoice_8 (by decide) ?_
    exact W.iret (v := 0) hx hb hr (fun t ht hW => ⟨_, rfl, (by simp [bI, c_1]), ht⟩) (fun q h => by cases h) d_Pu_releasedByInvoice_15

theorem d_Pu_hasRoomToPay_0 : decode b_Pu_hasRoomToPay 0 = .ok (.aload_n 0, 1) := by decide +kernel
theorem d_Pu_hasRoomToPay_1 : decode b_Pu_hasRoomToPay 1 = .ok (.getfield 25, 3) := by decide +kernel
theorem d_Pu_hasRoomToPay_4 : decode b_Pu_hasRoomToPay 4 = .ok (.lconst 0, 1) := by decide +kernel
theorem d_Pu_hasRoomToPay_5 : decode b_Pu_hasRoomToPay 5 = .ok (.aload_n 0, 1) := by decide +kernel
theorem d_Pu_hasRoomToPay_6 : decode b_Pu_hasRoomToPay 6 = .ok (.invokevirtual 48, 3) := by decide +kernel
theorem d_Pu_hasRoomToPay_9 : decode b_Pu_hasRoomToPay 9 = .ok (.ineg, 1) := by decide +kernel
theorem d_Pu_hasRoomToPay_10 : decode b_Pu_hasRoomToPay 10 = .ok (.i2l, 1) := by decide +kernel
theorem d_Pu_hasRoomToPay_11 : decode b_Pu_hasRoomToPay 11 = .ok (.lload_n 1, 1) := by decide +kernel
theorem d_Pu_hasRoomToPay_12 : decode b_Pu_hasRoomToPay 12 = .ok (.invokevirtual 52, 3) := by decide +kernel
theorem d_Pu_hasRoomToPay_15 : decode b_Pu_hasRoomToPay 15 = .ok (.ireturn, 1) := by decide +kernel
set_option maxHeartbeats 4000000 in
set_option maxRecDepth 100000 in
theorem c_Pu_hasRoomToPay (l : Launch) (dC : Nat → ClassId) (dI : Nat → Nat → Nat) (tys : List (ClassId × FieldType)) (L : List Nat) (f : Nat → va_E) (pu : Nat) (a : Nat) (pu_ct pu_stt pu_ic pu_lm : Int32) (pu_lx : Int64) (pu_ap : Nat) (pu_st : Bool) (a_n a_cy : Int32) (a_g a_en a_sp a_pd : Int64) (hc : Int64) (hm_pu : pu ∈ L) (he_pu : f pu = .inr (2, [.ref a, .int pu_ct, .int (bI pu_st), .ref pu_ap, .int pu_stt, .int pu_ic, .int pu_lm, .long pu_lx])) (hm_a : a ∈ L) (he_a : f a = .inr (1, [.int a_n, .int a_cy, .long a_g, .long a_en, .long a_sp, .long a_pd])) : Met l y_Pu_hasRoomToPay w_Pu_hasRoomToPay { frames := 3, cells := 0, slots := 0, locals := 72 } (rd_P (dC, dI) classes tys (va_pl L f) [.ref pu, .long hc]) (vp_Si (fun r => r = bI (bnd (a_g + 0) && bnd (a_en + (-(if pu_st = true then 0 else pu_ct)).toInt64) && bnd (a_sp + hc) && bnd (a_g - a_en - a_sp + 0 - (-(if pu_st = true then 0 else pu_ct)).toInt64 - hc)))) 0 0 (fun _ => False) := by
  refine Met.ofW (cc := b_Pu_hasRoomToPay) (maxL := 3) (ret := (some .boolean)) (by decide) rfl ?_
  intro p e s m args below meth c s₁ B hml hv
  obtain ⟨rfl, hP, hK, hN⟩ := hv
  have hx := B.exec
  have hb := B.bytes
  have hr := B.returns
  have hts := atoms_spec (ws := w_Pu_hasRoomToPay) B.pre
  have hG := fun (w : Cond) (h : w ∈ wG) => hts w (List.mem_cons_of_mem _ h)
  have hown : s.vm.findClass R_Pu = some m.cls := findClass_of_methodNamed B.named
  have hlocks := B.notSynchronized
  have hl := lv_entry ([.ref pu, .long hc]) (n := 3) (Nat.le_of_ble_eq_true rfl)
  rw [lg_entry_eq]
  generalize (lg_sl ([.ref pu, .long hc]) ++ List.replicate (3 - (lg_sl ([.ref pu, .long hc])).length) Slot.unset).toArray = ls at hl ⊢
  have hl : lv_has ls 3 [(0, .ref pu), (1, .long hc)] := hl
  refine lv_aload_n hx hb d_Pu_hasRoomToPay_0 rfl (lv_at hl 0 rfl) ?_
  refine fw_get (D := (dC, dI)) (ci := 2) (v := .ref a) (C := R_Pu) (T := F_Pu) (N := 8) hx hb hG iG_Pu hown hK hP hm_pu he_pu rfl 0 (by decide) (hG _ k_191) (fun _ h9 => h9) rfl d_Pu_hasRoomToPay_1 ?_
  refine lv_lconst (v := 0) hx hb d_Pu_hasRoomToPay_4 (by decide) ?_
  refine lv_aload_n hx hb d_Pu_hasRoomToPay_5 rfl (lv_at hl 0 rfl) ?_
  refine rd_calli (va_runV (As := []) (rest := [.long 0, .ref a]) ⟨hx, hb, hml, hown, hts⟩ (c_Pu_releasedByInvoice l dC dI tys L f pu pu_ct pu_stt pu_ic pu_lm pu_lx a pu_ap pu_st hm_pu he_pu) (cwV 0 hts (gd_V k_283 k_284 k_285 k_19 k_286) rfl rfl rfl (by decide +kernel) ⟨Nat.le_of_ble_eq_true rfl, Nat.le_of_ble_eq_true rfl⟩) (fw_preV hK hN hP rfl hm_pu he_pu) rfl rfl hl.1 rfl (lv_room (Nat.le_of_ble_eq_true rfl)) d_Pu_hasRoomToPay_6 ⟨Nat.zero_le _, Nat.zero_le _⟩) (fun r_1 hr_1 => ?_)
  subst hr_1
  refine lv_ineg hx hb d_Pu_hasRoomToPay_9 ?_
  refine lv_i2l hx hb d_Pu_hasRoomToPay_10 rfl ?_
  refine lv_lload_n hx hb d_Pu_hasRoomToPay_11 rfl (lv_at hl 1 rfl) ?_
  refine rd_calli (va_runV (As := [.long 0, .long ((-(if pu_st = true then 0 else pu_ct)).toInt64), .long hc]) (rest := []) ⟨hx, hb, hml, hown, hts⟩ (c_Ac_hasRoomFor l dC dI tys L f a a_n a_cy a_g a_en a_sp a_pd 0 ((-(if pu_st = true then 0 else pu_ct)).toInt64) hc hm_a he_a) (cwV 3 hts (gd_V k_287 k_151 k_152 k_18 k_153) rfl rfl rfl (by decide +kernel) ⟨Nat.le_of_ble_eq_true rfl, Nat.le_of_ble_eq_true rfl⟩) (fw_preV hK hN hP rfl hm_a he_a) rfl rfl hl.1 rfl (lv_room (Nat.le_of_ble_eq_true rfl)) d_Pu_hasRoomToPay_12 ⟨Nat.zero_le _, Nat.zero_le _⟩) (fun r_2 hr_2 => ?_)
  subst hr_2
  exact W.zret (v := (bI (bnd (a_g + 0) && bnd (a_en + ((-(if pu_st = true then 0 else pu_ct)).toInt64)) && bnd (a_sp + hc) && bnd (a_g - a_en - a_sp + 0 - ((-(if pu_st = true then 0 else pu_ct)).toInt64) - hc)))) (ty := .boolean) hx hb hr (bI_nar _) (fun t ht hW => ⟨_, rfl, rfl, ht⟩) (fun q h => by cases h) d_Pu_hasRoomToPay_15
