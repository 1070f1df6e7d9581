theorem d_FB_isWithin_0 : decode b_FB_isWithin 0 = .ok (.lload_n 0, 1) := by decide +kernel
theorem d_FB_isWithin_1 : decode b_FB_isWithin 1 = .ok (.lload_n 2, 1) := by decide +kernel
theorem d_FB_isWithin_2 : decode b_FB_isWithin 2 = .ok (.lcmp, 1) := by decide +kernel
theorem d_FB_isWithin_3 : decode b_FB_isWithin 3 = .ok (.ifCond .lt 14, 3) := by decide +kernel
theorem d_FB_isWithin_6 : decode b_FB_isWithin 6 = .ok (.lload_n 0, 1) := by decide +kernel
theorem d_FB_isWithin_7 : decode b_FB_isWithin 7 = .ok (.lload 4, 2) := by decide +kernel
theorem d_FB_isWithin_9 : decode b_FB_isWithin 9 = .ok (.lcmp, 1) := by decide +kernel
theorem d_FB_isWithin_10 : decode b_FB_isWithin 10 = .ok (.ifCond .gt 7, 3) := by decide +kernel
theorem d_FB_isWithin_13 : decode b_FB_isWithin 13 = .ok (.iconst 1, 1) := by decide +kernel
theorem d_FB_isWithin_14 : decode b_FB_isWithin 14 = .ok (.goto 4, 3) := by decide +kernel
theorem d_FB_isWithin_17 : decode b_FB_isWithin 17 = .ok (.iconst 0, 1) := by decide +kernel
theorem d_FB_isWithin_18 : decode b_FB_isWithin 18 = .ok (.ireturn, 1) := by decide +kernel
set_option maxHeartbeats 4000000 in
set_option maxRecDepth 100000 in
theorem c_FB_isWithin (l : Launch) (dC : Nat → ClassId) (dI : Nat → Nat → Nat) (tys : List (ClassId × FieldType)) (ws : va_W) (v : Int64) (lo : Int64) (hi : Int64) : Met l y_FB_isWithin w_FB_isWithin { frames := 0, cells := 0, slots := 0, locals := 0 } (rd_P (dC, dI) classes tys ws [.long v, .long lo, .long hi]) (vp_Si (fun r => r = bI (iw v lo hi))) 0 0 (fun _ => False) := by
  refine Met.ofW (cc := b_FB_isWithin) (maxL := 6) (ret := (some .boolean)) (by decide) rfl ?_
  intro p e s m args below meth c s₁ B hml hv
  obtain ⟨rfl, hP, hK, hN⟩ := hv
  have hx := B.exec
  have hb := B.bytes
  have hr := B.returns
  have hts := atoms_spec (ws := w_FB_isWithin) B.pre
  have hG := fun (w : Cond) (h : w ∈ wG) => hts w (List.mem_cons_of_mem _ h)
  have hown : s.vm.findClass R_FB = some m.cls := findClass_of_methodNamed B.named
  have hlocks := B.notSynchronized
  have hl := lv_entry ([.long v, .long lo, .long hi]) (n := 6) (Nat.le_of_ble_eq_true rfl)
  rw [lg_entry_eq]
  generalize (lg_sl ([.long v, .long lo, .long hi]) ++ List.replicate (6 - (lg_sl ([.long v, .long lo, .long hi])).length) Slot.unset).toArray = ls at hl ⊢
  have hl : lv_has ls 6 [(0, .long v), (2, .long lo), (4, .long hi)] := hl
  refine lv_lload_n hx hb d_FB_isWithin_0 rfl (lv_at hl 0 rfl) ?_
  refine lv_lload_n hx hb d_FB_isWithin_1 rfl (lv_at hl 1 rfl) ?_
  refine lc_lt (tgt := 17) hx hb d_FB_isWithin_2 d_FB_isWithin_3 (by decide) (fun c_1 => ?_) (fun c_1 => ?_)
  · refine lv_iconst (v := 0) hx hb d_FB_isWithin_17 (by decide) ?_
    exact W.zret (v := 0) (ty := .boolean) hx hb hr rfl (fun t ht hW => ⟨_, rfl, (by simp [iw, bI, c_1]), ht⟩) (fun q h => by cases h) d_FB_isWithin_18
  · refine lv_lload_n hx hb d_FB_isWithin_6 rfl (lv_at hl 0 rfl) ?_
    refine lv_lload hx hb d_FB_isWithin_7 (lv_at hl 2 rfl) ?_
    refine lc_gt (tgt := 17) hx hb d_FB_isWithin_9 d_FB_isWithin_10 (by decide) (fun c_2 => ?_) (fun c_2 => ?_)
    · refine lv_iconst (v := 0) hx hb d_FB_isWithin_17 (by decide) ?_
      exact W.zret (v := 0) (ty := .boolean) hx hb hr rfl (fun t ht hW => ⟨_, rfl, (by simp [iw, bI, c_1, c_2]), ht⟩) (fun q h => by cases h) d_FB_isWithin_18
    · refine lv_iconst (v := 1) hx hb d_FB_isWithin_13 (by decide) ?_
      refine lv_goto (tgt := 18) hx hb d_FB_isWithin_14 (by decide) ?_
      exact W.zret (v := 1) (ty := .boolean) hx hb hr rfl (fun t ht hW => ⟨_, rfl, (by simp [iw, bI, c_1, c_2]), ht⟩) (fun q h => by cases h) d_FB_isWithin_18

theorem d_FB_isAmount_0 : decode b_FB_isAmount 0 = .ok (.lload_n 0, 1) := by decide +kernel
theorem d_FB_isAmount_1 : decode b_FB_isAmount 1 = .ok (.ldc2_w 261, 3) := by decide +kernel
theorem d_FB_isAmount_4 : decode b_FB_isAmount 4 = .ok (.ldc2_w 263, 3) := by decide +kernel
theorem d_FB_isAmount_7 : decode b_FB_isAmount 7 = .ok (.invokestatic 61, 3) := by decide +kernel
theorem d_FB_isAmount_10 : decode b_FB_isAmount 10 = .ok (.ireturn, 1) := by decide +kernel
set_option maxHeartbeats 4000000 in
set_option maxRecDepth 100000 in
theorem c_FB_isAmount (l : Launch) (dC : Nat → ClassId) (dI : Nat → Nat → Nat) (tys : List (ClassId × FieldType)) (ws : va_W) (v : Int64) : Met l y_FB_isAmount w_FB_isAmount { frames := 1, cells := 0, slots := 0, locals := 25 } (rd_P (dC, dI) classes tys ws [.long v]) (vp_Si (fun r => r = bI (bnd v))) 0 0 (fun _ => False) := by
  refine Met.ofW (cc := b_FB_isAmount) (maxL := 2) (ret := (some .boolean)) (by decide) rfl ?_
  intro p e s m args below meth c s₁ B hml hv
  obtain ⟨rfl, hP, hK, hN⟩ := hv
  have hx := B.exec
  have hb := B.bytes
  have hr := B.returns
  have hts := atoms_spec (ws := w_FB_isAmount) B.pre
  have hG := fun (w : Cond) (h : w ∈ wG) => hts w (List.mem_cons_of_mem _ h)
  have hown : s.vm.findClass R_FB = some m.cls := findClass_of_methodNamed B.named
  have hlocks := B.notSynchronized
  have hl := lv_entry ([.long v]) (n := 2) (Nat.le_of_ble_eq_true rfl)
  rw [lg_entry_eq]
  generalize (lg_sl ([.long v]) ++ List.replicate (2 - (lg_sl ([.long v])).length) Slot.unset).toArray = ls at hl ⊢
  have hl : lv_has ls 2 [(0, .long v)] := hl
  refine lv_lload_n hx hb d_FB_isAmount_0 rfl (lv_at hl 0 rfl) ?_
  refine lv_ldc2 (own := R_FB) (v := (-1000000000000000)) hx hb hown (hG _ k_157) d_FB_isAmount_1 ?_
  refine lv_ldc2 (own := R_FB) (v := 1000000000000000) hx hb hown (hG _ k_158) d_FB_isAmount_4 ?_
  refine rd_calli (va_runS (As := [.long v, .long (-1000000000000000), .long 1000000000000000]) (rest := []) ⟨hx, hb, hml, hown, hts⟩ (c_FB_isWithin l dC dI tys ws v (-1000000000000000) 1000000000000000) (cwS 3 hts (gd_S k_106 k_107 k_14 k_108) rfl rfl rfl (by decide +kernel) ⟨Nat.le_of_ble_eq_true rfl, Nat.le_of_ble_eq_true rfl⟩) (rd_preS hK hN hP) rfl rfl hl.1 rfl (lv_room (Nat.le_of_ble_eq_true rfl)) d_FB_isAmount_7 ⟨Nat.zero_le _, Nat.zero_le _⟩) (fun r_1 hr_1 => ?_)
  subst hr_1
  exact W.zret (v := (bI (iw v (-1000000000000000) 1000000000000000))) (ty := .boolean) hx hb hr (bI_nar _) (fun t ht hW => ⟨_, rfl, rfl, ht⟩) (fun q h => by cases h) d_FB_isAmount_10

theorem d_Ac_free_0 : decode b_Ac_free 0 = .ok (.aload_n 0, 1) := by decide +kernel
theorem d_Ac_free_1 : decode b_Ac_free 1 = .ok (.getfield 18, 3) := by decide +kernel
theorem d_Ac_free_4 : decode b_Ac_free 4 = .ok (.aload_n 0, 1) := by decide +kernel
theorem d_Ac_free_5 : decode b_Ac_free 5 = .ok (.getfield 22, 3) := by decide +kernel
theorem d_Ac_free_8 : decode b_Ac_free 8 = .ok (.lsub, 1) := by decide +kernel
theorem d_Ac_free_9 : decode b_Ac_free 9 = .ok (.aload_n 0, 1) := by decide +kernel
theorem d_Ac_free_10 : decode b_Ac_free 10 = .ok (.getfield 25, 3) := by decide +kernel
theorem d_Ac_free_13 : decode b_Ac_free 13 = .ok (.lsub, 1) := by decide +kernel
theorem d_Ac_free_14 : decode b_Ac_free 14 = .ok (.lreturn, 1) := by decide +kernel
set_option maxHeartbeats 4000000 in
set_option maxRecDepth 100000 in
theorem c_Ac_free (l : Launch) (dC : Nat → ClassId) (dI : Nat → Nat → Nat) (tys : List (ClassId × FieldType)) (L : List Nat) (f : Nat → va_E) (a : Nat) (a_n a_cy : Int32) (a_g a_en a_sp a_pd : Int64) (hm_a : a ∈ L) (he_a : f a = .inr (1, [.int a_n, .int a_cy, .long a_g, .long a_en, .long a_sp, .long a_pd])) : Met l y_Ac_free w_Ac_free { frames := 0, cells := 0, slots := 0, locals := 0 } (rd_P (dC, dI) classes tys (va_pl L f) [.ref a]) (vp_Sl (fun r => r = a_g - a_en - a_sp)) 0 0 (fun _ => False) := by
  refine Met.ofW (cc := b_Ac_free) (maxL := 1) (ret := (some .long)) (by decide) rfl ?_
  intro p e s m args below meth c s₁ B hml hv
  obtain ⟨rfl, hP, hK, hN⟩ := hv
  have hx := B.exec
  have hb := B.bytes
  have hr := B.returns
  have hts := atoms_spec (ws := w_Ac_free) B.pre
  have hG := fun (w : Cond) (h : w ∈ wG) => hts w (List.mem_cons_of_mem _ h)
  have hown : s.vm.findClass R_Ac = some m.cls := findClass_of_methodNamed B.named
  have hlocks := B.notSynchronized
  have hl := lv_entry ([.ref a]) (n := 1) (Nat.le_of_ble_eq_true rfl)
  rw [lg_entry_eq]
  generalize (lg_sl ([.ref a]) ++ List.replicate (1 - (lg_sl ([.ref a])).length) Slot.unset).toArray = ls at hl ⊢
  have hl : lv_has ls 1 [(0, .ref a)] := hl
  refine lv_aload_n hx hb d_Ac_free_0 rfl (lv_at hl 0 rfl) ?_
  refine fw_get (D := (dC, dI)) (ci := 1) (v := .long a_g) (C := R_Ac) (T := F_Ac) (N := 6) hx hb hG iG_Ac hown hK hP hm_a he_a rfl 2 (by decide) (hG _ k_117) (fun _ h9 => h9) rfl d_Ac_free_1 ?_
  refine lv_aload_n hx hb d_Ac_free_4 rfl (lv_at hl 0 rfl) ?_
  refine fw_get (D := (dC, dI)) (ci := 1) (v := .long a_en) (C := R_Ac) (T := F_Ac) (N := 6) hx hb hG iG_Ac hown hK hP hm_a he_a rfl 3 (by decide) (hG _ k_121) (fun _ h9 => h9) rfl d_Ac_free_5 ?_
  refine lv_lsub hx hb d_Ac_free_8 ?_
  refine lv_aload_n hx hb d_Ac_free_9 rfl (lv_at hl 0 rfl) ?_
  refine fw_get (D := (dC, dI)) (ci := 1) (v := .long a_sp) (C := R_Ac) (T := F_Ac) (N := 6) hx hb hG iG_Ac hown hK hP hm_a he_a rfl 4 (by decide) (hG _ k_124) (fun _ h9 => h9) rfl d_Ac_free_10 ?_
  refine lv_lsub hx hb d_Ac_free_13 ?_
  exact W.lret (v := ((a_g - a_en) - a_sp)) hx hb hr (fun t ht hW => ⟨_, rfl, rfl, ht⟩) (fun q h => by cases h) d_Ac_free_14

theorem d_Ac_hasRoomFor_0 : decode b_Ac_hasRoomFor 0 = .ok (.aload_n 0, 1) := by decide +kernel
theorem d_Ac_hasRoomFor_1 : decode b_Ac_hasRoomFor 1 = .ok (.getfield 18, 3) := by decide +kernel
theorem d_Ac_hasRoomFor_4 : decode b_Ac_hasRoomFor 4 = .ok (.lload_n 1, 1) := by decide +kernel
theorem d_Ac_hasRoomFor_5 : decode b_Ac_hasRoomFor 5 = .ok (.ladd, 1) := by decide +kernel
theorem d_Ac_hasRoomFor_6 : decode b_Ac_hasRoomFor 6 = .ok (.invokestatic 28, 3) := by decide +kernel
theorem d_Ac_hasRoomFor_9 : decode b_Ac_hasRoomFor 9 = .ok (.ifCond .eq 49, 3) := by decide +kernel
theorem d_Ac_hasRoomFor_12 : decode b_Ac_hasRoomFor 12 = .ok (.aload_n 0, 1) := by decide +kernel
theorem d_Ac_hasRoomFor_13 : decode b_Ac_hasRoomFor 13 = .ok (.getfield 22, 3) := by decide +kernel
theorem d_Ac_hasRoomFor_16 : decode b_Ac_hasRoomFor 16 = .ok (.lload_n 3, 1) := by decide +kernel
theorem d_Ac_hasRoomFor_17 : decode b_Ac_hasRoomFor 17 = .ok (.ladd, 1) := by decide +kernel
theorem d_Ac_hasRoomFor_18 : decode b_Ac_hasRoomFor 18 = .ok (.invokestatic 28, 3) := by decide +kernel
theorem d_Ac_hasRoomFor_21 : decode b_Ac_hasRoomFor 21 = .ok (.ifCond .eq 37, 3) := by decide +kernel
theorem d_Ac_hasRoomFor_24 : decode b_Ac_hasRoomFor 24 = .ok (.aload_n 0, 1) := by decide +kernel
theorem d_Ac_hasRoomFor_25 : decode b_Ac_hasRoomFor 25 = .ok (.getfield 25, 3) := by decide +kernel
theorem d_Ac_hasRoomFor_28 : decode b_Ac_hasRoomFor 28 = .ok (.lload 5, 2) := by decide +kernel
theorem d_Ac_hasRoomFor_30 : decode b_Ac_hasRoomFor 30 = .ok (.ladd, 1) := by decide +kernel
theorem d_Ac_hasRoomFor_31 : decode b_Ac_hasRoomFor 31 = .ok (.invokestatic 28, 3) := by decide +kernel
theorem d_Ac_hasRoomFor_34 : decode b_Ac_hasRoomFor 34 = .ok (.ifCond .eq 24, 3) := by decide +kernel
theorem d_Ac_hasRoomFor_37 : decode b_Ac_hasRoomFor 37 = .ok (.aload_n 0, 1) := by decide +kernel
theorem d_Ac_hasRoomFor_38 : decode b_Ac_hasRoomFor 38 = .ok (.invokevirtual 32, 3) := by decide +kernel
theorem d_Ac_hasRoomFor_41 : decode b_Ac_hasRoomFor 41 = .ok (.lload_n 1, 1) := by decide +kernel
theorem d_Ac_hasRoomFor_42 : decode b_Ac_hasRoomFor 42 = .ok (.ladd, 1) := by decide +kernel
theorem d_Ac_hasRoomFor_43 : decode b_Ac_hasRoomFor 43 = .ok (.lload_n 3, 1) := by decide +kernel
theorem d_Ac_hasRoomFor_44 : decode b_Ac_hasRoomFor 44 = .ok (.lsub, 1) := by decide +kernel
theorem d_Ac_hasRoomFor_45 : decode b_Ac_hasRoomFor 45 = .ok (.lload 5, 2) := by decide +kernel
theorem d_Ac_hasRoomFor_47 : decode b_Ac_hasRoomFor 47 = .ok (.lsub, 1) := by decide +kernel
theorem d_Ac_hasRoomFor_48 : decode b_Ac_hasRoomFor 48 = .ok (.invokestatic 28, 3) := by decide +kernel
theorem d_Ac_hasRoomFor_51 : decode b_Ac_hasRoomFor 51 = .ok (.ifCond .eq 7, 3) := by decide +kernel
theorem d_Ac_hasRoomFor_54 : decode b_Ac_hasRoomFor 54 = .ok (.iconst 1, 1) := by decide +kernel
theorem d_Ac_hasRoomFor_55 : decode b_Ac_hasRoomFor 55 = .ok (.goto 4, 3) := by decide +kernel
theorem d_Ac_hasRoomFor_58 : decode b_Ac_hasRoomFor 58 = .ok (.iconst 0, 1) := by decide +kernel
theorem d_Ac_hasRoomFor_59 : decode b_Ac_hasRoomFor 59 = .ok (.ireturn, 1) := by decide +kernel
set_option maxHeartbeats 4000000 in
set_option maxRecDepth 100000 in
theorem c_Ac_hasRoomFor (l : Launch) (dC : Nat → ClassId) (dI : Nat → Nat → Nat) (tys : List (ClassId × FieldType)) (L : List Nat) (f : Nat → va_E) (a : Nat) (a_n a_cy : Int32) (a_g a_en a_sp a_pd : Int64) (mg : Int64) (me : Int64) (ms : Int64) (hm_a : a ∈ L) (he_a : f a = .inr (1, [.int a_n, .int a_cy, .long a_g, .long a_en, .long a_sp, .long a_pd])) : Met l y_Ac_hasRoomFor w_Ac_hasRoomFor { frames := 2, cells := 0, slots := 0, locals := 46 } (rd_P (dC, dI) classes tys (va_pl L f) [.ref a, .long mg, .long me, .long ms]) (vp_Si (fun r => r = bI (bnd (a_g + mg) && bnd (a_en + me) && bnd (a_sp + ms) && bnd (a_g - a_en - a_sp + mg - me - ms)))) 0 0 (fun _ => False) := by
  refine Met.ofW (cc := b_Ac_hasRoomFor) (maxL := 7) (ret := (some .boolean)) (by decide) rfl ?_
  intro p e s m args below meth c s₁ B hml hv
  obtain ⟨rfl, hP, hK, hN⟩ := hv
  have hx := B.exec
  have hb := B.bytes
  have hr := B.returns
  have hts := atoms_spec (ws := w_Ac_hasRoomFor) B.pre
  have hG := fun (w : Cond) (h : w ∈ wG) => hts w (List.mem_cons_of_mem _ h)
  have hown : s.vm.findClass R_Ac = some m.cls := findClass_of_methodNamed B.named
  have hlocks := B.notSynchronized
  have hl := lv_entry ([.ref a, .long mg, .long me, .long ms]) (n := 7) (Nat.le_of_ble_eq_true rfl)
  rw [lg_entry_eq]
  generalize (lg_sl ([.ref a, .long mg, .long me, .long ms]) ++ List.replicate (7 - (lg_sl ([.ref a, .long mg, .long me, .long ms])).length) Slot.unset).toArray = ls at hl ⊢
  have hl : lv_has ls 7 [(0, .ref a), (1, .long mg), (3, .long me), (5, .long ms)] := hl
  refine lv_aload_n hx hb d_Ac_hasRoomFor_0 rfl (lv_at hl 0 rfl) ?_
  refine fw_get (D := (dC, dI)) (ci := 1) (v := .long a_g) (C := R_Ac) (T := F_Ac) (N := 6) hx hb hG iG_Ac hown hK hP hm_a he_a rfl 2 (by decide) (hG _ k_117) (fun _ h9 => h9) rfl d_Ac_hasRoomFor_1 ?_
  refine lv_lload_n hx hb d_Ac_hasRoomFor_4 rfl (lv_at hl 1 rfl) ?_
  refine lv_ladd hx hb d_Ac_hasRoomFor_5 ?_
  refine rd_calli (va_runSN (As := [.long (a_g + mg)]) (rest := []) ⟨hx, hb, hml, hown, hts⟩ (c_FB_isAmount l dC dI tys (va_pl L f) (a_g + mg)) ⟨va_cnB 1 hts (gd_c k_156) rfl rfl rfl (hN _ k_154) (hG _ k_14) (by decide +kernel) ⟨Nat.le_of_ble_eq_true rfl, Nat.le_of_ble_eq_true rfl⟩, (hG _ k_155), trivial⟩ (rd_preS hK hN hP) rfl rfl hl.1 rfl (lv_room (Nat.le_of_ble_eq_true rfl)) d_Ac_hasRoomFor_6 ⟨Nat.zero_le _, Nat.zero_le _⟩) (fun r_1 hr_1 => ?_)
  subst hr_1
  refine lb_if_eq (tgt := 58) hx hb d_Ac_hasRoomFor_9 (by decide) (fun c_2 => ?_) (fun c_2 => ?_)
  · refine lv_iconst (v := 0) hx hb d_Ac_hasRoomFor_58 (by decide) ?_
    exact W.zret (v := 0) (ty := .boolean) hx hb hr rfl (fun t ht hW => ⟨_, rfl, (by simp [bI, c_2]), ht⟩) (fun q h => by cases h) d_Ac_hasRoomFor_59
  · refine lv_aload_n hx hb d_Ac_hasRoomFor_12 rfl (lv_at hl 0 rfl) ?_
    refine fw_get (D := (dC, dI)) (ci := 1) (v := .long a_en) (C := R_Ac) (T := F_Ac) (N := 6) hx hb hG iG_Ac hown hK hP hm_a he_a rfl 3 (by decide) (hG _ k_121) (fun _ h9 => h9) rfl d_Ac_hasRoomFor_13 ?_
    refine lv_lload_n hx hb d_Ac_hasRoomFor_16 rfl (lv_at hl 2 rfl) ?_
    refine lv_ladd hx hb d_Ac_hasRoomFor_17 ?_
    refine rd_calli (va_runSN (As := [.long (a_en + me)]) (rest := []) ⟨hx, hb, hml, hown, hts⟩ (c_FB_isAmount l dC dI tys (va_pl L f) (a_en + me)) ⟨va_cnB 1 hts (gd_c k_156) rfl rfl rfl (hN _ k_154) (hG _ k_14) (by decide +kernel) ⟨Nat.le_of_ble_eq_true rfl, Nat.le_of_ble_eq_true rfl⟩, (hG _ k_155), trivial⟩ (rd_preS hK hN hP) rfl rfl hl.1 rfl (lv_room (Nat.le_of_ble_eq_true rfl)) d_Ac_hasRoomFor_18 ⟨Nat.zero_le _, Nat.zero_le _⟩) (fun r_3 hr_3 => ?_)
    subst hr_3
    refine lb_if_eq (tgt := 58) hx hb d_Ac_hasRoomFor_21 (by decide) (fun c_4 => ?_) (fun c_4 => ?_)
    · refine lv_iconst (v := 0) hx hb d_Ac_hasRoomFor_58 (by decide) ?_
      exact W.zret (v := 0) (ty := .boolean) hx hb hr rfl (fun t ht hW => ⟨_, rfl, (by simp [bI, c_2, c_4]), ht⟩) (fun q h => by cases h) d_Ac_hasRoomFor_59
    · refine lv_aload_n hx hb d_Ac_hasRoomFor_24 rfl (lv_at hl 0 rfl) ?_
      refine fw_get (D := (dC, dI)) (ci := 1) (v := .long a_sp) (C := R_Ac) (T := F_Ac) (N := 6) hx hb hG iG_Ac hown hK hP hm_a he_a rfl 4 (by decide) (hG _ k_124) (fun _ h9 => h9) rfl d_Ac_hasRoomFor_25 ?_
      refine lv_lload hx hb d_Ac_hasRoomFor_28 (lv_at hl 3 rfl) ?_
      refine lv_ladd hx hb d_Ac_hasRoomFor_30 ?_
      refine rd_calli (va_runSN (As := [.long (a_sp + ms)]) (rest := []) ⟨hx, hb, hml, hown, hts⟩ (c_FB_isAmount l dC dI tys (va_pl L f) (a_sp + ms)) ⟨va_cnB 1 hts (gd_c k_156) rfl rfl rfl (hN _ k_154) (hG _ k_14) (by decide +kernel) ⟨Nat.le_of_ble_eq_true rfl, Nat.le_of_ble_eq_true rfl⟩, (hG _ k_155), trivial⟩ (rd_preS hK hN hP) rfl rfl hl.1 rfl (lv_room (Nat.le_of_ble_eq_true rfl)) d_Ac_hasRoomFor_31 ⟨Nat.zero_le _, Nat.zero_le _⟩) (fun r_5 hr_5 => ?_)
      subst hr_5
      refine lb_if_eq (tgt := 58) hx hb d_Ac_hasRoomFor_34 (by decide) (fun c_6 => ?_) (fun c_6 => ?_)
      · refine lv_iconst (v := 0) hx hb d_Ac_hasRoomFor_58 (by decide) ?_
        exact W.zret (v := 0) (ty := .boolean) hx hb hr rfl (fun t ht hW => ⟨_, rfl, (by simp [bI, c_2, c_4, c_6]), ht⟩) (fun q h => by cases h) d_Ac_hasRoomFor_59
      · refine lv_aload_n hx hb d_Ac_hasRoomFor_37 rfl (lv_at hl 0 rfl) ?_
        refine rd_calll (va_runV (As := []) (rest := []) ⟨hx, hb, hml, hown, hts⟩ (c_Ac_free l dC dI tys L f a a_n a_cy a_g a_en a_sp a_pd hm_a he_a) (cwV 0 hts (gd_V k_159 k_160 k_161 k_18 k_162) rfl rfl rfl (by decide +kernel) ⟨Nat.le_of_ble_eq_true rfl, Nat.le_of_ble_eq_true rfl⟩) (fw_preV hK hN hP rfl hm_a he_a) rfl rfl hl.1 rfl (lv_room (Nat.le_of_ble_eq_true rfl)) d_Ac_hasRoomFor_38 ⟨Nat.zero_le _, Nat.zero_le _⟩) (fun r_7 hr_7 => ?_)
        subst hr_7
        refine lv_lload_n hx hb d_Ac_hasRoomFor_41 rfl (lv_at hl 1 rfl) ?_
        refine lv_ladd hx hb d_Ac_hasRoomFor_42 ?_
        refine lv_lload_n hx hb d_Ac_hasRoomFor_43 rfl (lv_at hl 2 rfl) ?_
        refine lv_lsub hx hb d_Ac_hasRoomFor_44 ?_
        refine lv_lload hx hb d_Ac_hasRoomFor_45 (lv_at hl 3 rfl) ?_
        refine lv_lsub hx hb d_Ac_hasRoomFor_47 ?_
        refine rd_calli (va_runSN (As := [.long ((((a_g - a_en - a_sp) + mg) - me) - ms)]) (rest := []) ⟨hx, hb, hml, hown, hts⟩ (c_FB_isAmount l dC dI tys (va_pl L f) ((((a_g - a_en - a_sp) + mg) - me) - ms)) ⟨va_cnB 1 hts (gd_c k_156) rfl rfl rfl (hN _ k_154) (hG _ k_14) (by decide +kernel) ⟨Nat.le_of_ble_eq_true rfl, Nat.le_of_ble_eq_true rfl⟩, (hG _ k_155), trivial⟩ (rd_preS hK hN hP) rfl rfl hl.1 rfl (lv_room (Nat.le_of_ble_eq_true rfl)) d_Ac_hasRoomFor_48 ⟨Nat.zero_le _, Nat.zero_le _⟩) (fun r_8 hr_8 => ?_)
        subst hr_8
        refine lb_if_eq (tgt := 58) hx hb d_Ac_hasRoomFor_51 (by decide) (fun c_9 => ?_) (fun c_9 => ?_)
        · refine lv_iconst (v := 0) hx hb d_Ac_hasRoomFor_58 (by decide) ?_
          exact W.zret (v := 0) (ty := .boolean) hx hb hr rfl (fun t ht hW => ⟨_, rfl, (by simp [bI, c_2, c_4, c_6, c_9]), ht⟩) (fun q h => by cases h) d_Ac_hasRoomFor_59
        · refine lv_iconst (v := 1) hx hb d_Ac_hasRoomFor_54 (by decide) ?_
          refine lv_goto (tgt := 59) hx hb d_Ac_hasRoomFor_55 (by decide) ?_
          exact W.zret (v := 1) (ty := .boolean) hx hb hr rfl (fun t ht hW => ⟨_, rfl, (by simp [bI, c_2, c_4, c_6, c_9]), ht⟩) (fun q h => by cases h) d_Ac_hasRoomFor_59

theorem d_Ac_carried_0 : decode b_Ac_carried 0 = .ok (.aload_n 0, 1) := by decide +kernel
theorem d_Ac_carried_1 : decode b_Ac_carried 1 = .ok (.invokevirtual 32, 3) := by decide +kernel
theorem d_Ac_carried_4 : decode b_Ac_carried 4 = .ok (.lstore_n 1, 1) := by decide +kernel
theorem d_Ac_carried_5 : decode b_Ac_carried 5 = .ok (.lload_n 1, 1) := by decide +kernel
theorem d_Ac_carried_6 : decode b_Ac_carried 6 = .ok (.lconst 0, 1) := by decide +kernel
theorem d_Ac_carried_7 : decode b_Ac_carried 7 = .ok (.lcmp, 1) := by decide +kernel
theorem d_Ac_carried_8 : decode b_Ac_carried 8 = .ok (.ifCond .lt 10, 3) := by decide +kernel
theorem d_Ac_carried_11 : decode b_Ac_carried 11 = .ok (.aload_n 0, 1) := by decide +kernel
theorem d_Ac_carried_12 : decode b_Ac_carried 12 = .ok (.getfield 15, 3) := by decide +kernel
theorem d_Ac_carried_15 : decode b_Ac_carried 15 = .ok (.ifCond .ne 5, 3) := by decide +kernel
theorem d_Ac_carried_18 : decode b_Ac_carried 18 = .ok (.lconst 0, 1) := by decide +kernel
theorem d_Ac_carried_19 : decode b_Ac_carried 19 = .ok (.lreturn, 1) := by decide +kernel
theorem d_Ac_carried_20 : decode b_Ac_carried 20 = .ok (.aload_n 0, 1) := by decide +kernel
theorem d_Ac_carried_21 : decode b_Ac_carried 21 = .ok (.getfield 15, 3) := by decide +kernel
theorem d_Ac_carried_24 : decode b_Ac_carried 24 = .ok (.iconst 2, 1) := by decide +kernel
theorem d_Ac_carried_25 : decode b_Ac_carried 25 = .ok (.if_icmp .ne 11, 3) := by decide +kernel
theorem d_Ac_carried_28 : decode b_Ac_carried 28 = .ok (.lload_n 1, 1) := by decide +kernel
theorem d_Ac_carried_29 : decode b_Ac_carried 29 = .ok (.ldc2_w 36, 3) := by decide +kernel
theorem d_Ac_carried_32 : decode b_Ac_carried 32 = .ok (.ldiv, 1) := by decide +kernel
theorem d_Ac_carried_33 : decode b_Ac_carried 33 = .ok (.goto 4, 3) := by decide +kernel
theorem d_Ac_carried_36 : decode b_Ac_carried 36 = .ok (.lload_n 1, 1) := by decide +kernel
theorem d_Ac_carried_37 : decode b_Ac_carried 37 = .ok (.lreturn, 1) := by decide +kernel
set_option maxHeartbeats 4000000 in
set_option maxRecDepth 100000 in
theorem c_Ac_carried (l : Launch) (dC : Nat → ClassId) (dI : Nat → Nat → Nat) (tys : List (ClassId × FieldType)) (L : List Nat) (f : Nat → va_E) (a : Nat) (a_n a_cy : Int32) (a_g a_en a_sp a_pd : Int64) (hm_a : a ∈ L) (he_a : f a = .inr (1, [.int a_n, .int a_cy, .long a_g, .long a_en, .long a_sp, .long a_pd])) : Met l y_Ac_carried w_Ac_carried { frames := 1, cells := 0, slots := 0, locals := 20 } (rd_P (dC, dI) classes tys (va_pl L f) [.ref a]) (vp_Sl (fun r => r = if a_g - a_en - a_sp < 0 ∨ a_cy = 0 then 0 else if a_cy = 2 then (a_g - a_en - a_sp) / 2 else a_g - a_en - a_sp)) 0 0 (fun _ => False) := by
  refine Met.ofW (cc := b_Ac_carried) (maxL := 3) (ret := (some .long)) (by decide) rfl ?_
  intro p e s m args below meth c s₁ B hml hv
  obtain ⟨rfl, hP, hK, hN⟩ := hv
  have hx := B.exec
  have hb := B.bytes
  have hr := B.returns
  have hts := atoms_spec (ws := w_Ac_carried) B.pre
  have hG := fun (w : Cond) (h : w ∈ wG) => hts w (List.mem_cons_of_mem _ h)
  have hown : s.vm.findClass R_Ac = some m.cls := findClass_of_methodNamed B.named
  have hlocks := B.notSynchronized
  have hl := lv_entry ([.ref a]) (n := 3) (Nat.le_of_ble_eq_true rfl)
  rw [lg_entry_eq]
  generalize (lg_sl ([.ref a]) ++ List.replicate (3 - (lg_sl ([.ref a])).length) Slot.unset).toArray = ls at hl ⊢
  have hl : lv_has ls 3 [(0, .ref a)] := hl
  refine lv_aload_n hx hb d_Ac_carried_0 rfl (lv_at hl 0 rfl) ?_
  refine rd_calll (va_runV (As := []) (rest := []) ⟨hx, hb, hml, hown, hts⟩ (c_Ac_free l dC dI tys L f a a_n a_cy a_g a_en a_sp a_pd hm_a he_a) (cwV 0 hts (gd_V k_159 k_160 k_161 k_18 k_162) rfl rfl rfl (by decide +kernel) ⟨Nat.le_of_ble_eq_true rfl, Nat.le_of_ble_eq_true rfl⟩) (fw_preV hK hN hP rfl hm_a he_a) rfl rfl hl.1 rfl (lv_room (Nat.le_of_ble_eq_true rfl)) d_Ac_carried_1 ⟨Nat.zero_le _, Nat.zero_le _⟩) (fun r_1 hr_1 => ?_)
  subst hr_1
  refine lv_lstore_n (lv' := [(1, .long (a_g - a_en - a_sp)), (0, .ref a)]) hx hb d_Ac_carried_4 rfl hl (by decide) rfl (fun ls hl => ?_)
  refine lv_lload_n hx hb d_Ac_carried_5 rfl (lv_at hl 0 rfl) ?_
  refine lv_lconst (v := 0) hx hb d_Ac_carried_6 (by decide) ?_
  refine lc_lt (tgt := 18) hx hb d_Ac_carried_7 d_Ac_carried_8 (by decide) (fun c_2 => ?_) (fun c_2 => ?_)
  · refine lv_lconst (v := 0) hx hb d_Ac_carried_18 (by decide) ?_
    exact W.lret (v := 0) hx hb hr (fun t ht hW => ⟨_, rfl, (by simp [bI, c_2]), ht⟩) (fun q h => by cases h) d_Ac_carried_19
  · refine lv_aload_n hx hb d_Ac_carried_11 rfl (lv_at hl 1 rfl) ?_
    refine fw_get (D := (dC, dI)) (ci := 1) (v := .int a_cy) (C := R_Ac) (T := F_Ac) (N := 6) hx hb hG iG_Ac hown hK hP hm_a he_a rfl 1 (by decide) (hG _ k_116) (fun _ h9 => h9) rfl d_Ac_carried_12 ?_
    refine lv_if_ne (tgt := 20) hx hb d_Ac_carried_15 (by decide) (fun c_3 => ?_) (fun c_3 => ?_)
    · refine lv_aload_n hx hb d_Ac_carried_20 rfl (lv_at hl 1 rfl) ?_
      refine fw_get (D := (dC, dI)) (ci := 1) (v := .int a_cy) (C := R_Ac) (T := F_Ac) (N := 6) hx hb hG iG_Ac hown hK hP hm_a he_a rfl 1 (by decide) (hG _ k_116) (fun _ h9 => h9) rfl d_Ac_carried_21 ?_
      refine lv_iconst (v := 2) hx hb d_Ac_carried_24 (by decide) ?_
      refine lv_icmp_ne (tgt := 36) hx hb d_Ac_carried_25 (by decide) (fun c_4 => ?_) (fun c_4 => ?_)
      · refine lv_lload_n hx hb d_Ac_carried_36 rfl (lv_at hl 0 rfl) ?_
        exact W.lret (v := (a_g - a_en - a_sp)) hx hb hr (fun t ht hW => ⟨_, rfl, (by simp [bI, c_2, c_3, c_4]), ht⟩) (fun q h => by cases h) d_Ac_carried_37
      · refine lv_lload_n hx hb d_Ac_carried_28 rfl (lv_at hl 0 rfl) ?_
        refine lv_ldc2 (own := R_Ac) (v := 2) hx hb hown (hG _ k_413) d_Ac_carried_29 ?_
        refine lv_ldiv hx hb d_Ac_carried_32 (by decide) ?_
        refine lv_goto (tgt := 37) hx hb d_Ac_carried_33 (by decide) ?_
        exact W.lret (v := ((a_g - a_en - a_sp) / 2)) hx hb hr (fun t ht hW => ⟨_, rfl, (by simp [bI, c_2, c_3, c_4]), ht⟩) (fun q h => by cases h) d_Ac_carried_37
    · refine lv_lconst (v := 0) hx hb d_Ac_carried_18 (by decide) ?_
      exact W.lret (v := 0) hx hb hr (fun t ht hW => ⟨_, rfl, (by simp [bI, c_2, c_3]), ht⟩) (fun q h => by cases h) d_Ac_carried_19
