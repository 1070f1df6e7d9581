theorem d_Mv_happensWithOneMore_0 : decode b_Mv_happensWithOneMore 0 = .ok (.aload_n 0, 1) := by decide +kernel
theorem d_Mv_happensWithOneMore_1 : decode b_Mv_happensWithOneMore 1 = .ok (.getfield 12, 3) := by decide +kernel
theorem d_Mv_happensWithOneMore_4 : decode b_Mv_happensWithOneMore 4 = .ok (.getfield 29, 3) := by decide +kernel
theorem d_Mv_happensWithOneMore_7 : decode b_Mv_happensWithOneMore 7 = .ok (.iconst 1, 1) := by decide +kernel
theorem d_Mv_happensWithOneMore_8 : decode b_Mv_happensWithOneMore 8 = .ok (.iadd, 1) := by decide +kernel
theorem d_Mv_happensWithOneMore_9 : decode b_Mv_happensWithOneMore 9 = .ok (.iconst 2, 1) := by decide +kernel
theorem d_Mv_happensWithOneMore_10 : decode b_Mv_happensWithOneMore 10 = .ok (.if_icmp .lt 23, 3) := by decide +kernel
theorem d_Mv_happensWithOneMore_13 : decode b_Mv_happensWithOneMore 13 = .ok (.aload_n 0, 1) := by decide +kernel
theorem d_Mv_happensWithOneMore_14 : decode b_Mv_happensWithOneMore 14 = .ok (.getfield 18, 3) := by decide +kernel
theorem d_Mv_happensWithOneMore_17 : decode b_Mv_happensWithOneMore 17 = .ok (.invokevirtual 32, 3) := by decide +kernel
theorem d_Mv_happensWithOneMore_20 : decode b_Mv_happensWithOneMore 20 = .ok (.aload_n 0, 1) := by decide +kernel
theorem d_Mv_happensWithOneMore_21 : decode b_Mv_happensWithOneMore 21 = .ok (.getfield 25, 3) := by decide +kernel
theorem d_Mv_happensWithOneMore_24 : decode b_Mv_happensWithOneMore 24 = .ok (.i2l, 1) := by decide +kernel
theorem d_Mv_happensWithOneMore_25 : decode b_Mv_happensWithOneMore 25 = .ok (.lcmp, 1) := by decide +kernel
theorem d_Mv_happensWithOneMore_26 : decode b_Mv_happensWithOneMore 26 = .ok (.ifCond .lt 7, 3) := by decide +kernel
theorem d_Mv_happensWithOneMore_29 : decode b_Mv_happensWithOneMore 29 = .ok (.iconst 1, 1) := by decide +kernel
theorem d_Mv_happensWithOneMore_30 : decode b_Mv_happensWithOneMore 30 = .ok (.goto 4, 3) := by decide +kernel
theorem d_Mv_happensWithOneMore_33 : decode b_Mv_happensWithOneMore 33 = .ok (.iconst 0, 1) := by decide +kernel
theorem d_Mv_happensWithOneMore_34 : decode b_Mv_happensWithOneMore 34 = .ok (.ireturn, 1) := by decide +kernel
set_option maxHeartbeats 4000000 in
set_option maxRecDepth 100000 in
theorem c_Mv_happensWithOneMore (l : Launch) (dC : Nat → ClassId) (dI : Nat → Nat → Nat) (tys : List (ClassId × FieldType)) (L : List Nat) (f : Nat → va_E) (mv : Nat) (a : Nat) (q : Nat) (mv_ct : Int32) (mv_tg : Nat) (mv_hp : Bool) (a_n a_cy : Int32) (a_g a_en a_sp a_pd : Int64) (q_ct : Int32) (q_lo q_hi : Int64) (hm_mv : mv ∈ L) (he_mv : f mv = .inr (3, [.ref a, .ref mv_tg, .int mv_ct, .ref q, .int (bI mv_hp)])) (hm_a : a ∈ L) (he_a : f a = .inr (1, [.int a_n, .int a_cy, .long a_g, .long a_en, .long a_sp, .long a_pd])) (hm_q : q ∈ L) (he_q : f q = .inr (4, [.long q_lo, .long q_hi, .int q_ct])) : Met l y_Mv_happensWithOneMore w_Mv_happensWithOneMore { frames := 1, cells := 0, slots := 0, locals := 20 } (rd_P (dC, dI) classes tys (va_pl L f) [.ref mv]) (vp_Si (fun r => r = bI (decide (¬ q_ct + 1 < 2) && decide (¬ a_g - a_en - a_sp < mv_ct.toInt64)))) 0 0 (fun _ => False) := by
  refine Met.ofW (cc := b_Mv_happensWithOneMore) (maxL := 1) (ret := (some .boolean)) (by decide) rfl ?_
  intro p e s m args below meth c s₁ B hml hv
  obtain ⟨rfl, hP, hK, hN⟩ := hv
  have hx := B.exec
  have hb := B.bytes
  have hr := B.returns
  have hts := atoms_spec (ws := w_Mv_happensWithOneMore) B.pre
  have hG := fun (w : Cond) (h : w ∈ wG) => hts w (List.mem_cons_of_mem _ h)
  have hown : s.vm.findClass R_Mv = some m.cls := findClass_of_methodNamed B.named
  have hlocks := B.notSynchronized
  have hl := lv_entry ([.ref mv]) (n := 1) (Nat.le_of_ble_eq_true rfl)
  rw [lg_entry_eq]
  generalize (lg_sl ([.ref mv]) ++ List.replicate (1 - (lg_sl ([.ref mv])).length) Slot.unset).toArray = ls at hl ⊢
  have hl : lv_has ls 1 [(0, .ref mv)] := hl
  refine lv_aload_n hx hb d_Mv_happensWithOneMore_0 rfl (lv_at hl 0 rfl) ?_
  refine fw_get (D := (dC, dI)) (ci := 3) (v := .ref q) (C := R_Mv) (T := F_Mv) (N := 5) hx hb hG iG_Mv hown hK hP hm_mv he_mv rfl 3 (by decide) (hG _ k_346) (fun _ h9 => h9) rfl d_Mv_happensWithOneMore_1 ?_
  refine fw_getN (D := (dC, dI)) (ci := 4) (v := .int q_ct) (C := R_Ap) (T := F_Ap) (N := 3) hx hb hG iG_Ap hown hK hP hm_q he_q rfl 2 (by decide) (hN.use k_181) (fun _ h9 => h9) rfl d_Mv_happensWithOneMore_4 ?_
  refine lv_iconst (v := 1) hx hb d_Mv_happensWithOneMore_7 (by decide) ?_
  refine lv_iadd hx hb d_Mv_happensWithOneMore_8 ?_
  refine lv_iconst (v := 2) hx hb d_Mv_happensWithOneMore_9 (by decide) ?_
  refine lv_icmp_lt (tgt := 33) hx hb d_Mv_happensWithOneMore_10 (by decide) (fun c_1 => ?_) (fun c_1 => ?_)
  · refine lv_iconst (v := 0) hx hb d_Mv_happensWithOneMore_33 (by decide) ?_
    exact W.zret (v := 0) (ty := .boolean) hx hb hr rfl (fun t ht hW => ⟨_, rfl, (by simp [bI, c_1]), ht⟩) (fun q h => by cases h) d_Mv_happensWithOneMore_34
  · refine lv_aload_n hx hb d_Mv_happensWithOneMore_13 rfl (lv_at hl 0 rfl) ?_
    refine fw_get (D := (dC, dI)) (ci := 3) (v := .ref a) (C := R_Mv) (T := F_Mv) (N := 5) hx hb hG iG_Mv hown hK hP hm_mv he_mv rfl 0 (by decide) (hG _ k_343) (fun _ h9 => h9) rfl d_Mv_happensWithOneMore_14 ?_
    refine rd_calll (va_runV (As := []) (rest := []) ⟨hx, hb, hml, hown, hts⟩ (c_Ac_free l dC dI tys L f a a_n a_cy a_g a_en a_sp a_pd hm_a he_a) (cwV 0 hts (gd_V k_373 k_160 k_161 k_18 k_162) rfl rfl rfl (by decide +kernel) ⟨Nat.le_of_ble_eq_true rfl, Nat.le_of_ble_eq_true rfl⟩) (fw_preV hK hN hP rfl hm_a he_a) rfl rfl hl.1 rfl (lv_room (Nat.le_of_ble_eq_true rfl)) d_Mv_happensWithOneMore_17 ⟨Nat.zero_le _, Nat.zero_le _⟩) (fun r_2 hr_2 => ?_)
    subst hr_2
    refine lv_aload_n hx hb d_Mv_happensWithOneMore_20 rfl (lv_at hl 0 rfl) ?_
    refine fw_get (D := (dC, dI)) (ci := 3) (v := .int mv_ct) (C := R_Mv) (T := F_Mv) (N := 5) hx hb hG iG_Mv hown hK hP hm_mv he_mv rfl 2 (by decide) (hG _ k_345) (fun _ h9 => h9) rfl d_Mv_happensWithOneMore_21 ?_
    refine lv_i2l hx hb d_Mv_happensWithOneMore_24 rfl ?_
    refine lc_lt (tgt := 33) hx hb d_Mv_happensWithOneMore_25 d_Mv_happensWithOneMore_26 (by decide) (fun c_3 => ?_) (fun c_3 => ?_)
    · refine lv_iconst (v := 0) hx hb d_Mv_happensWithOneMore_33 (by decide) ?_
      exact W.zret (v := 0) (ty := .boolean) hx hb hr rfl (fun t ht hW => ⟨_, rfl, (by simp [bI, c_1, c_3]), ht⟩) (fun q h => by cases h) d_Mv_happensWithOneMore_34
    · refine lv_iconst (v := 1) hx hb d_Mv_happensWithOneMore_29 (by decide) ?_
      refine lv_goto (tgt := 34) hx hb d_Mv_happensWithOneMore_30 (by decide) ?_
      exact W.zret (v := 1) (ty := .boolean) hx hb hr rfl (fun t ht hW => ⟨_, rfl, (by simp [bI, c_1, c_3]), ht⟩) (fun q h => by cases h) d_Mv_happensWithOneMore_34

theorem d_Mv_hasRoom_0 : decode b_Mv_hasRoom 0 = .ok (.aload_n 0, 1) := by decide +kernel
theorem d_Mv_hasRoom_1 : decode b_Mv_hasRoom 1 = .ok (.getfield 18, 3) := by decide +kernel
theorem d_Mv_hasRoom_4 : decode b_Mv_hasRoom 4 = .ok (.aload_n 0, 1) := by decide +kernel
theorem d_Mv_hasRoom_5 : decode b_Mv_hasRoom 5 = .ok (.getfield 25, 3) := by decide +kernel
theorem d_Mv_hasRoom_8 : decode b_Mv_hasRoom 8 = .ok (.ineg, 1) := by decide +kernel
theorem d_Mv_hasRoom_9 : decode b_Mv_hasRoom 9 = .ok (.i2l, 1) := by decide +kernel
theorem d_Mv_hasRoom_10 : decode b_Mv_hasRoom 10 = .ok (.lconst 0, 1) := by decide +kernel
theorem d_Mv_hasRoom_11 : decode b_Mv_hasRoom 11 = .ok (.lconst 0, 1) := by decide +kernel
theorem d_Mv_hasRoom_12 : decode b_Mv_hasRoom 12 = .ok (.invokevirtual 38, 3) := by decide +kernel
theorem d_Mv_hasRoom_15 : decode b_Mv_hasRoom 15 = .ok (.ifCond .eq 24, 3) := by decide +kernel
theorem d_Mv_hasRoom_18 : decode b_Mv_hasRoom 18 = .ok (.aload_n 0, 1) := by decide +kernel
theorem d_Mv_hasRoom_19 : decode b_Mv_hasRoom 19 = .ok (.getfield 22, 3) := by decide +kernel
theorem d_Mv_hasRoom_22 : decode b_Mv_hasRoom 22 = .ok (.aload_n 0, 1) := by decide +kernel
theorem d_Mv_hasRoom_23 : decode b_Mv_hasRoom 23 = .ok (.getfield 25, 3) := by decide +kernel
theorem d_Mv_hasRoom_26 : decode b_Mv_hasRoom 26 = .ok (.i2l, 1) := by decide +kernel
theorem d_Mv_hasRoom_27 : decode b_Mv_hasRoom 27 = .ok (.lconst 0, 1) := by decide +kernel
theorem d_Mv_hasRoom_28 : decode b_Mv_hasRoom 28 = .ok (.lconst 0, 1) := by decide +kernel
theorem d_Mv_hasRoom_29 : decode b_Mv_hasRoom 29 = .ok (.invokevirtual 38, 3) := by decide +kernel
theorem d_Mv_hasRoom_32 : decode b_Mv_hasRoom 32 = .ok (.ifCond .eq 7, 3) := by decide +kernel
theorem d_Mv_hasRoom_35 : decode b_Mv_hasRoom 35 = .ok (.iconst 1, 1) := by decide +kernel
theorem d_Mv_hasRoom_36 : decode b_Mv_hasRoom 36 = .ok (.goto 4, 3) := by decide +kernel
theorem d_Mv_hasRoom_39 : decode b_Mv_hasRoom 39 = .ok (.iconst 0, 1) := by decide +kernel
theorem d_Mv_hasRoom_40 : decode b_Mv_hasRoom 40 = .ok (.ireturn, 1) := by decide +kernel
set_option maxHeartbeats 4000000 in
set_option maxRecDepth 100000 in
theorem c_Mv_hasRoom (l : Launch) (dC : Nat → ClassId) (dI : Nat → Nat → Nat) (tys : List (ClassId × FieldType)) (L : List Nat) (f : Nat → va_E) (mv : Nat) (a : Nat) (b : Nat) (mv_ct : Int32) (mv_ap : Nat) (mv_hp : Bool) (a_n a_cy : Int32) (a_g a_en a_sp a_pd : Int64) (b_n b_cy : Int32) (b_g b_en b_sp b_pd : Int64) (hm_mv : mv ∈ L) (he_mv : f mv = .inr (3, [.ref a, .ref b, .int mv_ct, .ref mv_ap, .int (bI mv_hp)])) (hm_a : a ∈ L) (he_a : f a = .inr (1, [.int a_n, .int a_cy, .long a_g, .long a_en, .long a_sp, .long a_pd])) (hm_b : b ∈ L) (he_b : f b = .inr (1, [.int b_n, .int b_cy, .long b_g, .long b_en, .long b_sp, .long b_pd])) : Met l y_Mv_hasRoom w_Mv_hasRoom { frames := 3, cells := 0, slots := 0, locals := 72 } (rd_P (dC, dI) classes tys (va_pl L f) [.ref mv]) (vp_Si (fun r => r = bI ((bnd (a_g + (-mv_ct).toInt64) && bnd (a_en + 0) && bnd (a_sp + 0) && bnd (a_g - a_en - a_sp + (-mv_ct).toInt64 - 0 - 0)) && (bnd (b_g + mv_ct.toInt64) && bnd (b_en + 0) && bnd (b_sp + 0) && bnd (b_g - b_en - b_sp + mv_ct.toInt64 - 0 - 0))))) 0 0 (fun _ => False) := by
  refine Met.ofW (cc := b_Mv_hasRoom) (maxL := 1) (ret := (some .boolean)) (by decide) rfl ?_
  intro p e s m args below meth c s₁ B hml hv
  obtain ⟨rfl, hP, hK, hN⟩ := hv
  have hx := B.exec
  have hb := B.bytes
  have hr := B.returns
  have hts := atoms_spec (ws := w_Mv_hasRoom) B.pre
  have hG := fun (w : Cond) (h : w ∈ wG) => hts w (List.mem_cons_of_mem _ h)
  have hown : s.vm.findClass R_Mv = some m.cls := findClass_of_methodNamed B.named
  have hlocks := B.notSynchronized
  have hl := lv_entry ([.ref mv]) (n := 1) (Nat.le_of_ble_eq_true rfl)
  rw [lg_entry_eq]
  generalize (lg_sl ([.ref mv]) ++ List.replicate (1 - (lg_sl ([.ref mv])).length) Slot.unset).toArray = ls at hl ⊢
  have hl : lv_has ls 1 [(0, .ref mv)] := hl
  refine lv_aload_n hx hb d_Mv_hasRoom_0 rfl (lv_at hl 0 rfl) ?_
  refine fw_get (D := (dC, dI)) (ci := 3) (v := .ref a) (C := R_Mv) (T := F_Mv) (N := 5) hx hb hG iG_Mv hown hK hP hm_mv he_mv rfl 0 (by decide) (hG _ k_343) (fun _ h9 => h9) rfl d_Mv_hasRoom_1 ?_
  refine lv_aload_n hx hb d_Mv_hasRoom_4 rfl (lv_at hl 0 rfl) ?_
  refine fw_get (D := (dC, dI)) (ci := 3) (v := .int mv_ct) (C := R_Mv) (T := F_Mv) (N := 5) hx hb hG iG_Mv hown hK hP hm_mv he_mv rfl 2 (by decide) (hG _ k_345) (fun _ h9 => h9) rfl d_Mv_hasRoom_5 ?_
  refine lv_ineg hx hb d_Mv_hasRoom_8 ?_
  refine lv_i2l hx hb d_Mv_hasRoom_9 rfl ?_
  refine lv_lconst (v := 0) hx hb d_Mv_hasRoom_10 (by decide) ?_
  refine lv_lconst (v := 0) hx hb d_Mv_hasRoom_11 (by decide) ?_
  refine rd_calli (va_runV (As := [.long ((-mv_ct).toInt64), .long 0, .long 0]) (rest := []) ⟨hx, hb, hml, hown, hts⟩ (c_Ac_hasRoomFor l dC dI tys L f a a_n a_cy a_g a_en a_sp a_pd ((-mv_ct).toInt64) 0 0 hm_a he_a) (cwV 3 hts (gd_V k_378 k_151 k_152 k_18 k_153) rfl rfl rfl (by decide +kernel) ⟨Nat.le_of_ble_eq_true rfl, Nat.le_of_ble_eq_true rfl⟩) (fw_preV hK hN hP rfl hm_a he_a) rfl rfl hl.1 rfl (lv_room (Nat.le_of_ble_eq_true rfl)) d_Mv_hasRoom_12 ⟨Nat.zero_le _, Nat.zero_le _⟩) (fun r_1 hr_1 => ?_)
  subst hr_1
  refine lb_if_eq (tgt := 39) hx hb d_Mv_hasRoom_15 (by decide) (fun c_2 => ?_) (fun c_2 => ?_)
  · refine lv_iconst (v := 0) hx hb d_Mv_hasRoom_39 (by decide) ?_
    exact W.zret (v := 0) (ty := .boolean) hx hb hr rfl (fun t ht hW => ⟨_, rfl, (by rw [c_2] <;> rfl), ht⟩) (fun q h => by cases h) d_Mv_hasRoom_40
  · refine lv_aload_n hx hb d_Mv_hasRoom_18 rfl (lv_at hl 0 rfl) ?_
    refine fw_get (D := (dC, dI)) (ci := 3) (v := .ref b) (C := R_Mv) (T := F_Mv) (N := 5) hx hb hG iG_Mv hown hK hP hm_mv he_mv rfl 1 (by decide) (hG _ k_344) (fun _ h9 => h9) rfl d_Mv_hasRoom_19 ?_
    refine lv_aload_n hx hb d_Mv_hasRoom_22 rfl (lv_at hl 0 rfl) ?_
    refine fw_get (D := (dC, dI)) (ci := 3) (v := .int mv_ct) (C := R_Mv) (T := F_Mv) (N := 5) hx hb hG iG_Mv hown hK hP hm_mv he_mv rfl 2 (by decide) (hG _ k_345) (fun _ h9 => h9) rfl d_Mv_hasRoom_23 ?_
    refine lv_i2l hx hb d_Mv_hasRoom_26 rfl ?_
    refine lv_lconst (v := 0) hx hb d_Mv_hasRoom_27 (by decide) ?_
    refine lv_lconst (v := 0) hx hb d_Mv_hasRoom_28 (by decide) ?_
    refine rd_calli (va_runV (As := [.long (mv_ct.toInt64), .long 0, .long 0]) (rest := []) ⟨hx, hb, hml, hown, hts⟩ (c_Ac_hasRoomFor l dC dI tys L f b b_n b_cy b_g b_en b_sp b_pd (mv_ct.toInt64) 0 0 hm_b he_b) (cwV 3 hts (gd_V k_378 k_151 k_152 k_18 k_153) rfl rfl rfl (by decide +kernel) ⟨Nat.le_of_ble_eq_true rfl, Nat.le_of_ble_eq_true rfl⟩) (fw_preV hK hN hP rfl hm_b he_b) rfl rfl hl.1 rfl (lv_room (Nat.le_of_ble_eq_true rfl)) d_Mv_hasRoom_29 ⟨Nat.zero_le _, Nat.zero_le _⟩) (fun r_3 hr_3 => ?_)
    subst hr_3
    refine lb_if_eq (tgt := 39) hx hb d_Mv_hasRoom_32 (by decide) (fun c_4 => ?_) (fun c_4 => ?_)
    · refine lv_iconst (v := 0) hx hb d_Mv_hasRoom_39 (by decide) ?_
      exact W.zret (v := 0) (ty := .boolean) hx hb hr rfl (fun t ht hW => ⟨_, rfl, (by rw [c_2, c_4] <;> rfl), ht⟩) (fun q h => by cases h) d_Mv_hasRoom_40
    · refine lv_iconst (v := 1) hx hb d_Mv_hasRoom_35 (by decide) ?_
      refine lv_goto (tgt := 40) hx hb d_Mv_hasRoom_36 (by decide) ?_
      exact W.zret (v := 1) (ty := .boolean) hx hb hr rfl (fun t ht hW => ⟨_, rfl, (by rw [c_2, c_4] <;> rfl), ht⟩) (fun q h => by cases h) d_Mv_hasRoom_40
