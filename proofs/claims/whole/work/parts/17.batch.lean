theorem d_Ra_inHouse_0 : decode b_Ra_inHouse 0 = .ok (.iload_n 1, 1) := by decide +kernel
theorem d_Ra_inHouse_1 : decode b_Ra_inHouse 1 = .ok (.i2l, 1) := by decide +kernel
theorem d_Ra_inHouse_2 : decode b_Ra_inHouse 2 = .ok (.aload_n 0, 1) := by decide +kernel
theorem d_Ra_inHouse_3 : decode b_Ra_inHouse 3 = .ok (.getfield 13, 3) := by decide +kernel
theorem d_Ra_inHouse_6 : decode b_Ra_inHouse 6 = .ok (.i2l, 1) := by decide +kernel
theorem d_Ra_inHouse_7 : decode b_Ra_inHouse 7 = .ok (.lmul, 1) := by decide +kernel
theorem d_Ra_inHouse_8 : decode b_Ra_inHouse 8 = .ok (.aload_n 0, 1) := by decide +kernel
theorem d_Ra_inHouse_9 : decode b_Ra_inHouse 9 = .ok (.getfield 22, 3) := by decide +kernel
theorem d_Ra_inHouse_12 : decode b_Ra_inHouse 12 = .ok (.i2l, 1) := by decide +kernel
theorem d_Ra_inHouse_13 : decode b_Ra_inHouse 13 = .ok (.ldiv, 1) := by decide +kernel
theorem d_Ra_inHouse_14 : decode b_Ra_inHouse 14 = .ok (.lreturn, 1) := by decide +kernel
set_option maxHeartbeats 4000000 in
set_option maxRecDepth 100000 in
theorem c_Ra_inHouse (l : Launch) (dC : Nat → ClassId) (dI : Nat → Nat → Nat) (tys : List (ClassId × FieldType)) (L : List Nat) (f : Nat → va_E) (ra : Nat) (ra_dy ra_up ra_dn ra_rk : Int32) (ra_ea : Option Nat) (ct : Int32) (hm_ra : ra ∈ L) (he_ra : f ra = .inr (5, [.int ra_dy, .int ra_up, .int ra_dn, va_rf ra_ea, .int ra_rk])) (hdn : ¬ ra_dn.toInt64 = 0) : Met l y_Ra_inHouse w_Ra_inHouse { frames := 0, cells := 0, slots := 0, locals := 0 } (rd_P (dC, dI) classes tys (va_pl L f) [.ref ra, .int ct]) (vp_Sl (fun r => r = ct.toInt64 * ra_up.toInt64 / ra_dn.toInt64)) 0 0 (fun _ => False) := by
  refine Met.ofW (cc := b_Ra_inHouse) (maxL := 2) (ret := (some .long)) (by decide) rfl ?_
  intro p e s m args below meth c s₁ B hml hv
  obtain ⟨rfl, hP, hK, hN⟩ := hv
  have hx := B.exec
  have hb := B.bytes
  have hr := B.returns
  have hts := atoms_spec (ws := w_Ra_inHouse) B.pre
  have hG := fun (w : Cond) (h : w ∈ wG) => hts w (List.mem_cons_of_mem _ h)
  have hown : s.vm.findClass R_Ra = some m.cls := findClass_of_methodNamed B.named
  have hlocks := B.notSynchronized
  have hl := lv_entry ([.ref ra, .int ct]) (n := 2) (Nat.le_of_ble_eq_true rfl)
  rw [lg_entry_eq]
  generalize (lg_sl ([.ref ra, .int ct]) ++ List.replicate (2 - (lg_sl ([.ref ra, .int ct])).length) Slot.unset).toArray = ls at hl ⊢
  have hl : lv_has ls 2 [(0, .ref ra), (1, .int ct)] := hl
  refine lv_iload_n hx hb d_Ra_inHouse_0 rfl (lv_at hl 1 rfl) ?_
  refine lv_i2l hx hb d_Ra_inHouse_1 rfl ?_
  refine lv_aload_n hx hb d_Ra_inHouse_2 rfl (lv_at hl 0 rfl) ?_
  refine fw_get (D := (dC, dI)) (ci := 5) (v := .int ra_up) (C := R_Ra) (T := F_Ra) (N := 5) hx hb hG iG_Ra hown hK hP hm_ra he_ra rfl 1 (by decide) (hG _ k_315) (fun _ h9 => h9) rfl d_Ra_inHouse_3 ?_
  refine lv_i2l hx hb d_Ra_inHouse_6 rfl ?_
  refine lv_lmul hx hb d_Ra_inHouse_7 ?_
  refine lv_aload_n hx hb d_Ra_inHouse_8 rfl (lv_at hl 0 rfl) ?_
  refine fw_get (D := (dC, dI)) (ci := 5) (v := .int ra_dn) (C := R_Ra) (T := F_Ra) (N := 5) hx hb hG iG_Ra hown hK hP hm_ra he_ra rfl 2 (by decide) (hG _ k_316) (fun _ h9 => h9) rfl d_Ra_inHouse_9 ?_
  refine lv_i2l hx hb d_Ra_inHouse_12 rfl ?_
  refine lv_ldiv hx hb d_Ra_inHouse_13 hdn ?_
  exact W.lret (v := (((ct.toInt64) * (ra_up.toInt64)) / (ra_dn.toInt64))) hx hb hr (fun t ht hW => ⟨_, rfl, rfl, ht⟩) (fun q h => by cases h) d_Ra_inHouse_14

theorem d_Ba_isFull_0 : decode b_Ba_isFull 0 = .ok (.aload_n 0, 1) := by decide +kernel
theorem d_Ba_isFull_1 : decode b_Ba_isFull 1 = .ok (.getfield 17, 3) := by decide +kernel
theorem d_Ba_isFull_4 : decode b_Ba_isFull 4 = .ok (.aload_n 0, 1) := by decide +kernel
theorem d_Ba_isFull_5 : decode b_Ba_isFull 5 = .ok (.getfield 11, 3) := by decide +kernel
theorem d_Ba_isFull_8 : decode b_Ba_isFull 8 = .ok (.arraylength, 1) := by decide +kernel
theorem d_Ba_isFull_9 : decode b_Ba_isFull 9 = .ok (.if_icmp .lt 7, 3) := by decide +kernel
theorem d_Ba_isFull_12 : decode b_Ba_isFull 12 = .ok (.iconst 1, 1) := by decide +kernel
theorem d_Ba_isFull_13 : decode b_Ba_isFull 13 = .ok (.goto 4, 3) := by decide +kernel
theorem d_Ba_isFull_16 : decode b_Ba_isFull 16 = .ok (.iconst 0, 1) := by decide +kernel
theorem d_Ba_isFull_17 : decode b_Ba_isFull 17 = .ok (.ireturn, 1) := by decide +kernel
set_option maxHeartbeats 4000000 in
set_option maxRecDepth 100000 in
theorem c_Ba_isFull (l : Launch) (dC : Nat → ClassId) (dI : Nat → Nat → Nat) (tys : List (ClassId × FieldType)) (L : List Nat) (f : Nat → va_E) (t : Nat) (x : Nat) (t_ct : Int32) (t_tt : Int64) (x_c : ClassId) (x_g : Nat → Option Nat) (hm_t : t ∈ L) (he_t : f t = .inr (6, [.ref x, .int t_ct, .long t_tt])) (hm_x : x ∈ L) (he_x : f x = .inl (x_c, 20, .inr (.inr (.inr (.inr x_g))))) (ht_x : tys[4]? = some (x_c, .object "FundBook$Account")) : Met l y_Ba_isFull w_Ba_isFull { frames := 0, cells := 0, slots := 0, locals := 0 } (rd_P (dC, dI) classes tys (va_pl L f) [.ref t]) (vp_Si (fun r => r = bI (decide (¬ t_ct < nI 20)))) 0 0 (fun _ => False) := by
  refine Met.ofW (cc := b_Ba_isFull) (maxL := 1) (ret := (some .boolean)) (by decide) rfl ?_
  intro p e s m args below meth c s₁ B hml hv
  obtain ⟨rfl, hP, hK, hN⟩ := hv
  have hx := B.exec
  have hb := B.bytes
  have hr := B.returns
  have hts := atoms_spec (ws := w_Ba_isFull) B.pre
  have hG := fun (w : Cond) (h : w ∈ wG) => hts w (List.mem_cons_of_mem _ h)
  have hown : s.vm.findClass R_Ba = some m.cls := findClass_of_methodNamed B.named
  have hlocks := B.notSynchronized
  have hl := lv_entry ([.ref t]) (n := 1) (Nat.le_of_ble_eq_true rfl)
  rw [lg_entry_eq]
  generalize (lg_sl ([.ref t]) ++ List.replicate (1 - (lg_sl ([.ref t])).length) Slot.unset).toArray = ls at hl ⊢
  have hl : lv_has ls 1 [(0, .ref t)] := hl
  refine lv_aload_n hx hb d_Ba_isFull_0 rfl (lv_at hl 0 rfl) ?_
  refine fw_get (D := (dC, dI)) (ci := 6) (v := .int t_ct) (C := R_Ba) (T := F_Ba) (N := 3) hx hb hG iG_Ba hown hK hP hm_t he_t rfl 1 (by decide) (hG _ k_51) (fun _ h9 => h9) rfl d_Ba_isFull_1 ?_
  refine lv_aload_n hx hb d_Ba_isFull_4 rfl (lv_at hl 0 rfl) ?_
  refine fw_get (D := (dC, dI)) (ci := 6) (v := .ref x) (C := R_Ba) (T := F_Ba) (N := 3) hx hb hG iG_Ba hown hK hP hm_t he_t rfl 0 (by decide) (hG _ k_50) (fun _ h9 => h9) rfl d_Ba_isFull_5 ?_
  refine fw_alen (D := (dC, dI)) (v := nI 20) hx hb hK hP hm_x 4 he_x ht_x rfl d_Ba_isFull_8 ?_
  refine lv_icmp_lt (tgt := 16) hx hb d_Ba_isFull_9 (by decide) (fun c_1 => ?_) (fun c_1 => ?_)
  · refine lv_iconst (v := 0) hx hb d_Ba_isFull_16 (by decide) ?_
    exact W.zret (v := 0) (ty := .boolean) hx hb hr rfl (fun t ht hW => ⟨_, rfl, (by simp [bI, c_1]), ht⟩) (fun q h => by cases h) d_Ba_isFull_17
  · refine lv_iconst (v := 1) hx hb d_Ba_isFull_12 (by decide) ?_
    refine lv_goto (tgt := 17) hx hb d_Ba_isFull_13 (by decide) ?_
    exact W.zret (v := 1) (ty := .boolean) hx hb hr rfl (fun t ht hW => ⟨_, rfl, (by simp [bI, c_1]), ht⟩) (fun q h => by cases h) d_Ba_isFull_17
