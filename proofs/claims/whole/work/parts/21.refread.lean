theorem d_Mo_in_0 : decode b_Mo_in 0 = .ok (.lload_n 0, 1) := by decide +kernel
theorem d_Mo_in_1 : decode b_Mo_in 1 = .ok (.lload_n 2, 1) := by decide +kernel
theorem d_Mo_in_2 : decode b_Mo_in 2 = .ok (.lcmp, 1) := by decide +kernel
theorem d_Mo_in_3 : decode b_Mo_in 3 = .ok (.ifCond .lt 14, 3) := by decide +kernel
theorem d_Mo_in_6 : decode b_Mo_in 6 = .ok (.lload_n 0, 1) := by decide +kernel
theorem d_Mo_in_7 : decode b_Mo_in 7 = .ok (.lload 4, 2) := by decide +kernel
theorem d_Mo_in_9 : decode b_Mo_in 9 = .ok (.lcmp, 1) := by decide +kernel
theorem d_Mo_in_10 : decode b_Mo_in 10 = .ok (.ifCond .gt 7, 3) := by decide +kernel
theorem d_Mo_in_13 : decode b_Mo_in 13 = .ok (.iconst 1, 1) := by decide +kernel
theorem d_Mo_in_14 : decode b_Mo_in 14 = .ok (.goto 4, 3) := by decide +kernel
theorem d_Mo_in_17 : decode b_Mo_in 17 = .ok (.iconst 0, 1) := by decide +kernel
theorem d_Mo_in_18 : decode b_Mo_in 18 = .ok (.ireturn, 1) := by decide +kernel
set_option maxHeartbeats 4000000 in
set_option maxRecDepth 100000 in
theorem c_Mo_in (l : Launch) (dC : Nat → ClassId) (dI : Nat → Nat → Nat) (tys : List (ClassId × FieldType)) (ws : va_W) (v : Int64) (lo : Int64) (hi : Int64) : Met l y_Mo_in w_Mo_in { frames := 0, cells := 0, slots := 0, locals := 0 } (rd_P (dC, dI) classes tys ws [.long v, .long lo, .long hi]) (vp_Si (fun r => r = bI (iw v lo hi))) 0 0 (fun _ => False) := by
  refine Met.ofW (cc := b_Mo_in) (maxL := 6) (ret := (some .boolean)) (by decide) rfl ?_
  intro p e s m args below meth c s₁ B hml hv
  obtain ⟨rfl, hP, hK, hN⟩ := hv
  have hx := B.exec
  have hb := B.bytes
  have hr := B.returns
  have hts := atoms_spec (ws := w_Mo_in) B.pre
  have hG := fun (w : Cond) (h : w ∈ wG) => hts w (List.mem_cons_of_mem _ h)
  have hown : s.vm.findClass R_Mo = some m.cls := findClass_of_methodNamed B.named
  have hlocks := B.notSynchronized
  have hl := lv_entry ([.long v, .long lo, .long hi]) (n := 6) (Nat.le_of_ble_eq_true rfl)
  rw [lg_entry_eq]
  generalize (lg_sl ([.long v, .long lo, .long hi]) ++ List.replicate (6 - (lg_sl ([.long v, .long lo, .long hi])).length) Slot.unset).toArray = ls at hl ⊢
  have hl : lv_has ls 6 [(0, .long v), (2, .long lo), (4, .long hi)] := hl
  refine lv_lload_n hx hb d_Mo_in_0 rfl (lv_at hl 0 rfl) ?_
  refine lv_lload_n hx hb d_Mo_in_1 rfl (lv_at hl 1 rfl) ?_
  refine lc_lt (tgt := 17) hx hb d_Mo_in_2 d_Mo_in_3 (by decide) (fun c_1 => ?_) (fun c_1 => ?_)
  · refine lv_iconst (v := 0) hx hb d_Mo_in_17 (by decide) ?_
    exact W.zret (v := 0) (ty := .boolean) hx hb hr rfl (fun t ht hW => ⟨_, rfl, (by simp [iw, bI, c_1]), ht⟩) (fun q h => by cases h) d_Mo_in_18
  · refine lv_lload_n hx hb d_Mo_in_6 rfl (lv_at hl 0 rfl) ?_
    refine lv_lload hx hb d_Mo_in_7 (lv_at hl 2 rfl) ?_
    refine lc_gt (tgt := 17) hx hb d_Mo_in_9 d_Mo_in_10 (by decide) (fun c_2 => ?_) (fun c_2 => ?_)
    · refine lv_iconst (v := 0) hx hb d_Mo_in_17 (by decide) ?_
      exact W.zret (v := 0) (ty := .boolean) hx hb hr rfl (fun t ht hW => ⟨_, rfl, (by simp [iw, bI, c_1, c_2]), ht⟩) (fun q h => by cases h) d_Mo_in_18
    · refine lv_iconst (v := 1) hx hb d_Mo_in_13 (by decide) ?_
      refine lv_goto (tgt := 18) hx hb d_Mo_in_14 (by decide) ?_
      exact W.zret (v := 1) (ty := .boolean) hx hb hr rfl (fun t ht hW => ⟨_, rfl, (by simp [iw, bI, c_1, c_2]), ht⟩) (fun q h => by cases h) d_Mo_in_18

theorem d_Mo_isBound_0 : decode b_Mo_isBound 0 = .ok (.lload_n 0, 1) := by decide +kernel
theorem d_Mo_isBound_1 : decode b_Mo_isBound 1 = .ok (.ldc2_w 108, 3) := by decide +kernel
theorem d_Mo_isBound_4 : decode b_Mo_isBound 4 = .ok (.ldc2_w 110, 3) := by decide +kernel
theorem d_Mo_isBound_7 : decode b_Mo_isBound 7 = .ok (.invokestatic 97, 3) := by decide +kernel
theorem d_Mo_isBound_10 : decode b_Mo_isBound 10 = .ok (.ireturn, 1) := by decide +kernel
set_option maxHeartbeats 4000000 in
set_option maxRecDepth 100000 in
theorem c_Mo_isBound (l : Launch) (dC : Nat → ClassId) (dI : Nat → Nat → Nat) (tys : List (ClassId × FieldType)) (ws : va_W) (v : Int64) : Met l y_Mo_isBound w_Mo_isBound { frames := 1, cells := 0, slots := 0, locals := 25 } (rd_P (dC, dI) classes tys ws [.long v]) (vp_Si (fun r => r = bI (bnd v))) 0 0 (fun _ => False) := by
  refine Met.ofW (cc := b_Mo_isBound) (maxL := 2) (ret := (some .boolean)) (by decide) rfl ?_
  intro p e s m args below meth c s₁ B hml hv
  obtain ⟨rfl, hP, hK, hN⟩ := hv
  have hx := B.exec
  have hb := B.bytes
  have hr := B.returns
  have hts := atoms_spec (ws := w_Mo_isBound) B.pre
  have hG := fun (w : Cond) (h : w ∈ wG) => hts w (List.mem_cons_of_mem _ h)
  have hown : s.vm.findClass R_Mo = some m.cls := findClass_of_methodNamed B.named
  have hlocks := B.notSynchronized
  have hl := lv_entry ([.long v]) (n := 2) (Nat.le_of_ble_eq_true rfl)
  rw [lg_entry_eq]
  generalize (lg_sl ([.long v]) ++ List.replicate (2 - (lg_sl ([.long v])).length) Slot.unset).toArray = ls at hl ⊢
  have hl : lv_has ls 2 [(0, .long v)] := hl
  refine lv_lload_n hx hb d_Mo_isBound_0 rfl (lv_at hl 0 rfl) ?_
  refine lv_ldc2 (own := R_Mo) (v := (-1000000000000000)) hx hb hown (hG _ k_652) d_Mo_isBound_1 ?_
  refine lv_ldc2 (own := R_Mo) (v := 1000000000000000) hx hb hown (hG _ k_653) d_Mo_isBound_4 ?_
  refine rd_calli (va_runS (As := [.long v, .long (-1000000000000000), .long 1000000000000000]) (rest := []) ⟨hx, hb, hml, hown, hts⟩ (c_Mo_in l dC dI tys ws v (-1000000000000000) 1000000000000000) (cwS 3 hts (gd_S k_629 k_630 k_17 k_631) rfl rfl rfl (by decide +kernel) ⟨Nat.le_of_ble_eq_true rfl, Nat.le_of_ble_eq_true rfl⟩) (rd_preS hK hN hP) rfl rfl hl.1 rfl (lv_room (Nat.le_of_ble_eq_true rfl)) d_Mo_isBound_7 ⟨Nat.zero_le _, Nat.zero_le _⟩) (fun r_1 hr_1 => ?_)
  subst hr_1
  exact W.zret (v := (bI (iw v (-1000000000000000) 1000000000000000))) (ty := .boolean) hx hb hr (bI_nar _) (fun t ht hW => ⟨_, rfl, rfl, ht⟩) (fun q h => by cases h) d_Mo_isBound_10

theorem d_Mo_thrown_0 : decode b_Mo_thrown 0 = .ok (.aload_n 0, 1) := by decide +kernel
theorem d_Mo_thrown_1 : decode b_Mo_thrown 1 = .ok (.getfield 91, 3) := by decide +kernel
theorem d_Mo_thrown_4 : decode b_Mo_thrown 4 = .ok (.ireturn, 1) := by decide +kernel
set_option maxHeartbeats 4000000 in
set_option maxRecDepth 100000 in
theorem c_Mo_thrown (l : Launch) (dC : Nat → ClassId) (dI : Nat → Nat → Nat) (ad : Nat → Nat) (cA : Nat → ClassId) (th yr : Int32) (nf no nt : Nat) (bd : Int32) (nb : Nat) (fl : Int32) (AI : Nat → Nat → Int32) (AN : Nat → Nat → Nat) (AB : Nat → Nat → Bool) (AL : Nat → Nat → Int64) : Met l y_Mo_thrown w_Mo_thrown { frames := 0, cells := 0, slots := 0, locals := 0 } (rd_P (dC, dI) classes (mtys cA) (mw ad cA th yr nf no nt bd nb fl AI AN AB AL) [.ref (ad 0)]) (vp_Si (fun r => r = th)) 0 0 (fun _ => False) := by
  refine Met.ofW (cc := b_Mo_thrown) (maxL := 1) (ret := (some .int)) (by decide) rfl ?_
  intro p e s m args below meth c s₁ B hml hv
  obtain ⟨rfl, hP, hK, hN⟩ := hv
  have hx := B.exec
  have hb := B.bytes
  have hr := B.returns
  have hts := atoms_spec (ws := w_Mo_thrown) B.pre
  have hG := fun (w : Cond) (h : w ∈ wG) => hts w (List.mem_cons_of_mem _ h)
  have hown : s.vm.findClass R_Mo = some m.cls := findClass_of_methodNamed B.named
  have hlocks := B.notSynchronized
  have hl := lv_entry ([.ref (ad 0)]) (n := 1) (Nat.le_of_ble_eq_true rfl)
  rw [lg_entry_eq]
  generalize (lg_sl ([.ref (ad 0)]) ++ List.replicate (1 - (lg_sl ([.ref (ad 0)])).length) Slot.unset).toArray = ls at hl ⊢
  have hl : lv_has ls 1 [(0, .ref (ad 0))] := hl
  refine lv_aload_n hx hb d_Mo_thrown_0 rfl (lv_at hl 0 rfl) ?_
  refine va_get (D := (dC, dI)) (ci := 7) (v := .int th) (C := R_Mo) (T := F_Mo) (N := 31) hx hb hG iG_Mo hown hK hP 0 rfl rfl 0 (by decide) (hG _ k_523) (fun _ h9 => h9) rfl d_Mo_thrown_1 ?_
  exact W.iret (v := th) hx hb hr (fun t ht hW => ⟨_, rfl, rfl, ht⟩) (fun q h => by cases h) d_Mo_thrown_4

theorem d_Mo_isFund_0 : decode b_Mo_isFund 0 = .ok (.iload_n 1, 1) := by decide +kernel
theorem d_Mo_isFund_1 : decode b_Mo_isFund 1 = .ok (.i2l, 1) := by decide +kernel
theorem d_Mo_isFund_2 : decode b_Mo_isFund 2 = .ok (.lconst 0, 1) := by decide +kernel
theorem d_Mo_isFund_3 : decode b_Mo_isFund 3 = .ok (.aload_n 0, 1) := by decide +kernel
theorem d_Mo_isFund_4 : decode b_Mo_isFund 4 = .ok (.getfield 94, 3) := by decide +kernel
theorem d_Mo_isFund_7 : decode b_Mo_isFund 7 = .ok (.iconst 1, 1) := by decide +kernel
theorem d_Mo_isFund_8 : decode b_Mo_isFund 8 = .ok (.isub, 1) := by decide +kernel
theorem d_Mo_isFund_9 : decode b_Mo_isFund 9 = .ok (.i2l, 1) := by decide +kernel
theorem d_Mo_isFund_10 : decode b_Mo_isFund 10 = .ok (.invokestatic 97, 3) := by decide +kernel
theorem d_Mo_isFund_13 : decode b_Mo_isFund 13 = .ok (.ireturn, 1) := by decide +kernel
set_option maxHeartbeats 4000000 in
set_option maxRecDepth 100000 in
theorem c_Mo_isFund (l : Launch) (dC : Nat → ClassId) (dI : Nat → Nat → Nat) (ad : Nat → Nat) (cA : Nat → ClassId) (th yr : Int32) (nf no nt : Nat) (bd : Int32) (nb : Nat) (fl : Int32) (AI : Nat → Nat → Int32) (AN : Nat → Nat → Nat) (AB : Nat → Nat → Bool) (AL : Nat → Nat → Int64) (fd : Int32) : Met l y_Mo_isFund w_Mo_isFund { frames := 1, cells := 0, slots := 0, locals := 25 } (rd_P (dC, dI) classes (mtys cA) (mw ad cA th yr nf no nt bd nb fl AI AN AB AL) [.ref (ad 0), .int fd]) (vp_Si (fun r => r = bI (inN fd nf))) 0 0 (fun _ => False) := by
  refine Met.ofW (cc := b_Mo_isFund) (maxL := 2) (ret := (some .boolean)) (by decide) rfl ?_
  intro p e s m args below meth c s₁ B hml hv
  obtain ⟨rfl, hP, hK, hN⟩ := hv
  have hx := B.exec
  have hb := B.bytes
  have hr := B.returns
  have hts := atoms_spec (ws := w_Mo_isFund) B.pre
  have hG := fun (w : Cond) (h : w ∈ wG) => hts w (List.mem_cons_of_mem _ h)
  have hown : s.vm.findClass R_Mo = some m.cls := findClass_of_methodNamed B.named
  have hlocks := B.notSynchronized
  have hl := lv_entry ([.ref (ad 0), .int fd]) (n := 2) (Nat.le_of_ble_eq_true rfl)
  rw [lg_entry_eq]
  generalize (lg_sl ([.ref (ad 0), .int fd]) ++ List.replicate (2 - (lg_sl ([.ref (ad 0), .int fd])).length) Slot.unset).toArray = ls at hl ⊢
  have hl : lv_has ls 2 [(0, .ref (ad 0)), (1, .int fd)] := hl
  refine lv_iload_n hx hb d_Mo_isFund_0 rfl (lv_at hl 1 rfl) ?_
  refine lv_i2l hx hb d_Mo_isFund_1 rfl ?_
  refine lv_lconst (v := 0) hx hb d_Mo_isFund_2 (by decide) ?_
  refine lv_aload_n hx hb d_Mo_isFund_3 rfl (lv_at hl 0 rfl) ?_
  refine va_get (D := (dC, dI)) (ci := 7) (v := .int (nI nf)) (C := R_Mo) (T := F_Mo) (N := 31) hx hb hG iG_Mo hown hK hP 0 rfl rfl 2 (by decide) (hG _ k_525) (fun _ h9 => h9) rfl d_Mo_isFund_4 ?_
  refine lv_iconst (v := 1) hx hb d_Mo_isFund_7 (by decide) ?_
  refine lv_isub hx hb d_Mo_isFund_8 ?_
  refine lv_i2l hx hb d_Mo_isFund_9 rfl ?_
  refine rd_calli (va_runS (As := [.long (fd.toInt64), .long 0, .long ((nI nf - 1).toInt64)]) (rest := []) ⟨hx, hb, hml, hown, hts⟩ (c_Mo_in l dC dI (mtys cA) (mw ad cA th yr nf no nt bd nb fl AI AN AB AL) (fd.toInt64) 0 ((nI nf - 1).toInt64)) (cwS 3 hts (gd_S k_629 k_630 k_17 k_631) rfl rfl rfl (by decide +kernel) ⟨Nat.le_of_ble_eq_true rfl, Nat.le_of_ble_eq_true rfl⟩) (rd_preS hK hN hP) rfl rfl hl.1 rfl (lv_room (Nat.le_of_ble_eq_true rfl)) d_Mo_isFund_10 ⟨Nat.zero_le _, Nat.zero_le _⟩) (fun r_1 hr_1 => ?_)
  subst hr_1
  exact W.zret (v := (bI (iw (fd.toInt64) 0 ((nI nf - 1).toInt64)))) (ty := .boolean) hx hb hr (bI_nar _) (fun t ht hW => ⟨_, rfl, rfl, ht⟩) (fun q h => by cases h) d_Mo_isFund_13

theorem d_Mo_encumbered_0 : decode b_Mo_encumbered 0 = .ok (.lconst 0, 1) := by decide +kernel
theorem d_Mo_encumbered_1 : decode b_Mo_encumbered 1 = .ok (.lstore_n 2, 1) := by decide +kernel
theorem d_Mo_encumbered_2 : decode b_Mo_encumbered 2 = .ok (.iconst 0, 1) := by decide +kernel
theorem d_Mo_encumbered_3 : decode b_Mo_encumbered 3 = .ok (.istore 4, 2) := by decide +kernel
theorem d_Mo_encumbered_5 : decode b_Mo_encumbered 5 = .ok (.iload 4, 2) := by decide +kernel
theorem d_Mo_encumbered_7 : decode b_Mo_encumbered 7 = .ok (.aload_n 0, 1) := by decide +kernel
theorem d_Mo_encumbered_8 : decode b_Mo_encumbered 8 = .ok (.getfield 101, 3) := by decide +kernel
theorem d_Mo_encumbered_11 : decode b_Mo_encumbered 11 = .ok (.if_icmp .ge 46, 3) := by decide +kernel
theorem d_Mo_encumbered_14 : decode b_Mo_encumbered 14 = .ok (.lload_n 2, 1) := by decide +kernel
theorem d_Mo_encumbered_15 : decode b_Mo_encumbered 15 = .ok (.aload_n 0, 1) := by decide +kernel
theorem d_Mo_encumbered_16 : decode b_Mo_encumbered 16 = .ok (.getfield 20, 3) := by decide +kernel
theorem d_Mo_encumbered_19 : decode b_Mo_encumbered 19 = .ok (.iload 4, 2) := by decide +kernel
theorem d_Mo_encumbered_21 : decode b_Mo_encumbered 21 = .ok (.iaload, 1) := by decide +kernel
theorem d_Mo_encumbered_22 : decode b_Mo_encumbered 22 = .ok (.iload_n 1, 1) := by decide +kernel
theorem d_Mo_encumbered_23 : decode b_Mo_encumbered 23 = .ok (.if_icmp .ne 25, 3) := by decide +kernel
theorem d_Mo_encumbered_26 : decode b_Mo_encumbered 26 = .ok (.aload_n 0, 1) := by decide +kernel
theorem d_Mo_encumbered_27 : decode b_Mo_encumbered 27 = .ok (.getfield 30, 3) := by decide +kernel
theorem d_Mo_encumbered_30 : decode b_Mo_encumbered 30 = .ok (.iload 4, 2) := by decide +kernel
theorem d_Mo_encumbered_32 : decode b_Mo_encumbered 32 = .ok (.iaload, 1) := by decide +kernel
theorem d_Mo_encumbered_33 : decode b_Mo_encumbered 33 = .ok (.iconst 1, 1) := by decide +kernel
theorem d_Mo_encumbered_34 : decode b_Mo_encumbered 34 = .ok (.if_icmp .ne 14, 3) := by decide +kernel
theorem d_Mo_encumbered_37 : decode b_Mo_encumbered 37 = .ok (.aload_n 0, 1) := by decide +kernel
theorem d_Mo_encumbered_38 : decode b_Mo_encumbered 38 = .ok (.getfield 23, 3) := by decide +kernel
theorem d_Mo_encumbered_41 : decode b_Mo_encumbered 41 = .ok (.iload 4, 2) := by decide +kernel
theorem d_Mo_encumbered_43 : decode b_Mo_encumbered 43 = .ok (.iaload, 1) := by decide +kernel
theorem d_Mo_encumbered_44 : decode b_Mo_encumbered 44 = .ok (.i2l, 1) := by decide +kernel
theorem d_Mo_encumbered_45 : decode b_Mo_encumbered 45 = .ok (.goto 4, 3) := by decide +kernel
theorem d_Mo_encumbered_48 : decode b_Mo_encumbered 48 = .ok (.lconst 0, 1) := by decide +kernel
theorem d_Mo_encumbered_49 : decode b_Mo_encumbered 49 = .ok (.ladd, 1) := by decide +kernel
theorem d_Mo_encumbered_50 : decode b_Mo_encumbered 50 = .ok (.lstore_n 2, 1) := by decide +kernel
theorem d_Mo_encumbered_51 : decode b_Mo_encumbered 51 = .ok (.iinc 4 1, 3) := by decide +kernel
theorem d_Mo_encumbered_54 : decode b_Mo_encumbered 54 = .ok (.goto (-49), 3) := by decide +kernel
theorem d_Mo_encumbered_57 : decode b_Mo_encumbered 57 = .ok (.lload_n 2, 1) := by decide +kernel
theorem d_Mo_encumbered_58 : decode b_Mo_encumbered 58 = .ok (.lreturn, 1) := by decide +kernel
set_option maxHeartbeats 4000000 in
set_option maxRecDepth 100000 in
theorem lp_Mo_encumbered {p : Program} {l : Launch} {e : Env} {s : State} {m : MethodId} {args : Array Value} {below : List Frame} {meth : Method} {c : Code} {Q : State → Prop} {R : Room} {H : Heap} {locs : List Loc} {cells slots : Nat} {dC : Nat → ClassId} {dI : Nat → Nat → Nat} {ad : Nat → Nat} {cA : Nat → ClassId} {th yr : Int32} {nf no nt : Nat} {bd : Int32} {nb : Nat} {fl : Int32} {AI : Nat → Nat → Int32} {AN : Nat → Nat → Nat} {AB : Nat → Nat → Bool} {AL : Nat → Nat → Int64} (hx : p.tables.exec = Jvm.exec) (hb : c.code = b_Mo_encumbered) (hml : c.maxLocals = 5) (hown : s.vm.findClass R_Mo = some m.cls) (hts : ∀ w ∈ w_Mo_encumbered, w.before args s = true) (hK : va_K (dC, dI) classes (mtys cA) s) (hP : va_P (dC, dI) classes (mw ad cA th yr nf no nt bd nb fl AI AN AB AL) H) (hno : no ≤ 300) (fd : Int32)
    (exit : ∀ ls : Array Slot, lv_has ls 5 [(4, .int (nI no)), (2, .long (m_enc AI AN no fd)), (0, .ref (ad 0)), (1, .int fd)] → W p l e R s m args below meth c H locs cells slots Q (F0 m 57 ls [])) :
    ∀ n i : Nat, i ≤ no → no + 1 ≤ i + n → ∀ ls : Array Slot, lv_has ls 5 [(4, .int (nI i)), (2, .long (m_enc AI AN i fd)), (0, .ref (ad 0)), (1, .int fd)] → W p l e R s m args below meth c H locs cells slots Q (F0 m 5 ls []) := by
  have hG := fun (w : Cond) (h : w ∈ wG) => hts w (List.mem_cons_of_mem _ h)
  intro n
  induction n with
  | zero =>
    intro i h1 h2
    omega
  | succ n ih =>
    intro i hi hin ls hl
    refine lv_iload hx hb d_Mo_encumbered_5 (lv_at hl 0 rfl) ?_
    refine lv_aload_n hx hb d_Mo_encumbered_7 rfl (lv_at hl 2 rfl) ?_
    refine va_get (D := (dC, dI)) (ci := 7) (v := .int (nI no)) (C := R_Mo) (T := F_Mo) (N := 31) hx hb hG iG_Mo hown hK hP 0 rfl rfl 6 (by decide) (hG _ k_529) (fun _ h9 => h9) rfl d_Mo_encumbered_8 ?_
    refine lv_icmp_ge (tgt := 57) hx hb d_Mo_encumbered_11 (by decide) (fun c_1 => ?_) (fun c_1 => ?_)
    · obtain rfl : i = no := by have := (nI_leI (by omega) (by omega)).mp c_1; omega
      exact exit ls (lv_sub hl [0, 1, 2, 3] rfl)
    · have hlt : i < no := by have h9 := c_1; rw [nI_leI (by omega) (by omega)] at h9; omega
      refine lv_lload_n hx hb d_Mo_encumbered_14 rfl (lv_at hl 1 rfl) ?_
      refine lv_aload_n hx hb d_Mo_encumbered_15 rfl (lv_at hl 2 rfl) ?_
      refine va_get (D := (dC, dI)) (ci := 7) (v := .ref (ad 4)) (C := R_Mo) (T := F_Mo) (N := 31) hx hb hG iG_Mo hown hK hP 0 rfl rfl 7 (by decide) (hG _ k_530) (fun _ h9 => h9) rfl d_Mo_encumbered_16 ?_
      refine lv_iload hx hb d_Mo_encumbered_19 (lv_at hl 0 rfl) ?_
      refine rn_iald (n := 300) (j := i) (g := AN 4) hx hb hK hP 4 3 rfl rfl (by omega) (by decide) d_Mo_encumbered_21 ?_
      refine lv_iload_n hx hb d_Mo_encumbered_22 rfl (lv_at hl 3 rfl) ?_
      refine lv_icmp_ne (tgt := 48) hx hb d_Mo_encumbered_23 (by decide) (fun c_2 => ?_) (fun c_2 => ?_)
      · refine lv_lconst (v := 0) hx hb d_Mo_encumbered_48 (by decide) ?_
        refine lv_ladd hx hb d_Mo_encumbered_49 ?_
        refine lv_topL (y := m_enc AI AN (i + 1) fd) (by simp [m_enc, sumL, c_2]) ?_
        refine lv_lstore_n (lv' := [(2, .long (m_enc AI AN (i + 1) fd)), (4, .int (nI i)), (0, .ref (ad 0)), (1, .int fd)]) hx hb d_Mo_encumbered_50 rfl hl (by decide) rfl (fun ls hl => ?_)
        refine lv_iinc (v := nI (i + 1)) (lv' := [(4, .int (nI (i + 1))), (2, .long (m_enc AI AN (i + 1) fd)), (0, .ref (ad 0)), (1, .int fd)]) hx hb d_Mo_encumbered_51 hl (k := 1) rfl (nI_1 i) (by decide) rfl (fun ls hl => ?_)
        refine lv_goto (tgt := 5) hx hb d_Mo_encumbered_54 (by decide) ?_
        exact ih (i + 1) (by omega) (by omega) ls (lv_sub hl [0, 1, 2, 3] rfl)
      · refine lv_aload_n hx hb d_Mo_encumbered_26 rfl (lv_at hl 2 rfl) ?_
        refine va_get (D := (dC, dI)) (ci := 7) (v := .ref (ad 7)) (C := R_Mo) (T := F_Mo) (N := 31) hx hb hG iG_Mo hown hK hP 0 rfl rfl 10 (by decide) (hG _ k_533) (fun _ h9 => h9) rfl d_Mo_encumbered_27 ?_
        refine lv_iload hx hb d_Mo_encumbered_30 (lv_at hl 0 rfl) ?_
        refine ra_iald (n := 300) (j := i) (f := AI 7) hx hb hK hP 7 6 rfl rfl (by omega) (by decide) d_Mo_encumbered_32 ?_
        refine lv_iconst (v := 1) hx hb d_Mo_encumbered_33 (by decide) ?_
        refine lv_icmp_ne (tgt := 48) hx hb d_Mo_encumbered_34 (by decide) (fun c_3 => ?_) (fun c_3 => ?_)
        · refine lv_lconst (v := 0) hx hb d_Mo_encumbered_48 (by decide) ?_
          refine lv_ladd hx hb d_Mo_encumbered_49 ?_
          refine lv_topL (y := m_enc AI AN (i + 1) fd) (by simp [m_enc, sumL, c_2, c_3]) ?_
          refine lv_lstore_n (lv' := [(2, .long (m_enc AI AN (i + 1) fd)), (4, .int (nI i)), (0, .ref (ad 0)), (1, .int fd)]) hx hb d_Mo_encumbered_50 rfl hl (by decide) rfl (fun ls hl => ?_)
          refine lv_iinc (v := nI (i + 1)) (lv' := [(4, .int (nI (i + 1))), (2, .long (m_enc AI AN (i + 1) fd)), (0, .ref (ad 0)), (1, .int fd)]) hx hb d_Mo_encumbered_51 hl (k := 1) rfl (nI_1 i) (by decide) rfl (fun ls hl => ?_)
          refine lv_goto (tgt := 5) hx hb d_Mo_encumbered_54 (by decide) ?_
          exact ih (i + 1) (by omega) (by omega) ls (lv_sub hl [0, 1, 2, 3] rfl)
        · refine lv_aload_n hx hb d_Mo_encumbered_37 rfl (lv_at hl 2 rfl) ?_
          refine va_get (D := (dC, dI)) (ci := 7) (v := .ref (ad 5)) (C := R_Mo) (T := F_Mo) (N := 31) hx hb hG iG_Mo hown hK hP 0 rfl rfl 8 (by decide) (hG _ k_531) (fun _ h9 => h9) rfl d_Mo_encumbered_38 ?_
          refine lv_iload hx hb d_Mo_encumbered_41 (lv_at hl 0 rfl) ?_
          refine ra_iald (n := 300) (j := i) (f := AI 5) hx hb hK hP 5 4 rfl rfl (by omega) (by decide) d_Mo_encumbered_43 ?_
          refine lv_i2l hx hb d_Mo_encumbered_44 rfl ?_
          refine lv_goto (tgt := 49) hx hb d_Mo_encumbered_45 (by decide) ?_
          refine lv_ladd hx hb d_Mo_encumbered_49 ?_
          refine lv_topL (y := m_enc AI AN (i + 1) fd) (by simp [m_enc, sumL, c_2, c_3]) ?_
          refine lv_lstore_n (lv' := [(2, .long (m_enc AI AN (i + 1) fd)), (4, .int (nI i)), (0, .ref (ad 0)), (1, .int fd)]) hx hb d_Mo_encumbered_50 rfl hl (by decide) rfl (fun ls hl => ?_)
          refine lv_iinc (v := nI (i + 1)) (lv' := [(4, .int (nI (i + 1))), (2, .long (m_enc AI AN (i + 1) fd)), (0, .ref (ad 0)), (1, .int fd)]) hx hb d_Mo_encumbered_51 hl (k := 1) rfl (nI_1 i) (by decide) rfl (fun ls hl => ?_)
          refine lv_goto (tgt := 5) hx hb d_Mo_encumbered_54 (by decide) ?_
          exact ih (i + 1) (by omega) (by omega) ls (lv_sub hl [0, 1, 2, 3] rfl)
set_option maxHeartbeats 4000000 in
set_option maxRecDepth 100000 in
theorem c_Mo_encumbered (l : Launch) (dC : Nat → ClassId) (dI : Nat → Nat → Nat) (ad : Nat → Nat) (cA : Nat → ClassId) (th yr : Int32) (nf no nt : Nat) (bd : Int32) (nb : Nat) (fl : Int32) (AI : Nat → Nat → Int32) (AN : Nat → Nat → Nat) (AB : Nat → Nat → Bool) (AL : Nat → Nat → Int64) (fd : Int32) (hno : no ≤ 300) : Met l y_Mo_encumbered w_Mo_encumbered { frames := 0, cells := 0, slots := 0, locals := 0 } (rd_P (dC, dI) classes (mtys cA) (mw ad cA th yr nf no nt bd nb fl AI AN AB AL) [.ref (ad 0), .int fd]) (vp_Sl (fun r => r = m_enc AI AN no fd)) 0 0 (fun _ => False) := by
  refine Met.ofW (cc := b_Mo_encumbered) (maxL := 5) (ret := (some .long)) (by decide) rfl ?_
  intro p e s m args below meth c s₁ B hml hv
  obtain ⟨rfl, hP, hK, hN⟩ := hv
  have hx := B.exec
  have hb := B.bytes
  have hr := B.returns
  have hts := atoms_spec (ws := w_Mo_encumbered) B.pre
  have hG := fun (w : Cond) (h : w ∈ wG) => hts w (List.mem_cons_of_mem _ h)
  have hown : s.vm.findClass R_Mo = some m.cls := findClass_of_methodNamed B.named
  have hlocks := B.notSynchronized
  have hl := lv_entry ([.ref (ad 0), .int fd]) (n := 5) (Nat.le_of_ble_eq_true rfl)
  rw [lg_entry_eq]
  generalize (lg_sl ([.ref (ad 0), .int fd]) ++ List.replicate (5 - (lg_sl ([.ref (ad 0), .int fd])).length) Slot.unset).toArray = ls at hl ⊢
  have hl : lv_has ls 5 [(0, .ref (ad 0)), (1, .int fd)] := hl
  refine lv_lconst (v := 0) hx hb d_Mo_encumbered_0 (by decide) ?_
  refine lv_lstore_n (lv' := [(2, .long 0), (0, .ref (ad 0)), (1, .int fd)]) hx hb d_Mo_encumbered_1 rfl hl (by decide) rfl (fun ls hl => ?_)
  refine lv_iconst (v := 0) hx hb d_Mo_encumbered_2 (by decide) ?_
  refine lv_istore (lv' := [(4, .int 0), (2, .long 0), (0, .ref (ad 0)), (1, .int fd)]) hx hb d_Mo_encumbered_3 hl (by decide) rfl (fun ls hl => ?_)
  refine lp_Mo_encumbered hx hb hml hown hts hK hP hno fd (fun ls hl => ?_) (no + 1) 0 (by omega) (by omega) ls (lv_sub hl [0, 1, 2, 3] rfl)
  refine lv_lload_n hx hb d_Mo_encumbered_57 rfl (lv_at hl 1 rfl) ?_
  exact W.lret (v := (m_enc AI AN no fd)) hx hb hr (fun t ht hW => ⟨_, rfl, rfl, ht⟩) (fun q h => by cases h) d_Mo_encumbered_58

theorem d_Mo_batched_0 : decode b_Mo_batched 0 = .ok (.lconst 0, 1) := by decide +kernel
theorem d_Mo_batched_1 : decode b_Mo_batched 1 = .ok (.lstore_n 2, 1) := by decide +kernel
theorem d_Mo_batched_2 : decode b_Mo_batched 2 = .ok (.iconst 0, 1) := by decide +kernel
theorem d_Mo_batched_3 : decode b_Mo_batched 3 = .ok (.istore 4, 2) := by decide +kernel
theorem d_Mo_batched_5 : decode b_Mo_batched 5 = .ok (.iload 4, 2) := by decide +kernel
theorem d_Mo_batched_7 : decode b_Mo_batched 7 = .ok (.aload_n 0, 1) := by decide +kernel
theorem d_Mo_batched_8 : decode b_Mo_batched 8 = .ok (.getfield 164, 3) := by decide +kernel
theorem d_Mo_batched_11 : decode b_Mo_batched 11 = .ok (.if_icmp .ge 35, 3) := by decide +kernel
theorem d_Mo_batched_14 : decode b_Mo_batched 14 = .ok (.lload_n 2, 1) := by decide +kernel
theorem d_Mo_batched_15 : decode b_Mo_batched 15 = .ok (.aload_n 0, 1) := by decide +kernel
theorem d_Mo_batched_16 : decode b_Mo_batched 16 = .ok (.getfield 79, 3) := by decide +kernel
theorem d_Mo_batched_19 : decode b_Mo_batched 19 = .ok (.iload 4, 2) := by decide +kernel
theorem d_Mo_batched_21 : decode b_Mo_batched 21 = .ok (.iaload, 1) := by decide +kernel
theorem d_Mo_batched_22 : decode b_Mo_batched 22 = .ok (.iload_n 1, 1) := by decide +kernel
theorem d_Mo_batched_23 : decode b_Mo_batched 23 = .ok (.if_icmp .ne 14, 3) := by decide +kernel
theorem d_Mo_batched_26 : decode b_Mo_batched 26 = .ok (.aload_n 0, 1) := by decide +kernel
theorem d_Mo_batched_27 : decode b_Mo_batched 27 = .ok (.getfield 82, 3) := by decide +kernel
theorem d_Mo_batched_30 : decode b_Mo_batched 30 = .ok (.iload 4, 2) := by decide +kernel
theorem d_Mo_batched_32 : decode b_Mo_batched 32 = .ok (.iaload, 1) := by decide +kernel
theorem d_Mo_batched_33 : decode b_Mo_batched 33 = .ok (.i2l, 1) := by decide +kernel
theorem d_Mo_batched_34 : decode b_Mo_batched 34 = .ok (.goto 4, 3) := by decide +kernel
theorem d_Mo_batched_37 : decode b_Mo_batched 37 = .ok (.lconst 0, 1) := by decide +kernel
theorem d_Mo_batched_38 : decode b_Mo_batched 38 = .ok (.ladd, 1) := by decide +kernel
theorem d_Mo_batched_39 : decode b_Mo_batched 39 = .ok (.lstore_n 2, 1) := by decide +kernel
theorem d_Mo_batched_40 : decode b_Mo_batched 40 = .ok (.iinc 4 1, 3) := by decide +kernel
theorem d_Mo_batched_43 : decode b_Mo_batched 43 = .ok (.goto (-38), 3) := by decide +kernel
theorem d_Mo_batched_46 : decode b_Mo_batched 46 = .ok (.lload_n 2, 1) := by decide +kernel
theorem d_Mo_batched_47 : decode b_Mo_batched 47 = .ok (.lreturn, 1) := by decide +kernel
set_option maxHeartbeats 4000000 in
set_option maxRecDepth 100000 in
theorem lp_Mo_batched {p : Program} {l : Launch} {e : Env} {s : State} {m : MethodId} {args : Array Value} {below : List Frame} {meth : Method} {c : Code} {Q : State → Prop} {R : Room} {H : Heap} {locs : List Loc} {cells slots : Nat} {dC : Nat → ClassId} {dI : Nat → Nat → Nat} {ad : Nat → Nat} {cA : Nat → ClassId} {th yr : Int32} {nf no nt : Nat} {bd : Int32} {nb : Nat} {fl : Int32} {AI : Nat → Nat → Int32} {AN : Nat → Nat → Nat} {AB : Nat → Nat → Bool} {AL : Nat → Nat → Int64} (hx : p.tables.exec = Jvm.exec) (hb : c.code = b_Mo_batched) (hml : c.maxLocals = 5) (hown : s.vm.findClass R_Mo = some m.cls) (hts : ∀ w ∈ w_Mo_batched, w.before args s = true) (hK : va_K (dC, dI) classes (mtys cA) s) (hP : va_P (dC, dI) classes (mw ad cA th yr nf no nt bd nb fl AI AN AB AL) H) (hnb : nb ≤ 20) (fd : Int32)
    (exit : ∀ ls : Array Slot, lv_has ls 5 [(4, .int (nI nb)), (2, .long (m_bat AI AN nb fd)), (0, .ref (ad 0)), (1, .int fd)] → W p l e R s m args below meth c H locs cells slots Q (F0 m 46 ls [])) :
    ∀ n i : Nat, i ≤ nb → nb + 1 ≤ i + n → ∀ ls : Array Slot, lv_has ls 5 [(4, .int (nI i)), (2, .long (m_bat AI AN i fd)), (0, .ref (ad 0)), (1, .int fd)] → W p l e R s m args below meth c H locs cells slots Q (F0 m 5 ls []) := by
  have hG := fun (w : Cond) (h : w ∈ wG) => hts w (List.mem_cons_of_mem _ h)
  intro n
  induction n with
  | zero =>
    intro i h1 h2
    omega
  | succ n ih =>
    intro i hi hin ls hl
    refine lv_iload hx hb d_Mo_batched_5 (lv_at hl 0 rfl) ?_
    refine lv_aload_n hx hb d_Mo_batched_7 rfl (lv_at hl 2 rfl) ?_
    refine va_get (D := (dC, dI)) (ci := 7) (v := .int (nI nb)) (C := R_Mo) (T := F_Mo) (N := 31) hx hb hG iG_Mo hown hK hP 0 rfl rfl 27 (by decide) (hG _ k_550) (fun _ h9 => h9) rfl d_Mo_batched_8 ?_
    refine lv_icmp_ge (tgt := 46) hx hb d_Mo_batched_11 (by decide) (fun c_1 => ?_) (fun c_1 => ?_)
    · obtain rfl : i = nb := by have := (nI_leI (by omega) (by omega)).mp c_1; omega
      exact exit ls (lv_sub hl [0, 1, 2, 3] rfl)
    · have hlt : i < nb := by have h9 := c_1; rw [nI_leI (by omega) (by omega)] at h9; omega
      refine lv_lload_n hx hb d_Mo_batched_14 rfl (lv_at hl 1 rfl) ?_
      refine lv_aload_n hx hb d_Mo_batched_15 rfl (lv_at hl 2 rfl) ?_
      refine va_get (D := (dC, dI)) (ci := 7) (v := .ref (ad 22)) (C := R_Mo) (T := F_Mo) (N := 31) hx hb hG iG_Mo hown hK hP 0 rfl rfl 28 (by decide) (hG _ k_551) (fun _ h9 => h9) rfl d_Mo_batched_16 ?_
      refine lv_iload hx hb d_Mo_batched_19 (lv_at hl 0 rfl) ?_
      refine rn_iald (n := 20) (j := i) (g := AN 22) hx hb hK hP 22 21 rfl rfl (by omega) (by decide) d_Mo_batched_21 ?_
      refine lv_iload_n hx hb d_Mo_batched_22 rfl (lv_at hl 3 rfl) ?_
      refine lv_icmp_ne (tgt := 37) hx hb d_Mo_batched_23 (by decide) (fun c_2 => ?_) (fun c_2 => ?_)
      · refine lv_lconst (v := 0) hx hb d_Mo_batched_37 (by decide) ?_
        refine lv_ladd hx hb d_Mo_batched_38 ?_
        refine lv_topL (y := m_bat AI AN (i + 1) fd) (by simp [m_bat, sumL, c_2]) ?_
        refine lv_lstore_n (lv' := [(2, .long (m_bat AI AN (i + 1) fd)), (4, .int (nI i)), (0, .ref (ad 0)), (1, .int fd)]) hx hb d_Mo_batched_39 rfl hl (by decide) rfl (fun ls hl => ?_)
        refine lv_iinc (v := nI (i + 1)) (lv' := [(4, .int (nI (i + 1))), (2, .long (m_bat AI AN (i + 1) fd)), (0, .ref (ad 0)), (1, .int fd)]) hx hb d_Mo_batched_40 hl (k := 1) rfl (nI_1 i) (by decide) rfl (fun ls hl => ?_)
        refine lv_goto (tgt := 5) hx hb d_Mo_batched_43 (by decide) ?_
        exact ih (i + 1) (by omega) (by omega) ls (lv_sub hl [0, 1, 2, 3] rfl)
      · refine lv_aload_n hx hb d_Mo_batched_26 rfl (lv_at hl 2 rfl) ?_
        refine va_get (D := (dC, dI)) (ci := 7) (v := .ref (ad 23)) (C := R_Mo) (T := F_Mo) (N := 31) hx hb hG iG_Mo hown hK hP 0 rfl rfl 29 (by decide) (hG _ k_552) (fun _ h9 => h9) rfl d_Mo_batched_27 ?_
        refine lv_iload hx hb d_Mo_batched_30 (lv_at hl 0 rfl) ?_
        refine ra_iald (n := 20) (j := i) (f := AI 23) hx hb hK hP 23 22 rfl rfl (by omega) (by decide) d_Mo_batched_32 ?_
        refine lv_i2l hx hb d_Mo_batched_33 rfl ?_
        refine lv_goto (tgt := 38) hx hb d_Mo_batched_34 (by decide) ?_
        refine lv_ladd hx hb d_Mo_batched_38 ?_
        refine lv_topL (y := m_bat AI AN (i + 1) fd) (by simp [m_bat, sumL, c_2]) ?_
        refine lv_lstore_n (lv' := [(2, .long (m_bat AI AN (i + 1) fd)), (4, .int (nI i)), (0, .ref (ad 0)), (1, .int fd)]) hx hb d_Mo_batched_39 rfl hl (by decide) rfl (fun ls hl => ?_)
        refine lv_iinc (v := nI (i + 1)) (lv' := [(4, .int (nI (i + 1))), (2, .long (m_bat AI AN (i + 1) fd)), (0, .ref (ad 0)), (1, .int fd)]) hx hb d_Mo_batched_40 hl (k := 1) rfl (nI_1 i) (by decide) rfl (fun ls hl => ?_)
        refine lv_goto (tgt := 5) hx hb d_Mo_batched_43 (by decide) ?_
        exact ih (i + 1) (by omega) (by omega) ls (lv_sub hl [0, 1, 2, 3] rfl)
set_option maxHeartbeats 4000000 in
set_option maxRecDepth 100000 in
theorem c_Mo_batched (l : Launch) (dC : Nat → ClassId) (dI : Nat → Nat → Nat) (ad : Nat → Nat) (cA : Nat → ClassId) (th yr : Int32) (nf no nt : Nat) (bd : Int32) (nb : Nat) (fl : Int32) (AI : Nat → Nat → Int32) (AN : Nat → Nat → Nat) (AB : Nat → Nat → Bool) (AL : Nat → Nat → Int64) (fd : Int32) (hnb : nb ≤ 20) : Met l y_Mo_batched w_Mo_batched { frames := 0, cells := 0, slots := 0, locals := 0 } (rd_P (dC, dI) classes (mtys cA) (mw ad cA th yr nf no nt bd nb fl AI AN AB AL) [.ref (ad 0), .int fd]) (vp_Sl (fun r => r = m_bat AI AN nb fd)) 0 0 (fun _ => False) := by
  refine Met.ofW (cc := b_Mo_batched) (maxL := 5) (ret := (some .long)) (by decide) rfl ?_
  intro p e s m args below meth c s₁ B hml hv
  obtain ⟨rfl, hP, hK, hN⟩ := hv
  have hx := B.exec
  have hb := B.bytes
  have hr := B.returns
  have hts := atoms_spec (ws := w_Mo_batched) B.pre
  have hG := fun (w : Cond) (h : w ∈ wG) => hts w (List.mem_cons_of_mem _ h)
  have hown : s.vm.findClass R_Mo = some m.cls := findClass_of_methodNamed B.named
  have hlocks := B.notSynchronized
  have hl := lv_entry ([.ref (ad 0), .int fd]) (n := 5) (Nat.le_of_ble_eq_true rfl)
  rw [lg_entry_eq]
  generalize (lg_sl ([.ref (ad 0), .int fd]) ++ List.replicate (5 - (lg_sl ([.ref (ad 0), .int fd])).length) Slot.unset).toArray = ls at hl ⊢
  have hl : lv_has ls 5 [(0, .ref (ad 0)), (1, .int fd)] := hl
  refine lv_lconst (v := 0) hx hb d_Mo_batched_0 (by decide) ?_
  refine lv_lstore_n (lv' := [(2, .long 0), (0, .ref (ad 0)), (1, .int fd)]) hx hb d_Mo_batched_1 rfl hl (by decide) rfl (fun ls hl => ?_)
  refine lv_iconst (v := 0) hx hb d_Mo_batched_2 (by decide) ?_
  refine lv_istore (lv' := [(4, .int 0), (2, .long 0), (0, .ref (ad 0)), (1, .int fd)]) hx hb d_Mo_batched_3 hl (by decide) rfl (fun ls hl => ?_)
  refine lp_Mo_batched hx hb hml hown hts hK hP hnb fd (fun ls hl => ?_) (nb + 1) 0 (by omega) (by omega) ls (lv_sub hl [0, 1, 2, 3] rfl)
  refine lv_lload_n hx hb d_Mo_batched_46 rfl (lv_at hl 1 rfl) ?_
  exact W.lret (v := (m_bat AI AN nb fd)) hx hb hr (fun t ht hW => ⟨_, rfl, rfl, ht⟩) (fun q h => by cases h) d_Mo_batched_47

theorem d_Mo_free_0 : decode b_Mo_free 0 = .ok (.aload_n 0, 1) := by decide +kernel
theorem d_Mo_free_1 : decode b_Mo_free 1 = .ok (.getfield 13, 3) := by decide +kernel
theorem d_Mo_free_4 : decode b_Mo_free 4 = .ok (.iload_n 1, 1) := by decide +kernel
theorem d_Mo_free_5 : decode b_Mo_free 5 = .ok (.laload, 1) := by decide +kernel
theorem d_Mo_free_6 : decode b_Mo_free 6 = .ok (.aload_n 0, 1) := by decide +kernel
theorem d_Mo_free_7 : decode b_Mo_free 7 = .ok (.iload_n 1, 1) := by decide +kernel
theorem d_Mo_free_8 : decode b_Mo_free 8 = .ok (.invokevirtual 104, 3) := by decide +kernel
theorem d_Mo_free_11 : decode b_Mo_free 11 = .ok (.lsub, 1) := by decide +kernel
theorem d_Mo_free_12 : decode b_Mo_free 12 = .ok (.aload_n 0, 1) := by decide +kernel
theorem d_Mo_free_13 : decode b_Mo_free 13 = .ok (.getfield 17, 3) := by decide +kernel
theorem d_Mo_free_16 : decode b_Mo_free 16 = .ok (.iload_n 1, 1) := by decide +kernel
theorem d_Mo_free_17 : decode b_Mo_free 17 = .ok (.laload, 1) := by decide +kernel
theorem d_Mo_free_18 : decode b_Mo_free 18 = .ok (.lsub, 1) := by decide +kernel
theorem d_Mo_free_19 : decode b_Mo_free 19 = .ok (.lreturn, 1) := by decide +kernel
set_option maxHeartbeats 4000000 in
set_option maxRecDepth 100000 in
theorem c_Mo_free (l : Launch) (dC : Nat → ClassId) (dI : Nat → Nat → Nat) (ad : Nat → Nat) (cA : Nat → ClassId) (th yr : Int32) (nf no nt : Nat) (bd : Int32) (nb : Nat) (fl : Int32) (AI : Nat → Nat → Int32) (AN : Nat → Nat → Nat) (AB : Nat → Nat → Bool) (AL : Nat → Nat → Int64) (j : Nat) (hno : no ≤ 300) (hj : j < 30) : Met l y_Mo_free w_Mo_free { frames := 1, cells := 0, slots := 0, locals := 24 } (rd_P (dC, dI) classes (mtys cA) (mw ad cA th yr nf no nt bd nb fl AI AN AB AL) [.ref (ad 0), .int (nI j)]) (vp_Sl (fun r => r = m_free AI AN AL no j)) 0 0 (fun _ => False) := by
  refine Met.ofW (cc := b_Mo_free) (maxL := 2) (ret := (some .long)) (by decide) rfl ?_
  intro p e s m args below meth c s₁ B hml hv
  obtain ⟨rfl, hP, hK, hN⟩ := hv
  have hx := B.exec
  have hb := B.bytes
  have hr := B.returns
  have hts := atoms_spec (ws := w_Mo_free) B.pre
  have hG := fun (w : Cond) (h : w ∈ wG) => hts w (List.mem_cons_of_mem _ h)
  have hown : s.vm.findClass R_Mo = some m.cls := findClass_of_methodNamed B.named
  have hlocks := B.notSynchronized
  have hl := lv_entry ([.ref (ad 0), .int (nI j)]) (n := 2) (Nat.le_of_ble_eq_true rfl)
  rw [lg_entry_eq]
  generalize (lg_sl ([.ref (ad 0), .int (nI j)]) ++ List.replicate (2 - (lg_sl ([.ref (ad 0), .int (nI j)])).length) Slot.unset).toArray = ls at hl ⊢
  have hl : lv_has ls 2 [(0, .ref (ad 0)), (1, .int (nI j))] := hl
  refine lv_aload_n hx hb d_Mo_free_0 rfl (lv_at hl 0 rfl) ?_
  refine va_get (D := (dC, dI)) (ci := 7) (v := .ref (ad 2)) (C := R_Mo) (T := F_Mo) (N := 31) hx hb hG iG_Mo hown hK hP 0 rfl rfl 4 (by decide) (hG _ k_527) (fun _ h9 => h9) rfl d_Mo_free_1 ?_
  refine lv_iload_n hx hb d_Mo_free_4 rfl (lv_at hl 1 rfl) ?_
  refine ra_lald (n := 30) (j := j) (f := AL 2) hx hb hK hP 2 1 rfl rfl (by omega) (by decide) d_Mo_free_5 ?_
  refine lv_aload_n hx hb d_Mo_free_6 rfl (lv_at hl 0 rfl) ?_
  refine lv_iload_n hx hb d_Mo_free_7 rfl (lv_at hl 1 rfl) ?_
  refine rd_calll (va_runV (As := [.int (nI j)]) (rest := [.long (AL 2 j)]) ⟨hx, hb, hml, hown, hts⟩ (c_Mo_encumbered l dC dI ad cA th yr nf no nt bd nb fl AI AN AB AL (nI j) hno) (cwV 1 hts (gd_V k_645 k_647 k_9 k_17 k_648) rfl rfl rfl (by decide +kernel) ⟨Nat.le_of_ble_eq_true rfl, Nat.le_of_ble_eq_true rfl⟩) (rd_preV 0 hK hN hP rfl rfl) rfl rfl hl.1 rfl (lv_room (Nat.le_of_ble_eq_true rfl)) d_Mo_free_8 ⟨Nat.zero_le _, Nat.zero_le _⟩) (fun r_1 hr_1 => ?_)
  subst hr_1
  refine lv_lsub hx hb d_Mo_free_11 ?_
  refine lv_aload_n hx hb d_Mo_free_12 rfl (lv_at hl 0 rfl) ?_
  refine va_get (D := (dC, dI)) (ci := 7) (v := .ref (ad 3)) (C := R_Mo) (T := F_Mo) (N := 31) hx hb hG iG_Mo hown hK hP 0 rfl rfl 5 (by decide) (hG _ k_528) (fun _ h9 => h9) rfl d_Mo_free_13 ?_
  refine lv_iload_n hx hb d_Mo_free_16 rfl (lv_at hl 1 rfl) ?_
  refine ra_lald (n := 30) (j := j) (f := AL 3) hx hb hK hP 3 2 rfl rfl (by omega) (by decide) d_Mo_free_17 ?_
  refine lv_lsub hx hb d_Mo_free_18 ?_
  exact W.lret (v := (((AL 2 j) - (m_enc AI AN no (nI j))) - (AL 3 j))) hx hb hr (fun t ht hW => ⟨_, rfl, rfl, ht⟩) (fun q h => by cases h) d_Mo_free_19

theorem d_Mo_fits_0 : decode b_Mo_fits 0 = .ok (.aload_n 0, 1) := by decide +kernel
theorem d_Mo_fits_1 : decode b_Mo_fits 1 = .ok (.getfield 13, 3) := by decide +kernel
theorem d_Mo_fits_4 : decode b_Mo_fits 4 = .ok (.iload_n 1, 1) := by decide +kernel
theorem d_Mo_fits_5 : decode b_Mo_fits 5 = .ok (.laload, 1) := by decide +kernel
theorem d_Mo_fits_6 : decode b_Mo_fits 6 = .ok (.lload_n 2, 1) := by decide +kernel
theorem d_Mo_fits_7 : decode b_Mo_fits 7 = .ok (.ladd, 1) := by decide +kernel
theorem d_Mo_fits_8 : decode b_Mo_fits 8 = .ok (.lstore 8, 2) := by decide +kernel
theorem d_Mo_fits_10 : decode b_Mo_fits 10 = .ok (.aload_n 0, 1) := by decide +kernel
theorem d_Mo_fits_11 : decode b_Mo_fits 11 = .ok (.getfield 17, 3) := by decide +kernel
theorem d_Mo_fits_14 : decode b_Mo_fits 14 = .ok (.iload_n 1, 1) := by decide +kernel
theorem d_Mo_fits_15 : decode b_Mo_fits 15 = .ok (.laload, 1) := by decide +kernel
theorem d_Mo_fits_16 : decode b_Mo_fits 16 = .ok (.lload 4, 2) := by decide +kernel
theorem d_Mo_fits_18 : decode b_Mo_fits 18 = .ok (.ladd, 1) := by decide +kernel
theorem d_Mo_fits_19 : decode b_Mo_fits 19 = .ok (.lstore 10, 2) := by decide +kernel
theorem d_Mo_fits_21 : decode b_Mo_fits 21 = .ok (.aload_n 0, 1) := by decide +kernel
theorem d_Mo_fits_22 : decode b_Mo_fits 22 = .ok (.iload_n 1, 1) := by decide +kernel
theorem d_Mo_fits_23 : decode b_Mo_fits 23 = .ok (.invokevirtual 104, 3) := by decide +kernel
theorem d_Mo_fits_26 : decode b_Mo_fits 26 = .ok (.lload 6, 2) := by decide +kernel
theorem d_Mo_fits_28 : decode b_Mo_fits 28 = .ok (.lsub, 1) := by decide +kernel
theorem d_Mo_fits_29 : decode b_Mo_fits 29 = .ok (.lstore 12, 2) := by decide +kernel
theorem d_Mo_fits_31 : decode b_Mo_fits 31 = .ok (.lload 8, 2) := by decide +kernel
theorem d_Mo_fits_33 : decode b_Mo_fits 33 = .ok (.invokestatic 112, 3) := by decide +kernel
theorem d_Mo_fits_36 : decode b_Mo_fits 36 = .ok (.ifCond .eq 29, 3) := by decide +kernel
theorem d_Mo_fits_39 : decode b_Mo_fits 39 = .ok (.lload 10, 2) := by decide +kernel
theorem d_Mo_fits_41 : decode b_Mo_fits 41 = .ok (.invokestatic 112, 3) := by decide +kernel
theorem d_Mo_fits_44 : decode b_Mo_fits 44 = .ok (.ifCond .eq 21, 3) := by decide +kernel
theorem d_Mo_fits_47 : decode b_Mo_fits 47 = .ok (.lload 8, 2) := by decide +kernel
theorem d_Mo_fits_49 : decode b_Mo_fits 49 = .ok (.lload 12, 2) := by decide +kernel
theorem d_Mo_fits_51 : decode b_Mo_fits 51 = .ok (.lsub, 1) := by decide +kernel
theorem d_Mo_fits_52 : decode b_Mo_fits 52 = .ok (.lload 10, 2) := by decide +kernel
theorem d_Mo_fits_54 : decode b_Mo_fits 54 = .ok (.lsub, 1) := by decide +kernel
theorem d_Mo_fits_55 : decode b_Mo_fits 55 = .ok (.invokestatic 112, 3) := by decide +kernel
theorem d_Mo_fits_58 : decode b_Mo_fits 58 = .ok (.ifCond .eq 7, 3) := by decide +kernel
theorem d_Mo_fits_61 : decode b_Mo_fits 61 = .ok (.iconst 1, 1) := by decide +kernel
theorem d_Mo_fits_62 : decode b_Mo_fits 62 = .ok (.goto 4, 3) := by decide +kernel
theorem d_Mo_fits_65 : decode b_Mo_fits 65 = .ok (.iconst 0, 1) := by decide +kernel
theorem d_Mo_fits_66 : decode b_Mo_fits 66 = .ok (.ireturn, 1) := by decide +kernel
set_option maxHeartbeats 4000000 in
set_option maxRecDepth 100000 in
theorem c_Mo_fits (l : Launch) (dC : Nat → ClassId) (dI : Nat → Nat → Nat) (ad : Nat → Nat) (cA : Nat → ClassId) (th yr : Int32) (nf no nt : Nat) (bd : Int32) (nb : Nat) (fl : Int32) (AI : Nat → Nat → Int32) (AN : Nat → Nat → Nat) (AB : Nat → Nat → Bool) (AL : Nat → Nat → Int64) (j : Nat) (mg ms le : Int64) (hno : no ≤ 300) (hj : j < 30) : Met l y_Mo_fits w_Mo_fits { frames := 2, cells := 0, slots := 0, locals := 46 } (rd_P (dC, dI) classes (mtys cA) (mw ad cA th yr nf no nt bd nb fl AI AN AB AL) [.ref (ad 0), .int (nI j), .long mg, .long ms, .long le]) (vp_Si (fun r => r = bI (m_fits AI AN AL no j mg ms le))) 0 0 (fun _ => False) := by
  refine Met.ofW (cc := b_Mo_fits) (maxL := 14) (ret := (some .boolean)) (by decide) rfl ?_
  intro p e s m args below meth c s₁ B hml hv
  obtain ⟨rfl, hP, hK, hN⟩ := hv
  have hx := B.exec
  have hb := B.bytes
  have hr := B.returns
  have hts := atoms_spec (ws := w_Mo_fits) B.pre
  have hG := fun (w : Cond) (h : w ∈ wG) => hts w (List.mem_cons_of_mem _ h)
  have hown : s.vm.findClass R_Mo = some m.cls := findClass_of_methodNamed B.named
  have hlocks := B.notSynchronized
  have hl := lv_entry ([.ref (ad 0), .int (nI j), .long mg, .long ms, .long le]) (n := 14) (Nat.le_of_ble_eq_true rfl)
  rw [lg_entry_eq]
  generalize (lg_sl ([.ref (ad 0), .int (nI j), .long mg, .long ms, .long le]) ++ List.replicate (14 - (lg_sl ([.ref (ad 0), .int (nI j), .long mg, .long ms, .long le])).length) Slot.unset).toArray = ls at hl ⊢
  have hl : lv_has ls 14 [(0, .ref (ad 0)), (1, .int (nI j)), (2, .long mg), (4, .long ms), (6, .long le)] := hl
  refine lv_aload_n hx hb d_Mo_fits_0 rfl (lv_at hl 0 rfl) ?_
  refine va_get (D := (dC, dI)) (ci := 7) (v := .ref (ad 2)) (C := R_Mo) (T := F_Mo) (N := 31) hx hb hG iG_Mo hown hK hP 0 rfl rfl 4 (by decide) (hG _ k_527) (fun _ h9 => h9) rfl d_Mo_fits_1 ?_
  refine lv_iload_n hx hb d_Mo_fits_4 rfl (lv_at hl 1 rfl) ?_
  refine ra_lald (n := 30) (j := j) (f := AL 2) hx hb hK hP 2 1 rfl rfl (by omega) (by decide) d_Mo_fits_5 ?_
  refine lv_lload_n hx hb d_Mo_fits_6 rfl (lv_at hl 2 rfl) ?_
  refine lv_ladd hx hb d_Mo_fits_7 ?_
  refine lv_lstore (lv' := [(8, .long ((AL 2 j) + mg)), (0, .ref (ad 0)), (1, .int (nI j)), (2, .long mg), (4, .long ms), (6, .long le)]) hx hb d_Mo_fits_8 hl (by decide) rfl (fun ls hl => ?_)
  refine lv_aload_n hx hb d_Mo_fits_10 rfl (lv_at hl 1 rfl) ?_
  refine va_get (D := (dC, dI)) (ci := 7) (v := .ref (ad 3)) (C := R_Mo) (T := F_Mo) (N := 31) hx hb hG iG_Mo hown hK hP 0 rfl rfl 5 (by decide) (hG _ k_528) (fun _ h9 => h9) rfl d_Mo_fits_11 ?_
  refine lv_iload_n hx hb d_Mo_fits_14 rfl (lv_at hl 2 rfl) ?_
  refine ra_lald (n := 30) (j := j) (f := AL 3) hx hb hK hP 3 2 rfl rfl (by omega) (by decide) d_Mo_fits_15 ?_
  refine lv_lload hx hb d_Mo_fits_16 (lv_at hl 4 rfl) ?_
  refine lv_ladd hx hb d_Mo_fits_18 ?_
  refine lv_lstore (lv' := [(10, .long ((AL 3 j) + ms)), (8, .long ((AL 2 j) + mg)), (0, .ref (ad 0)), (1, .int (nI j)), (2, .long mg), (4, .long ms), (6, .long le)]) hx hb d_Mo_fits_19 hl (by decide) rfl (fun ls hl => ?_)
  refine lv_aload_n hx hb d_Mo_fits_21 rfl (lv_at hl 2 rfl) ?_
  refine lv_iload_n hx hb d_Mo_fits_22 rfl (lv_at hl 3 rfl) ?_
  refine rd_calll (va_runV (As := [.int (nI j)]) (rest := []) ⟨hx, hb, hml, hown, hts⟩ (c_Mo_encumbered l dC dI ad cA th yr nf no nt bd nb fl AI AN AB AL (nI j) hno) (cwV 1 hts (gd_V k_645 k_647 k_9 k_17 k_648) rfl rfl rfl (by decide +kernel) ⟨Nat.le_of_ble_eq_true rfl, Nat.le_of_ble_eq_true rfl⟩) (rd_preV 0 hK hN hP rfl rfl) rfl rfl hl.1 rfl (lv_room (Nat.le_of_ble_eq_true rfl)) d_Mo_fits_23 ⟨Nat.zero_le _, Nat.zero_le _⟩) (fun r_1 hr_1 => ?_)
  subst hr_1
  refine lv_lload hx hb d_Mo_fits_26 (lv_at hl 6 rfl) ?_
  refine lv_lsub hx hb d_Mo_fits_28 ?_
  refine lv_lstore (lv' := [(12, .long ((m_enc AI AN no (nI j)) - le)), (10, .long ((AL 3 j) + ms)), (8, .long ((AL 2 j) + mg)), (0, .ref (ad 0)), (1, .int (nI j)), (2, .long mg), (4, .long ms), (6, .long le)]) hx hb d_Mo_fits_29 hl (by decide) rfl (fun ls hl => ?_)
  refine lv_lload hx hb d_Mo_fits_31 (lv_at hl 2 rfl) ?_
  refine rd_calli (va_runS (As := [.long ((AL 2 j) + mg)]) (rest := []) ⟨hx, hb, hml, hown, hts⟩ (c_Mo_isBound l dC dI (mtys cA) (mw ad cA th yr nf no nt bd nb fl AI AN AB AL) ((AL 2 j) + mg)) (cwS 1 hts (gd_S k_649 k_650 k_17 k_651) rfl rfl rfl (by decide +kernel) ⟨Nat.le_of_ble_eq_true rfl, Nat.le_of_ble_eq_true rfl⟩) (rd_preS hK hN hP) rfl rfl hl.1 rfl (lv_room (Nat.le_of_ble_eq_true rfl)) d_Mo_fits_33 ⟨Nat.zero_le _, Nat.zero_le _⟩) (fun r_2 hr_2 => ?_)
  subst hr_2
  refine lb_if_eq (tgt := 65) hx hb d_Mo_fits_36 (by decide) (fun c_3 => ?_) (fun c_3 => ?_)
  · refine lv_iconst (v := 0) hx hb d_Mo_fits_65 (by decide) ?_
    exact W.zret (v := 0) (ty := .boolean) hx hb hr rfl (fun t ht hW => ⟨_, rfl, (by unfold m_fits; rw [c_3] <;> rfl), ht⟩) (fun q h => by cases h) d_Mo_fits_66
  · refine lv_lload hx hb d_Mo_fits_39 (lv_at hl 1 rfl) ?_
    refine rd_calli (va_runS (As := [.long ((AL 3 j) + ms)]) (rest := []) ⟨hx, hb, hml, hown, hts⟩ (c_Mo_isBound l dC dI (mtys cA) (mw ad cA th yr nf no nt bd nb fl AI AN AB AL) ((AL 3 j) + ms)) (cwS 1 hts (gd_S k_649 k_650 k_17 k_651) rfl rfl rfl (by decide +kernel) ⟨Nat.le_of_ble_eq_true rfl, Nat.le_of_ble_eq_true rfl⟩) (rd_preS hK hN hP) rfl rfl hl.1 rfl (lv_room (Nat.le_of_ble_eq_true rfl)) d_Mo_fits_41 ⟨Nat.zero_le _, Nat.zero_le _⟩) (fun r_4 hr_4 => ?_)
    subst hr_4
    refine lb_if_eq (tgt := 65) hx hb d_Mo_fits_44 (by decide) (fun c_5 => ?_) (fun c_5 => ?_)
    · refine lv_iconst (v := 0) hx hb d_Mo_fits_65 (by decide) ?_
      exact W.zret (v := 0) (ty := .boolean) hx hb hr rfl (fun t ht hW => ⟨_, rfl, (by unfold m_fits; rw [c_3, c_5] <;> rfl), ht⟩) (fun q h => by cases h) d_Mo_fits_66
    · refine lv_lload hx hb d_Mo_fits_47 (lv_at hl 2 rfl) ?_
      refine lv_lload hx hb d_Mo_fits_49 (lv_at hl 0 rfl) ?_
      refine lv_lsub hx hb d_Mo_fits_51 ?_
      refine lv_lload hx hb d_Mo_fits_52 (lv_at hl 1 rfl) ?_
      refine lv_lsub hx hb d_Mo_fits_54 ?_
      refine rd_calli (va_runS (As := [.long ((((AL 2 j) + mg) - ((m_enc AI AN no (nI j)) - le)) - ((AL 3 j) + ms))]) (rest := []) ⟨hx, hb, hml, hown, hts⟩ (c_Mo_isBound l dC dI (mtys cA) (mw ad cA th yr nf no nt bd nb fl AI AN AB AL) ((((AL 2 j) + mg) - ((m_enc AI AN no (nI j)) - le)) - ((AL 3 j) + ms))) (cwS 1 hts (gd_S k_649 k_650 k_17 k_651) rfl rfl rfl (by decide +kernel) ⟨Nat.le_of_ble_eq_true rfl, Nat.le_of_ble_eq_true rfl⟩) (rd_preS hK hN hP) rfl rfl hl.1 rfl (lv_room (Nat.le_of_ble_eq_true rfl)) d_Mo_fits_55 ⟨Nat.zero_le _, Nat.zero_le _⟩) (fun r_6 hr_6 => ?_)
      subst hr_6
      refine lb_if_eq (tgt := 65) hx hb d_Mo_fits_58 (by decide) (fun c_7 => ?_) (fun c_7 => ?_)
      · refine lv_iconst (v := 0) hx hb d_Mo_fits_65 (by decide) ?_
        exact W.zret (v := 0) (ty := .boolean) hx hb hr rfl (fun t ht hW => ⟨_, rfl, (by unfold m_fits; rw [c_3, c_5, c_7] <;> rfl), ht⟩) (fun q h => by cases h) d_Mo_fits_66
      · refine lv_iconst (v := 1) hx hb d_Mo_fits_61 (by decide) ?_
        refine lv_goto (tgt := 66) hx hb d_Mo_fits_62 (by decide) ?_
        exact W.zret (v := 1) (ty := .boolean) hx hb hr rfl (fun t ht hW => ⟨_, rfl, (by unfold m_fits; rw [c_3, c_5, c_7] <;> rfl), ht⟩) (fun q h => by cases h) d_Mo_fits_66
