abbrev b_Law_post : ByteArray := method_3_code
def y_Law_post : MethodName := ⟨R_Law, "post", "(LFundBook;[J)I"⟩
abbrev w_Law_post : List Cond := .codeWith y_Law_post b_Law_post 3 (some .int) [(0, 8, 11, 13)] :: wG

theorem d_Law_cell_0 : decode b_Law_cell 0 = .ok (.iload_n 1, 1) := by decide +kernel
theorem d_Law_cell_1 : decode b_Law_cell 1 = .ok (.aload_n 0, 1) := by decide +kernel
theorem d_Law_cell_2 : decode b_Law_cell 2 = .ok (.arraylength, 1) := by decide +kernel
theorem d_Law_cell_3 : decode b_Law_cell 3 = .ok (.if_icmp .ge 9, 3) := by decide +kernel
theorem d_Law_cell_6 : decode b_Law_cell 6 = .ok (.aload_n 0, 1) := by decide +kernel
theorem d_Law_cell_7 : decode b_Law_cell 7 = .ok (.iload_n 1, 1) := by decide +kernel
theorem d_Law_cell_8 : decode b_Law_cell 8 = .ok (.iaload, 1) := by decide +kernel
theorem d_Law_cell_9 : decode b_Law_cell 9 = .ok (.goto 4, 3) := by decide +kernel
theorem d_Law_cell_12 : decode b_Law_cell 12 = .ok (.iconst 0, 1) := by decide +kernel
theorem d_Law_cell_13 : decode b_Law_cell 13 = .ok (.ireturn, 1) := by decide +kernel

theorem d_Law_post_0 : decode b_Law_post 0 = .ok (.aload_n 1, 1) := by decide +kernel
theorem d_Law_post_1 : decode b_Law_post 1 = .ok (.iconst 0, 1) := by decide +kernel
theorem d_Law_post_2 : decode b_Law_post 2 = .ok (.aload_n 0, 1) := by decide +kernel
theorem d_Law_post_3 : decode b_Law_post 3 = .ok (.invokevirtual 7, 3) := by decide +kernel
theorem d_Law_post_6 : decode b_Law_post 6 = .ok (.i2l, 1) := by decide +kernel
theorem d_Law_post_7 : decode b_Law_post 7 = .ok (.lastore, 1) := by decide +kernel
theorem d_Law_post_8 : decode b_Law_post 8 = .ok (.goto 6, 3) := by decide +kernel
theorem d_Law_post_11 : decode b_Law_post 11 = .ok (.astore_n 2, 1) := by decide +kernel
theorem d_Law_post_12 : decode b_Law_post 12 = .ok (.iconst 1, 1) := by decide +kernel
theorem d_Law_post_13 : decode b_Law_post 13 = .ok (.ireturn, 1) := by decide +kernel
theorem d_Law_post_14 : decode b_Law_post 14 = .ok (.iconst 0, 1) := by decide +kernel
theorem d_Law_post_15 : decode b_Law_post 15 = .ok (.ireturn, 1) := by decide +kernel

theorem c_Law_cell (l : Launch) (b N0 : Nat) (xs : Nat → Int32) (hN0 : N0 ≤ 2561) : Met l y_Law_cell w_Law_cell { frames := 0, cells := 0, slots := 0, locals := 0 } (va_Pc [.ref b, .int 0] (fun U => va_X b N0 xs U U.heap)) (vp_Si (fun r => r = if 0 < N0 then xs 0 else 0)) 0 0 (fun _ => False) := by
  refine Met.ofW (cc := b_Law_cell) (maxL := 2) (ret := (some .int)) (by decide) rfl ?_
  intro p e s m args below meth c s₁ B hml hv
  obtain ⟨rfl, hX⟩ := hv
  have hx := B.exec
  have hb := B.bytes
  have hr := B.returns
  have hlocks := B.notSynchronized
  have hbl : b < s.heap.size := by
    obtain ⟨scr, h1, -⟩ := id hX
    exact (Array.getElem?_eq_some_iff.mp h1).1
  have hS : va_S (fun _ => False) s.heap s.heap [] := va_S.rf
  have hl := lv_entry ([.ref b, .int 0]) (n := 2) (Nat.le_of_ble_eq_true rfl)
  rw [lg_entry_eq]
  generalize (lg_sl ([.ref b, .int 0]) ++ List.replicate (2 - (lg_sl ([.ref b, .int 0])).length) Slot.unset).toArray = ls at hl ⊢
  have hl : lv_has ls 2 [(0, .ref b), (1, .int 0)] := hl
  refine lv_iload_n hx hb d_Law_cell_0 rfl (lv_at hl 1 rfl) ?_
  refine lv_aload_n hx hb d_Law_cell_1 rfl (lv_at hl 0 rfl) ?_
  refine va_slen hx hb hX hbl (fun h => h) hS d_Law_cell_2 ?_
  refine lv_icmp_ge (tgt := 12) hx hb d_Law_cell_3 (by decide) (fun h => ?_) (fun h => ?_)
  · have h0 : ¬ 0 < N0 := by
      have h9 : nI N0 ≤ nI 0 := h
      rw [nI_leI (by omega) (by omega)] at h9
      omega
    refine lv_iconst (v := 0) hx hb d_Law_cell_12 (by decide) ?_
    exact W.iret (v := 0) hx hb hr (fun t ht hW => ⟨_, rfl, (by rw [if_neg h0]), ht⟩) (fun q h => by cases h) d_Law_cell_13
  · have h0 : 0 < N0 := by
      have h9 : ¬ nI N0 ≤ nI 0 := h
      rw [nI_leI (by omega) (by omega)] at h9
      omega
    refine lv_aload_n hx hb d_Law_cell_6 rfl (lv_at hl 0 rfl) ?_
    refine lv_iload_n hx hb d_Law_cell_7 rfl (lv_at hl 1 rfl) ?_
    refine va_sld hx hb hX hbl (fun h => h) hS (i := 0) (vp_in_nI (n := 0) h0 (by omega)) d_Law_cell_8 ?_
    refine lv_goto (tgt := 13) hx hb d_Law_cell_9 (by decide) ?_
    exact W.iret (v := xs (0 : Int32).toNatClampNeg) hx hb hr (fun t ht hW => ⟨_, rfl, (by rw [if_pos h0]; rfl), ht⟩) (fun q h => by cases h) d_Law_cell_13

/-- the start of the law's own post -/
def lp_P (D : va_G) (cl : List vw_C) (cs : Nat → ClassId) (k3 : ClassId) (ws : va_W) (sz : Nat) (av : List Value) : Array Value → State → Prop := va_Pc av (fun U => U.heap.size = sz ∧ va_P D cl ws U.heap ∧ va_K D cl (ctys cs) U ∧ va_K D cl [(k3, .long)] U ∧ va_D (fun _ => True) ws ∧ NK U ∧ XK U)
theorem lp_blind {D : va_G} {cl : List vw_C} {cs : Nat → ClassId} {k3 : ClassId} {ws : va_W} {sz : Nat} {av : List Value} : FrameBlind (lp_P D cl cs k3 ws sz av) := fun a U g mk q => ⟨q.1, q.2.1, q.2.2.1, va_K.moved (u := U) (U := U.calling g mk a) (Vm.Alike.refl U.vm) q.2.2.2.1, va_K.moved (u := U) (U := U.calling g mk a) (Vm.Alike.refl U.vm) q.2.2.2.2.1, q.2.2.2.2.2.1, NK.same (u := U) (U := U.calling g mk a) rfl q.2.2.2.2.2.2.1, XK.same (s := U) (U := U.calling g mk a) rfl rfl q.2.2.2.2.2.2.2⟩
/-- its end: what the reference's state calls thrown -/
def lp_Q (D : va_G) (cl : List vw_C) (A : Nat → Prop) (cs : Nat → ClassId) (o q3 : Nat) (k3 : ClassId) (v : Int32 × MS) : Array Value → State → Outcome → State → Prop := fun _ st oc t =>
  (oc = .returned (some (.int v.2.1)) ∧ ∃ (u : List Nat × (Nat → va_E)) (ov : Nat → Int64), (v.2.1 = 0 → ov 0 = v.1.toInt64) ∧ (v.2.1 = 0 ∨ v.2.1 = 1) ∧ CS cs o v.2 u.1 u.2 ∧ va_P D cl ((q3, .inl (k3, 1, .inr (.inl ov))) :: va_pl u.1 u.2) t.heap ∧ va_D A ((q3, .inl (k3, 1, .inr (.inl ov))) :: va_pl u.1 u.2)) ∧ va_F A st t
theorem CS.recv {cs : Nat → ClassId} {o : Nat} {u : MS} {L : List Nat} {f : Nat → va_E} (h : CS cs o u L f) : o ∈ L ∧ ∃ fs, f o = .inr (0, fs) := by
  obtain ⟨th, yr, nf, no, nt, bd, nb, fl, AI, AN, AB, AL⟩ := u
  obtain ⟨n, ad, e, bl, rx, rfl, hC, hR, -⟩ := h
  have h7 := hR.1.1
  exact ⟨(hC.1 0 0 (by rw [h7]; decide)).1, _, (hC.1 0 0 (by rw [h7]; decide)).2.trans hR.2.1⟩
set_option maxHeartbeats 4000000 in
set_option maxRecDepth 100000 in
theorem c_Law_post (l : Launch) (dC : Nat → ClassId) (dI : Nat → Nat → Nat) (cs : Nat → ClassId) (o : Nat) (th yr : Int32) (nf no nt : Nat) (bd : Int32) (nb : Nat) (fl : Int32) (AI : Nat → Nat → Int32) (AN : Nat → Nat → Nat) (AB : Nat → Nat → Bool) (AL : Nat → Nat → Int64) (L : List Nat) (f : Nat → va_E) (sz q3 : Nat) (k3 : ClassId) (ov : Nat → Int64) (hfl : l.flags = pinnedFlags ++ [noTraceFlag]) (hCS : CS cs o (th, yr, nf, no, nt, bd, nb, fl, AI, AN, AB, AL) L f) : TMet l y_Law_post w_Law_post { frames := 7, cells := 1, slots := 6, locals := 104 } (lp_P (dC, dI) classes cs k3 ((q3, .inl (k3, 1, .inr (.inl ov))) :: va_pl L f) sz [.ref o, .ref q3]) (lp_Q (dC, dI) classes (va_A ((q3, .inl (k3, 1, .inr (.inl ov))) :: va_pl L f) sz) cs o q3 k3 (m_post (th, yr, nf, no, nt, bd, nb, fl, AI, AN, AB, AL))) 1 6 (va_A ((q3, .inl (k3, 1, .inr (.inl ov))) :: va_pl L f) sz) := by
  obtain ⟨hmo, fs, heo⟩ := hCS.recv
  refine TMet.ofWith (cc := b_Law_post) (maxL := 3) (ret := (some .int)) (hs := [(0, 8, 11, 13)]) (by decide) rfl ?_
  intro p e s m args below meth c s₁ B hml htab hv
  obtain ⟨rfl, hsz, hP, hKc, hKo, hD0, hN, hXK⟩ := hv
  have hx := B.exec
  have hb := B.bytes
  have hr := B.returns
  have hts := atoms_spec (ws := w_Law_post) B.pre
  have hG := fun (w : Cond) (h : w ∈ wG) => hts w (List.mem_cons_of_mem _ h)
  have hown : s.vm.findClass R_Law = some m.cls := findClass_of_methodNamed B.named
  have hlocks := B.notSynchronized
  subst hsz
  have hD := hD0.self (sz := s.heap.size)
  generalize hAe : va_A ((q3, .inl (k3, 1, .inr (.inl ov))) :: va_pl L f) s.heap.size = A at hD ⊢
  have hA : ∀ q : Nat, s.heap.size ≤ q → A q := fun q h => by rw [← hAe]; exact Or.inr h
  have hS : va_S A s.heap s.heap [] := va_S.rf
  have hP : va_P (dC, dI) classes ([(q3, .inl (k3, 1, .inr (.inl ov)))] ++ va_pl L f) s.heap := hP
  have hD : va_D A ([(q3, .inl (k3, 1, .inr (.inl ov)))] ++ va_pl L f) := hD
  have hl := lv_entry ([.ref o, .ref q3]) (n := 3) (Nat.le_of_ble_eq_true rfl)
  rw [lg_entry_eq]
  generalize (lg_sl ([.ref o, .ref q3]) ++ List.replicate (3 - (lg_sl ([.ref o, .ref q3])).length) Slot.unset).toArray = ls at hl ⊢
  have hl : lv_has ls 3 [(0, .ref o), (1, .ref q3)] := hl
  have hpre := fw_mreV (As := []) hKc hN (pt_P hP).2 (pt_D hD).2.1 rfl hmo heo
  refine lv_aload_n hx hb d_Law_post_0 rfl (lv_at hl 1 rfl) ?_
  refine lv_iconst (v := 0) hx hb d_Law_post_1 (by decide) ?_
  refine lv_aload_n hx hb d_Law_post_2 rfl (lv_at hl 0 rfl) ?_
  refine tp_call (wa := [(q3, .inl (k3, 1, .inr (.inl ov)))]) (wc := va_pl L f) (own := R_Law) (th_runV (As := []) (rest := [.int 0, .ref q3]) ⟨hx, hb, hml, hown, hts⟩ (c_FB_post l dC dI cs o th yr nf no nt bd nb fl AI AN AB AL L f _ hfl hCS) (cwV 0 hts (gd_V k_438 k_439 k_440 k_14 k_441) rfl rfl rfl (by decide +kernel) ⟨Nat.le_of_ble_eq_true rfl, Nat.le_of_ble_eq_true rfl⟩) ⟨po_blind, hpre.2.1, fun U hU hW => ⟨hpre.2.2 U hU hW, hXK.moved hW (fun q x _ hq => by rw [hU]; exact hq)⟩⟩ rfl rfl hl.1 rfl (lv_room (Nat.le_of_ble_eq_true rfl)) d_Law_post_3 ⟨Nat.le_of_ble_eq_true rfl, Nat.le_of_ble_eq_true rfl⟩) htab hown (hG _ k_437) hP hD hS hA (fun u H locs h0v hcs hP hD hS => ?_) (fun u H locs a h1v hcs hP hD hS => ?_)
  · have hP : va_P (dC, dI) classes ((q3, .inl (k3, 1, .inr (.inl ov))) :: va_pl u.1 u.2) H := hP
    have hD : va_D A ((q3, .inl (k3, 1, .inr (.inl ov))) :: va_pl u.1 u.2) := hD
    refine lv_i2l hx hb d_Law_post_6 rfl ?_
    refine W.eq (g2 := F0 m 7 ls [.long ((m_post (th, yr, nf, no, nt, bd, nb, fl, AI, AN, AB, AL)).1.toInt64), .int (nI 0), .ref q3]) rfl ?_
    refine ra_last (n := 1) (j := 0) (f := ov) hx hb hKo hP hD hS 0 0 rfl rfl (by decide) (by decide) d_Law_post_7 (fun H locs hP hD hS => ?_)
    have hP : va_P (dC, dI) classes ((q3, .inl (k3, 1, .inr (.inl (va_up ov 0 ((m_post (th, yr, nf, no, nt, bd, nb, fl, AI, AN, AB, AL)).1.toInt64))))) :: va_pl u.1 u.2) H := hP
    have hD : va_D A ((q3, .inl (k3, 1, .inr (.inl (va_up ov 0 ((m_post (th, yr, nf, no, nt, bd, nb, fl, AI, AN, AB, AL)).1.toInt64))))) :: va_pl u.1 u.2) := hD
    refine lv_goto (tgt := 14) hx hb d_Law_post_8 (by decide) ?_
    refine lv_iconst (v := 0) hx hb d_Law_post_14 (by decide) ?_
    refine th_mono (fun t h => th_of_MQ t h) ?_
    refine W.widen (k := 1) (n := 6) (Nat.le_of_ble_eq_true rfl) (Nat.le_of_ble_eq_true rfl) ?_
    exact W.iret (v := 0) hx hb hr (fun t ht hW => ⟨⟨by rw [h0v], u, _, fun _ => va_up_self _ _ _, Or.inl h0v, hcs, by rw [ht]; exact hP, hD⟩, hS.F ht⟩) hS.2.2 d_Law_post_15
  · have hP : va_P (dC, dI) classes ((q3, .inl (k3, 1, .inr (.inl ov))) :: va_pl u.1 u.2) H := hP
    have hD : va_D A ((q3, .inl (k3, 1, .inr (.inl ov))) :: va_pl u.1 u.2) := hD
    refine lv_astore_n (lv' := [(2, .ref a), (0, .ref o), (1, .ref q3)]) hx hb d_Law_post_11 rfl hl (by decide) rfl (fun ls hl => ?_)
    refine lv_iconst (v := 1) hx hb d_Law_post_12 (by decide) ?_
    refine th_mono (fun t h => th_of_MQ t h) ?_
    refine W.widen (k := 1) (n := 6) (Nat.le_of_ble_eq_true rfl) (Nat.le_of_ble_eq_true rfl) ?_
    exact W.iret (v := 1) hx hb hr (fun t ht hW => ⟨⟨by rw [h1v], u, ov, (fun h => absurd (h1v.symm.trans h) (by decide)), Or.inr h1v, hcs, by rw [ht]; exact hP, hD⟩, hS.F ht⟩) hS.2.2 d_Law_post_13
