theorem lw_xk {s : State} {b : Nat} (hts : ∀ w ∈ lw_tbl, w.before #[Value.ref b] s = true) (hgv : (Jvm.Cond.and given_1 narrow_1).before #[Value.ref b] s = true) : XK s := by
  have hs := flat_of_before _ hgv
  intro w hw
  refine x_move (State.WarmedH.refl s) (fun _ _ _ h => h) hw (a := #[Value.ref b]) ?_
  simp only [xW, List.mem_cons, List.not_mem_nil, or_false] at hw
  rcases hw with rfl | rfl | rfl | rfl | rfl | rfl | rfl | rfl | rfl
  · exact hts _ (List.mem_of_getElem? (i := 490) (by decide +kernel))
  · exact hs _ (by decide +kernel)
  · exact hs _ (by decide +kernel)
  · exact hts _ (List.mem_of_getElem? (i := 453) (by decide +kernel))
  · exact hts _ (List.mem_of_getElem? (i := 455) (by decide +kernel))
  · exact hts _ (List.mem_of_getElem? (i := 457) (by decide +kernel))
  · exact hts _ (List.mem_of_getElem? (i := 459) (by decide +kernel))
  · exact hts _ (List.mem_of_getElem? (i := 478) (by decide +kernel))
  · exact hts _ (List.mem_of_getElem? (i := 480) (by decide +kernel))

theorem lw_cpre {s : State} {H : Heap} {locs : List Loc} {b N0 : Nat} {xs : Nat → Int32} (hX : va_X b N0 xs s s.heap) (hbl : b < s.heap.size) (hS : va_S (lw_A s) s.heap H locs) : PreS s H (va_Pc [.ref b, .int 0] (fun U => va_X b N0 xs U U.heap)) [.ref b, .int 0] :=
  ⟨fun a U g mk q => ⟨q.1, va_X.moved (u := U) (U := U.calling g mk a) (Vm.Alike.refl U.vm) q.2⟩, fun U hU hW => ⟨rfl, by show va_X b N0 xs U U.heap; rw [hU]; exact (hX.kept (hS.2.1 b hbl (Nat.not_le.mpr hbl))).moved hW.alike⟩⟩

set_option maxHeartbeats 4000000 in
set_option maxRecDepth 100000 in
theorem whole_start {p : Program} {e : Env} {s : State} {m : MethodId} {below : List Frame} {meth : Method} {c : Code} (l : Launch) (hfl : l.flags = flags0) {b L : Nat} {xs : Nat → Int32} (hL : L ≤ 2561) (C0 : lw_At p s m meth c b L xs) : W p l e room_1 s m #[Value.ref b] below meth c s.heap [] 0 0 (lw_Z below #[Value.ref b] s) (entryFrame m ([Value.ref b] : List Value).toArray 7) := by
  obtain ⟨hx, hb, hr, hml, hown, hts0, hX, hbl, hlocks, hgv⟩ := id C0
  have hb : c.code = b_Law_law := hb
  have hfl : l.flags = pinnedFlags ++ [noTraceFlag] := hfl.trans (by first | rfl | decide +kernel)
  have hown : s.vm.findClass R_Law = some m.cls := hown
  have hG : ∀ w ∈ wG, w.before #[Value.ref b] s = true := fun w h => hts0 w (wG_good h).1
  have hts : ∀ w ∈ (Cond.initialized R_Law :: wG), w.before #[Value.ref b] s = true := by
    intro w h
    rcases List.mem_cons.mp h with rfl | h
    · exact hG _ k_13
    · exact hG w h
  have hN : NK s := NK.of hts0
  have hXK : XK s := lw_xk hts0 hgv
  have hO : AOs s := ⟨va_AO.of (hts0 _ k_36), va_AO.of (hts0 _ k_38), va_AO.of (hts0 _ k_40), va_AO.of (hts0 _ k_42)⟩
  have hA : ∀ q : Nat, s.heap.size ≤ q → lw_A s q := fun _ h => h
  have hbA : ¬ lw_A s b := Nat.not_le.mpr hbl
  obtain ⟨e0, j0, hKn0⟩ := u_known (C := R_FB) (T := F_FB) (N := 11) (n := 11) hG iG_FB (hG _ k_28)
  obtain ⟨e1, j1, hKn1⟩ := u_known (C := R_Ac) (T := F_Ac) (N := 6) (n := 6) hG iG_Ac (hG _ k_109)
  obtain ⟨e2, j2, hKn2⟩ := u_known (C := R_Pu) (T := F_Pu) (N := 8) (n := 8) hG iG_Pu (hG _ k_168)
  obtain ⟨e3, j3, hKn3⟩ := u_known (C := R_Mv) (T := F_Mv) (N := 5) (n := 5) hG iG_Mv (hG _ k_336)
  obtain ⟨e4, j4, hKn4⟩ := u_known (C := R_Ap) (T := F_Ap) (N := 3) (n := 3) hG iG_Ap (hG _ k_174)
  obtain ⟨e5, j5, hKn5⟩ := u_known (C := R_Ra) (T := F_Ra) (N := 5) (n := 5) hG iG_Ra (hG _ k_307)
  obtain ⟨e6, j6, hKn6⟩ := u_known (C := R_Ba) (T := F_Ba) (N := 3) (n := 3) hG iG_Ba (hG _ k_44)
  obtain ⟨e7, j7, hKn7⟩ := u_known (C := R_Mo) (T := F_Mo) (N := 31) (n := 31) hG iG_Mo (hG _ k_518)
  obtain ⟨dC, dI, hKc⟩ : ∃ (dC : Nat → ClassId) (dI : Nat → Nat → Nat), ∀ (k : Nat) (q : vw_C), classes[k]? = some q → u_Kn s q.1 q.2.1 q.2.2 (dC k) (dI k) := by
    refine ⟨fun k => if k = 0 then e0 else if k = 1 then e1 else if k = 2 then e2 else if k = 3 then e3 else if k = 4 then e4 else if k = 5 then e5 else if k = 6 then e6 else e7, fun k => if k = 0 then j0 else if k = 1 then j1 else if k = 2 then j2 else if k = 3 then j3 else if k = 4 then j4 else if k = 5 then j5 else if k = 6 then j6 else j7, ?_⟩
    intro k q hq
    match k, hq with
    | 0, hq => cases hq; exact hKn0
    | 1, hq => cases hq; exact hKn1
    | 2, hq => cases hq; exact hKn2
    | 3, hq => cases hq; exact hKn3
    | 4, hq => cases hq; exact hKn4
    | 5, hq => cases hq; exact hKn5
    | 6, hq => cases hq; exact hKn6
    | 7, hq => cases hq; exact hKn7
    | k + 8, hq => simp [classes] at hq
  have hS : va_S (lw_A s) s.heap s.heap [] := va_S.rf
  have hK : va_K (dC, dI) classes [] s := ⟨hKc, fun k q h => by simp at h⟩
  have hP : va_P (dC, dI) classes (va_pl [] (fun _ => .inr (0, []))) s.heap := fun k q h => by simp [va_pl] at h
  have hD : va_D (lw_A s) (va_pl [] (fun _ => .inr (0, []))) := ⟨fun i j p q h => by simp [va_pl] at h, fun k q h => by simp [va_pl] at h⟩
  have hl := lv_entry ([.ref b]) (n := 7) (Nat.le_of_ble_eq_true rfl)
  rw [lg_entry_eq]
  generalize (lg_sl ([.ref b]) ++ List.replicate (7 - (lg_sl ([.ref b])).length) Slot.unset).toArray = ls at hl ⊢
  have hl : lv_has ls 7 [(0, .ref b)] := hl
  refine fw_new (D := (dC, dI)) (ci := 0) (fs := [.null, .null, .null, .null, .null, .int 0, .int 0, .int 0, .int 0, .int 0, .int 0]) (C := R_FB) (T := F_FB) (N := 11) hx hb hG iG_FB t_FB t_FB_ok hown (hG _ k_27) (hG _ k_28) (hG _ k_14) hK hP hD hS hA rfl (fun j hj => by rcases (show j = 0 ∨ j = 1 ∨ j = 2 ∨ j = 3 ∨ j = 4 ∨ j = 5 ∨ j = 6 ∨ j = 7 ∨ j = 8 ∨ j = 9 ∨ j = 10 by omega) with rfl | rfl | rfl | rfl | rfl | rfl | rfl | rfl | rfl | rfl | rfl <;> rfl) (Nat.le_of_ble_eq_true rfl) (Nat.le_of_ble_eq_true rfl) d_Law_law_0 (fun o H hq1 hP hD hS => ?_)
  refine lv_dup hx hb d_Law_law_3 rfl ?_
  refine lv_aload_n hx hb d_Law_law_4 rfl (lv_at hl 0 rfl) ?_
  refine lv_iconst (v := 0) hx hb d_Law_law_5 (by decide) ?_
  refine rd_calli (va_runS (As := [.ref b, .int 0]) (rest := [.ref o, .ref o]) ⟨hx, hb, hml, hown, hts⟩ (c_Law_cell l b L xs hL) (cwS 2 hts (gd_S k_431 k_432 k_13 k_433) rfl rfl rfl (by decide +kernel) ⟨Nat.le_of_ble_eq_true rfl, Nat.le_of_ble_eq_true rfl⟩) (lw_cpre hX hbl hS) rfl rfl hl.1 rfl (lv_room (Nat.le_of_ble_eq_true rfl)) d_Law_law_6 ⟨Nat.le_of_ble_eq_true rfl, Nat.le_of_ble_eq_true rfl⟩) (fun x0 hx0 => ?_)
  refine in_callv (va_runI (As := [.int x0]) (rest := [.ref o]) ⟨hx, hb, hml, hown, hts⟩ (c_FB_init l dC dI ([] ++ [o]) (va_up (fun _ => .inr (0, [])) o (.inr (0, [.null, .null, .null, .null, .null, .int 0, .int 0, .int 0, .int 0, .int 0, .int 0]))) _ o x0 (List.mem_append_right _ (List.mem_singleton.mpr rfl)) (va_up_self _ _ _)) (cwI 1 hts (gd_c k_31) rfl rfl rfl (hG _ k_14) (hG _ k_29) (hG _ k_30) rfl (by decide +kernel) ⟨Nat.le_of_ble_eq_true rfl, Nat.le_of_ble_eq_true rfl⟩) (in_pre hK hN hP hD hO) rfl rfl hl.1 rfl (lv_room (Nat.le_of_ble_eq_true rfl)) d_Law_law_9 ⟨Nat.le_of_ble_eq_true rfl, Nat.le_of_ble_eq_true rfl⟩) hD hS hA (fun u H locs hCS hKc hP hD hS => ?_)
  obtain ⟨⟨L1, f1⟩, cs⟩ := u
  have hCS : CS cs o (0, (if 0 ≤ x0 then (if x0 ≤ 9999 then x0 else 9999) else 0), 0, 0, 0, 50, 0, -1, (fun _ _ => 0), (fun _ _ => 0), (fun _ _ => false), (fun _ _ => 0)) L1 f1 := hCS
  have hKc : va_K (dC, dI) classes (ctys cs) s := hKc
  have hP : va_P (dC, dI) classes (va_pl L1 f1) H := hP
  have hD : va_D (lw_A s) (va_pl L1 f1) := hD
  refine lv_astore_n (lv' := [(1, .ref o), (0, .ref b)]) hx hb d_Law_law_12 rfl hl (by decide) rfl (fun ls hl => ?_)
  refine va_new (D := (dC, dI)) (ci := 7) (fs := [.int 0, .int 0, .int 0, .null, .null, .null, .int 0, .null, .null, .null, .null, .null, .null, .null, .null, .null, .int 0, .null, .null, .null, .null, .null, .int 0, .null, .null, .null, .null, .int 0, .null, .null, .int 0]) (C := R_Mo) (T := F_Mo) (N := 31) hx hb hG iG_Mo t_Mo t_Mo_ok hown (hG _ k_517) (hG _ k_518) (hG _ k_17) hKc hP hD hS hA rfl (fun j hj => by rcases (show j = 0 ∨ j = 1 ∨ j = 2 ∨ j = 3 ∨ j = 4 ∨ j = 5 ∨ j = 6 ∨ j = 7 ∨ j = 8 ∨ j = 9 ∨ j = 10 ∨ j = 11 ∨ j = 12 ∨ j = 13 ∨ j = 14 ∨ j = 15 ∨ j = 16 ∨ j = 17 ∨ j = 18 ∨ j = 19 ∨ j = 20 ∨ j = 21 ∨ j = 22 ∨ j = 23 ∨ j = 24 ∨ j = 25 ∨ j = 26 ∨ j = 27 ∨ j = 28 ∨ j = 29 ∨ j = 30 by omega) with rfl | rfl | rfl | rfl | rfl | rfl | rfl | rfl | rfl | rfl | rfl | rfl | rfl | rfl | rfl | rfl | rfl | rfl | rfl | rfl | rfl | rfl | rfl | rfl | rfl | rfl | rfl | rfl | rfl | rfl | rfl <;> rfl) (Nat.le_of_ble_eq_true rfl) (Nat.le_of_ble_eq_true rfl) d_Law_law_13 (fun q2 H hP hD hS => ?_)
  refine lv_dup hx hb d_Law_law_16 rfl ?_
  refine lv_aload_n hx hb d_Law_law_17 rfl (lv_at hl 1 rfl) ?_
  refine lv_iconst (v := 0) hx hb d_Law_law_18 (by decide) ?_
  refine rd_calli (va_runS (As := [.ref b, .int 0]) (rest := [.ref q2, .ref q2]) ⟨hx, hb, hml, hown, hts⟩ (c_Law_cell l b L xs hL) (cwS 2 hts (gd_S k_431 k_432 k_13 k_433) rfl rfl rfl (by decide +kernel) ⟨Nat.le_of_ble_eq_true rfl, Nat.le_of_ble_eq_true rfl⟩) (lw_cpre hX hbl hS) rfl rfl hl.1 rfl (lv_room (Nat.le_of_ble_eq_true rfl)) d_Law_law_19 ⟨Nat.le_of_ble_eq_true rfl, Nat.le_of_ble_eq_true rfl⟩) (fun x1 hx1 => ?_)
  rw [show x1 = x0 from hx1.trans hx0.symm]
  refine pi_callv (wa := va_pl L1 f1) (wc := [(q2, .inr (7, [.int 0, .int 0, .int 0, .null, .null, .null, .int 0, .null, .null, .null, .null, .null, .null, .null, .null, .null, .int 0, .null, .null, .null, .null, .null, .int 0, .null, .null, .null, .null, .int 0, .null, .null, .int 0]))]) (va_runI (As := [.int x0]) (rest := [.ref q2]) ⟨hx, hb, hml, hown, hts⟩ (c_Mo_init l dC dI q2 _ x0) (cwI 1 hts (gd_c k_521) rfl rfl rfl (hG _ k_17) (hG _ k_519) (hG _ k_520) rfl (by decide +kernel) ⟨Nat.le_of_ble_eq_true rfl, Nat.le_of_ble_eq_true rfl⟩) (mu_preS hK hN (pt_P hP).2 (pt_D hD).2.1) rfl rfl hl.1 rfl (lv_room (Nat.le_of_ble_eq_true rfl)) d_Law_law_22 ⟨Nat.le_of_ble_eq_true rfl, Nat.le_of_ble_eq_true rfl⟩) hP hD hS hA (fun u H locs hu hKm hP2 hD2 hS => ?_)
  obtain ⟨ad, cA⟩ := u
  have hu : ad 0 = q2 := hu
  subst hu
  have hKm : va_K (dC, dI) classes (mtys cA) s := hKm
  have hP : va_P (dC, dI) classes (va_pl L1 f1 ++ (mw ad cA 0 (if 0 ≤ x0 then (if x0 ≤ 9999 then x0 else 9999) else 0) 0 0 0 50 0 (-1) (fun _ _ => 0) (fun _ _ => 0) (fun _ _ => false) (fun _ _ => 0))) H := hP2
  have hD : va_D (lw_A s) (va_pl L1 f1 ++ (mw ad cA 0 (if 0 ≤ x0 then (if x0 ≤ 9999 then x0 else 9999) else 0) 0 0 0 50 0 (-1) (fun _ _ => 0) (fun _ _ => 0) (fun _ _ => false) (fun _ _ => 0))) := hD2
  refine lv_astore_n (lv' := [(2, .ref (ad 0)), (1, .ref o), (0, .ref b)]) hx hb d_Law_law_25 rfl hl (by decide) rfl (fun ls hl => ?_)
  refine lv_iconst (v := 1) hx hb d_Law_law_26 (by decide) ?_
  refine va_newa (D := (dC, dI)) (atype := .long) (ty := .long) (N' := 1) (a0 := (1, .inr (.inl (fun _ => 0)))) hx hb (hG _ k_618) rfl hK hP hD hS hA (fun _ => rfl) (by decide) (by decide) (by decide) (Nat.le_of_ble_eq_true rfl) (Nat.le_of_ble_eq_true rfl) d_Law_law_27 (fun q3 k3 H hKo hP hD hS => ?_)
  have hKo : va_K (dC, dI) classes [(k3, .long)] s := hKo
  have hP : va_P (dC, dI) classes (((q3, .inl (k3, 1, .inr (.inl (fun _ => 0)))) :: va_pl L1 f1) ++ (mw ad cA 0 (if 0 ≤ x0 then (if x0 ≤ 9999 then x0 else 9999) else 0) 0 0 0 50 0 (-1) (fun _ _ => 0) (fun _ _ => 0) (fun _ _ => false) (fun _ _ => 0))) H := va_P.swap (a := []) (b := va_pl L1 f1 ++ (mw ad cA 0 (if 0 ≤ x0 then (if x0 ≤ 9999 then x0 else 9999) else 0) 0 0 0 50 0 (-1) (fun _ _ => 0) (fun _ _ => 0) (fun _ _ => false) (fun _ _ => 0))) (c := [(q3, .inl (k3, 1, .inr (.inl (fun _ => 0))))]) hP
  have hD : va_D (lw_A s) (((q3, .inl (k3, 1, .inr (.inl (fun _ => 0)))) :: va_pl L1 f1) ++ (mw ad cA 0 (if 0 ≤ x0 then (if x0 ≤ 9999 then x0 else 9999) else 0) 0 0 0 50 0 (-1) (fun _ _ => 0) (fun _ _ => 0) (fun _ _ => false) (fun _ _ => 0))) := va_D.swap (a := []) (b := va_pl L1 f1 ++ (mw ad cA 0 (if 0 ≤ x0 then (if x0 ≤ 9999 then x0 else 9999) else 0) 0 0 0 50 0 (-1) (fun _ _ => 0) (fun _ _ => 0) (fun _ _ => false) (fun _ _ => 0))) (c := [(q3, .inl (k3, 1, .inr (.inl (fun _ => 0))))]) hD
  refine lv_astore_n (lv' := [(3, .ref q3), (2, .ref (ad 0)), (1, .ref o), (0, .ref b)]) hx hb d_Law_law_29 rfl hl (by decide) rfl (fun ls hl => ?_)
  refine lv_iconst (v := 1) hx hb d_Law_law_30 (by decide) ?_
  refine lv_topI (y := nI (1 + 5 * 0)) rfl ?_
  refine lv_istore (lv' := [(4, .int (nI (1 + 5 * 0))), (3, .ref q3), (2, .ref (ad 0)), (1, .ref o), (0, .ref b)]) hx hb d_Law_law_31 hl (by decide) rfl (fun ls hl => ?_)
  refine W.widen (k := 32 + 2 * 0) (n := 14046 + 11 * 0) (by omega) (by omega) ?_
  exact lw_loop ⟨hx, hb, hml, hown, hts, hX, hbl, hL, hfl, hKm, hKc, hKo, hN, hXK⟩ hr hlocks 513 0 (by omega) (by omega) (0, (if 0 ≤ x0 then (if x0 ≤ 9999 then x0 else 9999) else 0), 0, 0, 0, 50, 0, -1, (fun _ _ => 0), (fun _ _ => 0), (fun _ _ => false), (fun _ _ => 0)) L1 f1 (fun _ => 0) H locs ls hCS hP hD hS (lv_sub hl [4, 3, 2, 1, 0] rfl)
