theorem d_FB_close_0 : decode b_FB_close 0 = .ok (.aload_n 0, 1) := by decide +kernel
theorem d_FB_close_1 : decode b_FB_close 1 = .ok (.getfield 56, 3) := by decide +kernel
theorem d_FB_close_4 : decode b_FB_close 4 = .ok (.sipush 9999, 3) := by decide +kernel
theorem d_FB_close_7 : decode b_FB_close 7 = .ok (.if_icmp .lt 6, 3) := by decide +kernel
theorem d_FB_close_10 : decode b_FB_close 10 = .ok (.bipush (-3), 2) := by decide +kernel
theorem d_FB_close_12 : decode b_FB_close 12 = .ok (.ireturn, 1) := by decide +kernel
theorem d_FB_close_13 : decode b_FB_close 13 = .ok (.aload_n 0, 1) := by decide +kernel
theorem d_FB_close_14 : decode b_FB_close 14 = .ok (.getfield 11, 3) := by decide +kernel
theorem d_FB_close_17 : decode b_FB_close 17 = .ok (.astore_n 1, 1) := by decide +kernel
theorem d_FB_close_18 : decode b_FB_close 18 = .ok (.aload_n 1, 1) := by decide +kernel
theorem d_FB_close_19 : decode b_FB_close 19 = .ok (.arraylength, 1) := by decide +kernel
theorem d_FB_close_20 : decode b_FB_close 20 = .ok (.istore_n 2, 1) := by decide +kernel
theorem d_FB_close_21 : decode b_FB_close 21 = .ok (.iconst 0, 1) := by decide +kernel
theorem d_FB_close_22 : decode b_FB_close 22 = .ok (.istore_n 3, 1) := by decide +kernel
theorem d_FB_close_23 : decode b_FB_close 23 = .ok (.iload_n 3, 1) := by decide +kernel
theorem d_FB_close_24 : decode b_FB_close 24 = .ok (.iload_n 2, 1) := by decide +kernel
theorem d_FB_close_25 : decode b_FB_close 25 = .ok (.if_icmp .ge 24, 3) := by decide +kernel
theorem d_FB_close_28 : decode b_FB_close 28 = .ok (.aload_n 1, 1) := by decide +kernel
theorem d_FB_close_29 : decode b_FB_close 29 = .ok (.iload_n 3, 1) := by decide +kernel
theorem d_FB_close_30 : decode b_FB_close 30 = .ok (.aaload, 1) := by decide +kernel
theorem d_FB_close_31 : decode b_FB_close 31 = .ok (.astore 4, 2) := by decide +kernel
theorem d_FB_close_33 : decode b_FB_close 33 = .ok (.aload 4, 2) := by decide +kernel
theorem d_FB_close_35 : decode b_FB_close 35 = .ok (.ifnull 8, 3) := by decide +kernel
theorem d_FB_close_38 : decode b_FB_close 38 = .ok (.aload 4, 2) := by decide +kernel
theorem d_FB_close_40 : decode b_FB_close 40 = .ok (.invokevirtual 240, 3) := by decide +kernel
theorem d_FB_close_43 : decode b_FB_close 43 = .ok (.iinc 3 1, 3) := by decide +kernel
theorem d_FB_close_46 : decode b_FB_close 46 = .ok (.goto (-23), 3) := by decide +kernel
theorem d_FB_close_49 : decode b_FB_close 49 = .ok (.aload_n 0, 1) := by decide +kernel
theorem d_FB_close_50 : decode b_FB_close 50 = .ok (.dup, 1) := by decide +kernel
theorem d_FB_close_51 : decode b_FB_close 51 = .ok (.getfield 56, 3) := by decide +kernel
theorem d_FB_close_54 : decode b_FB_close 54 = .ok (.iconst 1, 1) := by decide +kernel
theorem d_FB_close_55 : decode b_FB_close 55 = .ok (.iadd, 1) := by decide +kernel
theorem d_FB_close_56 : decode b_FB_close 56 = .ok (.putfield 56, 3) := by decide +kernel
theorem d_FB_close_59 : decode b_FB_close 59 = .ok (.aload_n 0, 1) := by decide +kernel
theorem d_FB_close_60 : decode b_FB_close 60 = .ok (.getfield 56, 3) := by decide +kernel
theorem d_FB_close_63 : decode b_FB_close 63 = .ok (.ireturn, 1) := by decide +kernel
set_option maxHeartbeats 4000000 in
set_option maxRecDepth 100000 in
theorem lp_FB_close {p : Program} {l : Launch} {e : Env} {s : State} {m : MethodId} {args : Array Value} {below : List Frame} {meth : Method} {c : Code} {Q : State → Prop} {A : Nat → Prop} {dC : Nat → ClassId} {dI : Nat → Nat → Nat} {cs : Nat → ClassId} {th yr : Int32} {nf no nt : Nat} {bd : Int32} {nb : Nat} {fl : Int32} {AI : Nat → Nat → Int32} {AN : Nat → Nat → Nat} {AB : Nat → Nat → Bool} {AL : Nat → Nat → Int64} {L : List Nat} {ad : Nat → Nat → Nat} {rx : Nat → Nat → Nat} {n : Nat → Nat} {bl : Nat → Nat → Int64} (hx : p.tables.exec = Jvm.exec) (hb : c.code = b_FB_close) (hml : c.maxLocals = 5) (hown : s.vm.findClass R_FB = some m.cls) (hts : ∀ w ∈ w_FB_close, w.before args s = true) (hK : va_K (dC, dI) classes (ctys cs) s) (hN : NK s) (hA : ∀ q : Nat, s.heap.size ≤ q → A q) 
    (exit : ∀ (H : Heap) (locs : List Loc) (ls : Array Slot) (f : Nat → va_E) (e0 : Nat → Nat → va_E), CX n ad e0 bl rx cs yr nf no nt bd nb fl AI AN AB (clL AI AN AL no (min 30 nf)) L f → va_P (dC, dI) classes (va_pl L f) H → va_D A (va_pl L f) → va_S A s.heap H locs → lv_has ls 5 [(3, .int (nI 30)), (2, .int (nI 30)), (1, .ref (ad 0 1)), (0, .ref (ad 0 0))] → W p l e { frames := 3, cells := 0, slots := 0, locals := 62 } s m args below meth c H locs 0 0 Q (F0 m 49 ls [])) :
    ∀ k9 i : Nat, i ≤ 30 → 30 + 1 ≤ i + k9 → ∀ (H : Heap) (locs : List Loc) (ls : Array Slot) (f : Nat → va_E) (e0 : Nat → Nat → va_E), CX n ad e0 bl rx cs yr nf no nt bd nb fl AI AN AB (clL AI AN AL no (min i nf)) L f → va_P (dC, dI) classes (va_pl L f) H → va_D A (va_pl L f) → va_S A s.heap H locs → lv_has ls 5 [(3, .int (nI i)), (2, .int (nI 30)), (1, .ref (ad 0 1)), (0, .ref (ad 0 0))] → W p l e { frames := 3, cells := 0, slots := 0, locals := 62 } s m args below meth c H locs 0 0 Q (F0 m 23 ls []) := by
  have hG := fun (w : Cond) (h : w ∈ wG) => hts w (List.mem_cons_of_mem _ h)
  intro k9
  induction k9 with
  | zero =>
    intro i h1 h2
    omega
  | succ k9 ih =>
    intro i hi hin H locs ls f e0 hX hP hD hS hl
    obtain ⟨hC, hR, hM, hB, hZ⟩ := id hX
    obtain ⟨⟨n0, n1, n2, n3, n4, n5⟩, e00, e01, e02, e03, e04, e05, e06, e1, e2, e3, e4, e5, e6⟩ := id hR
    have hnf := hM.1
    have hm01 : ad 0 1 ∈ L := (hC.1 0 1 (by rw [n0]; decide)).1
    have he01 : f (ad 0 1) = .inl ((cs 0), 30, .inr (.inr (.inr (.inr (fun i => if i < nf then some (ad 1 i) else none))))) := (hC.1 0 1 (by rw [n0]; decide)).2.trans e01
    refine lv_iload_n hx hb d_FB_close_23 rfl (lv_at hl 0 rfl) ?_
    refine lv_iload_n hx hb d_FB_close_24 rfl (lv_at hl 1 rfl) ?_
    refine lv_icmp_ge (tgt := 49) hx hb d_FB_close_25 (by decide) (fun c_1 => ?_) (fun c_1 => ?_)
    · obtain rfl : i = 30 := by have := (nI_leI (by omega) (by omega)).mp c_1; omega
      exact exit H locs ls f e0 hX hP hD hS (lv_sub hl [0, 1, 2, 3] rfl)
    · have hlt : i < 30 := by have h9 := c_1; rw [nI_leI (by omega) (by omega)] at h9; omega
      refine lv_aload_n hx hb d_FB_close_28 rfl (lv_at hl 2 rfl) ?_
      refine lv_iload_n hx hb d_FB_close_29 rfl (lv_at hl 0 rfl) ?_
      refine fw_ald (D := (dC, dI)) (C := "FundBook$Account") (n := 30) (g := (fun i => if i < nf then some (ad 1 i) else none)) hx hb hK hP hm01 0 he01 rfl (vp_in_nI (by omega) (by omega)) d_FB_close_30 ?_
      rw [nI_clamp (by omega)]
      by_cases hj : i < nf
      · refine W.eq (g2 := F0 m 31 ls [.ref (ad 1 i)]) (congrArg (fun z => F0 m 31 ls [va_rf z]) (if_pos hj)) ?_
        rw [show min i nf = i by omega] at hX hR e1
        have hm_a : ad 1 i ∈ L := (hC.1 1 i (by rw [n1]; exact hj)).1
        have he_a : f (ad 1 i) = .inr (1, [.int (nI i), .int (AI 1 i), .long ((clL AI AN AL no i) 2 i), .long (m_enc AI AN no (nI i)), .long ((clL AI AN AL no i) 3 i), .long (m_bat AI AN nb (nI i))]) := (hC.1 1 i (by rw [n1]; exact hj)).2.trans (e1 i hj)
        refine lv_astore (lv' := [(4, .ref (ad 1 i)), (3, .int (nI i)), (2, .int (nI 30)), (1, .ref (ad 0 1)), (0, .ref (ad 0 0))]) hx hb d_FB_close_31 hl (by decide) rfl (fun ls hl => ?_)
        refine lv_aload hx hb d_FB_close_33 (lv_at hl 0 rfl) ?_
        refine lv_ifnull hx hb d_FB_close_35 ?_
        refine lv_aload hx hb d_FB_close_38 (lv_at hl 0 rfl) ?_
        refine mu_callv (va_runV (As := []) (rest := []) ⟨hx, hb, hml, hown, hts⟩ (c_Ac_beginYear l dC dI (ctys cs) L f _ (ad 1 i) (nI i) (AI 1 i) ((clL AI AN AL no i) 2 i) (m_enc AI AN no (nI i)) ((clL AI AN AL no i) 3 i) (m_bat AI AN nb (nI i)) hm_a he_a) (cwV 0 hts (gd_V k_405 k_406 k_407 k_18 k_408) rfl rfl rfl (by decide +kernel) ⟨Nat.le_of_ble_eq_true rfl, Nat.le_of_ble_eq_true rfl⟩) (fw_mreV hK hN hP hD rfl hm_a he_a) rfl rfl hl.1 rfl (lv_room (Nat.le_of_ble_eq_true rfl)) d_FB_close_40 ⟨Nat.zero_le _, Nat.zero_le _⟩) hD hS hA (fun ur_2 H locs hr_2 hP hD hS => ?_)
        subst hr_2
        obtain ⟨f_3, ef_3⟩ : ∃ z, z = va_up f (ad 1 i) (.inr (1, [.int (nI i), .int (AI 1 i), .long ((if ((clL AI AN AL no i) 2 i) - (m_enc AI AN no (nI i)) - ((clL AI AN AL no i) 3 i) < 0 ∨ (AI 1 i) = 0 then 0 else if (AI 1 i) = 2 then (((clL AI AN AL no i) 2 i) - (m_enc AI AN no (nI i)) - ((clL AI AN AL no i) 3 i)) / 2 else ((clL AI AN AL no i) 2 i) - (m_enc AI AN no (nI i)) - ((clL AI AN AL no i) 3 i)) + (m_enc AI AN no (nI i))), .long (m_enc AI AN no (nI i)), .long 0, .long (m_bat AI AN nb (nI i))])) := ⟨_, rfl⟩
        have he_4 : f_3 (ad 0 1) = .inl ((cs 0), 30, .inr (.inr (.inr (.inr (fun i => if i < nf then some (ad 1 i) else none))))) := by rw [ef_3, va_up_ne _ _ (fw_ne he01 he_a (show (0 : Nat) ≠ 2 by decide))]; exact he01
        have he_5 : f_3 (ad 1 i) = .inr (1, [.int (nI i), .int (AI 1 i), .long ((if ((clL AI AN AL no i) 2 i) - (m_enc AI AN no (nI i)) - ((clL AI AN AL no i) 3 i) < 0 ∨ (AI 1 i) = 0 then 0 else if (AI 1 i) = 2 then (((clL AI AN AL no i) 2 i) - (m_enc AI AN no (nI i)) - ((clL AI AN AL no i) 3 i)) / 2 else ((clL AI AN AL no i) 2 i) - (m_enc AI AN no (nI i)) - ((clL AI AN AL no i) 3 i)) + (m_enc AI AN no (nI i))), .long (m_enc AI AN no (nI i)), .long 0, .long (m_bat AI AN nb (nI i))]) := by rw [ef_3]; exact va_up_self _ _ _
        have hP : va_P (dC, dI) classes (va_pl L f_3) H := by rw [ef_3]; exact hP
        have hD : va_D A (va_pl L f_3) := by rw [ef_3]; exact hD
        refine lv_iinc (v := nI (i + 1)) (lv' := [(3, .int (nI (i + 1))), (4, .ref (ad 1 i)), (2, .int (nI 30)), (1, .ref (ad 0 1)), (0, .ref (ad 0 0))]) hx hb d_FB_close_43 hl (k := 1) rfl (nI_1 i) (by decide) rfl (fun ls hl => ?_)
        refine lv_goto (tgt := 23) hx hb d_FB_close_46 (by decide) ?_
        obtain ⟨e9, hX9⟩ := CX_begin hX hj
        exact ih (i + 1) (by omega) (by omega) H locs ls f_3 e9 (by rw [show min (i + 1) nf = i + 1 by omega, ef_3]; exact hX9) hP hD hS (lv_sub hl [0, 2, 3, 4] rfl)
      · refine W.eq (g2 := F0 m 31 ls [.null]) (congrArg (fun z => F0 m 31 ls [va_rf z]) (if_neg hj)) ?_
        refine lv_astoreN (lv' := [(4, .null), (3, .int (nI i)), (2, .int (nI 30)), (1, .ref (ad 0 1)), (0, .ref (ad 0 0))]) hx hb d_FB_close_31 hl (by decide) rfl (fun ls hl => ?_)
        refine lv_aloadN hx hb d_FB_close_33 (lv_at hl 0 rfl) ?_
        refine lv_ifnullN (tgt := 43) hx hb d_FB_close_35 (by decide) ?_
        refine lv_iinc (v := nI (i + 1)) (lv' := [(3, .int (nI (i + 1))), (4, .null), (2, .int (nI 30)), (1, .ref (ad 0 1)), (0, .ref (ad 0 0))]) hx hb d_FB_close_43 hl (k := 1) rfl (nI_1 i) (by decide) rfl (fun ls hl => ?_)
        refine lv_goto (tgt := 23) hx hb d_FB_close_46 (by decide) ?_
        exact ih (i + 1) (by omega) (by omega) H locs ls f e0 (by rw [show min (i + 1) nf = min i nf by omega]; exact hX) hP hD hS (lv_sub hl [0, 2, 3, 4] rfl)
set_option maxHeartbeats 4000000 in
set_option maxRecDepth 100000 in
theorem c_FB_close (l : Launch) (dC : Nat → ClassId) (dI : Nat → Nat → Nat) (cs : Nat → ClassId) (o : Nat) (th yr : Int32) (nf no nt : Nat) (bd : Int32) (nb : Nat) (fl : Int32) (AI : Nat → Nat → Int32) (AN : Nat → Nat → Nat) (AB : Nat → Nat → Bool) (AL : Nat → Nat → Int64) (L : List Nat) (f : Nat → va_E) (sz : Nat) (hCS : CS cs o (th, yr, nf, no, nt, bd, nb, fl, AI, AN, AB, AL) L f) : Met l y_FB_close w_FB_close { frames := 3, cells := 0, slots := 0, locals := 62 } (mu_P (dC, dI) classes (ctys cs) (va_pl L f) sz [.ref o]) (va_Qi (fun r u => r = (m_close (th, yr, nf, no, nt, bd, nb, fl, AI, AN, AB, AL) ).1 ∧ CS cs o (m_close (th, yr, nf, no, nt, bd, nb, fl, AI, AN, AB, AL) ).2 u.1 u.2) (mu_B (dC, dI) classes (ctys cs) (va_A (va_pl L f) sz) fw_w) (va_A (va_pl L f) sz)) 0 0 (va_A (va_pl L f) sz) := by
  obtain ⟨n, ad, e0, bl, rx, rfl, hC, hR, hM, hB, hZ⟩ := hCS
  obtain ⟨⟨n0, n1, n2, n3, n4, n5⟩, e00, e01, e02, e03, e04, e05, e06, e1, e2, e3, e4, e5, e6⟩ := id hR
  obtain ⟨hnf, hno, hnt, hnb, hfu, hft, hbf, hrw, hce, hdn⟩ := id hM
  have hm00 : ad 0 0 ∈ L := (hC.1 0 0 (by rw [n0]; decide)).1
  have he00 : f (ad 0 0) = .inr (0, [.ref (ad 0 1), .ref (ad 0 2), .ref (ad 0 3), .ref (ad 0 4), .ref (ad 0 5), .int (nI nf), .int (nI no), .int (nI nt), .int yr, .int bd, .int fl]) := (hC.1 0 0 (by rw [n0]; decide)).2.trans e00
  have hm01 : ad 0 1 ∈ L := (hC.1 0 1 (by rw [n0]; decide)).1
  have he01 : f (ad 0 1) = .inl ((cs 0), 30, .inr (.inr (.inr (.inr (fun i => if i < nf then some (ad 1 i) else none))))) := (hC.1 0 1 (by rw [n0]; decide)).2.trans e01
  have hm02 : ad 0 2 ∈ L := (hC.1 0 2 (by rw [n0]; decide)).1
  have he02 : f (ad 0 2) = .inl ((cs 1), 300, .inr (.inr (.inr (.inr (fun i => if i < no then some (ad 2 i) else none))))) := (hC.1 0 2 (by rw [n0]; decide)).2.trans e02
  have hm03 : ad 0 3 ∈ L := (hC.1 0 3 (by rw [n0]; decide)).1
  have he03 : f (ad 0 3) = .inl ((cs 2), 100, .inr (.inr (.inr (.inr (fun i => if i < nt then some (ad 4 i) else none))))) := (hC.1 0 3 (by rw [n0]; decide)).2.trans e03
  have hm04 : ad 0 4 ∈ L := (hC.1 0 4 (by rw [n0]; decide)).1
  have he04 : f (ad 0 4) = .inl ((cs 3), 10, .inr (.inr (.inr (.inr (fun c => if AN 18 c = 0 then none else some (ad 6 (rx c (AN 18 c - 1)))))))) := (hC.1 0 4 (by rw [n0]; decide)).2.trans e04
  have hm05 : ad 0 5 ∈ L := (hC.1 0 5 (by rw [n0]; decide)).1
  have he05 : f (ad 0 5) = .inr (6, [.ref (ad 0 6), .int (nI nb), .long (m_tot AI nb)]) := (hC.1 0 5 (by rw [n0]; decide)).2.trans e05
  have hm06 : ad 0 6 ∈ L := (hC.1 0 6 (by rw [n0]; decide)).1
  have he06 : f (ad 0 6) = .inl ((cs 4), 20, .inr (.inr (.inr (.inr (fun r => if r < nb then some (ad 1 (AN 22 r)) else none))))) := (hC.1 0 6 (by rw [n0]; decide)).2.trans e06
  refine Met.ofW (cc := b_FB_close) (maxL := 5) (ret := (some .int)) (by decide) rfl ?_
  intro p e s m args below meth c s₁ B hml hv
  obtain ⟨rfl, hsz, hP, hK, hD0, hN⟩ := hv
  have hx := B.exec
  have hb := B.bytes
  have hr := B.returns
  have hts := atoms_spec (ws := w_FB_close) B.pre
  have hG := fun (w : Cond) (h : w ∈ wG) => hts w (List.mem_cons_of_mem _ h)
  have hown : s.vm.findClass R_FB = some m.cls := findClass_of_methodNamed B.named
  have hlocks := B.notSynchronized
  subst hsz
  have hD := hD0.self (sz := s.heap.size)
  generalize hAe : va_A (va_pl L f) s.heap.size = A at hD ⊢
  have hA : ∀ q : Nat, s.heap.size ≤ q → A q := fun q h => by rw [← hAe]; exact Or.inr h
  have hS : va_S A s.heap s.heap [] := va_S.rf
  have hP : va_P (dC, dI) classes (va_pl L f) s.heap := hP
  have hl := lv_entry ([.ref (ad 0 0)]) (n := 5) (Nat.le_of_ble_eq_true rfl)
  rw [lg_entry_eq]
  generalize (lg_sl ([.ref (ad 0 0)]) ++ List.replicate (5 - (lg_sl ([.ref (ad 0 0)])).length) Slot.unset).toArray = ls at hl ⊢
  have hl : lv_has ls 5 [(0, .ref (ad 0 0))] := hl
  refine lv_aload_n hx hb d_FB_close_0 rfl (lv_at hl 0 rfl) ?_
  refine fw_get (D := (dC, dI)) (ci := 0) (v := .int yr) (C := R_FB) (T := F_FB) (N := 11) hx hb hG iG_FB hown hK hP hm00 he00 rfl 8 (by decide) (hG _ k_75) (fun _ h9 => h9) rfl d_FB_close_1 ?_
  refine lv_sipush (v := 9999) hx hb d_FB_close_4 (by decide) ?_
  refine lv_icmp_lt (tgt := 13) hx hb d_FB_close_7 (by decide) (fun c_1 => ?_) (fun c_1 => ?_)
  · refine lv_aload_n hx hb d_FB_close_13 rfl (lv_at hl 0 rfl) ?_
    refine fw_get (D := (dC, dI)) (ci := 0) (v := .ref (ad 0 1)) (C := R_FB) (T := F_FB) (N := 11) hx hb hG iG_FB hown hK hP hm00 he00 rfl 0 (by decide) (hG _ k_67) (fun _ h9 => h9) rfl d_FB_close_14 ?_
    refine lv_astore_n (lv' := [(1, .ref (ad 0 1)), (0, .ref (ad 0 0))]) hx hb d_FB_close_17 rfl hl (by decide) rfl (fun ls hl => ?_)
    refine lv_aload_n hx hb d_FB_close_18 rfl (lv_at hl 0 rfl) ?_
    refine fw_alen (D := (dC, dI)) (v := nI 30) hx hb hK hP hm01 0 he01 rfl rfl d_FB_close_19 ?_
    refine lv_istore_n (lv' := [(2, .int (nI 30)), (1, .ref (ad 0 1)), (0, .ref (ad 0 0))]) hx hb d_FB_close_20 rfl hl (by decide) rfl (fun ls hl => ?_)
    refine lv_iconst (v := 0) hx hb d_FB_close_21 (by decide) ?_
    refine lv_istore_n (lv' := [(3, .int 0), (2, .int (nI 30)), (1, .ref (ad 0 1)), (0, .ref (ad 0 0))]) hx hb d_FB_close_22 rfl hl (by decide) rfl (fun ls hl => ?_)
    refine lp_FB_close (th := th) (yr := yr) (nf := nf) (no := no) (nt := nt) (bd := bd) (nb := nb) (fl := fl) (AI := AI) (AN := AN) (AB := AB) (AL := AL) (ad := ad) (rx := rx) (bl := bl) hx hb hml hown hts hK hN hA (fun H locs ls f e0 hX hP hD hS hl => ?_) 31 0 (by omega) (by omega) _ _ ls f e0 (by rw [show min 0 nf = 0 by omega, clL_0]; exact ⟨hC, hR, hM, hB, hZ⟩) hP hD hS (lv_sub hl [0, 1, 2, 3] rfl)
    rw [show min 30 nf = nf by omega] at hX
    obtain ⟨n0X, e00X⟩ := (⟨hX.2.1.1.1, hX.2.1.2.1⟩ : n 0 = 7 ∧ e0 0 0 = .inr (0, [.ref (ad 0 1), .ref (ad 0 2), .ref (ad 0 3), .ref (ad 0 4), .ref (ad 0 5), .int (nI nf), .int (nI no), .int (nI nt), .int yr, .int bd, .int fl]))
    have hmo : ad 0 0 ∈ L := (hX.1.1 0 0 (by rw [n0X]; decide)).1
    have heo : f (ad 0 0) = .inr (0, [.ref (ad 0 1), .ref (ad 0 2), .ref (ad 0 3), .ref (ad 0 4), .ref (ad 0 5), .int (nI nf), .int (nI no), .int (nI nt), .int yr, .int bd, .int fl]) := (hX.1.1 0 0 (by rw [n0X]; decide)).2.trans e00X
    refine lv_aload_n hx hb d_FB_close_49 rfl (lv_at hl 3 rfl) ?_
    refine lv_dup hx hb d_FB_close_50 rfl ?_
    refine fw_get (D := (dC, dI)) (ci := 0) (v := .int yr) (C := R_FB) (T := F_FB) (N := 11) hx hb hG iG_FB hown hK hP hmo heo rfl 8 (by decide) (hG _ k_75) (fun _ h9 => h9) rfl d_FB_close_51 ?_
    refine lv_iconst (v := 1) hx hb d_FB_close_54 (by decide) ?_
    refine lv_iadd hx hb d_FB_close_55 ?_
    refine fw_put (D := (dC, dI)) (ci := 0) (v := .int (yr + 1)) (ty := .int) (C := R_FB) (T := F_FB) (N := 11) hx hb hG iG_FB t_FB t_FB_ok n_FB hown hK hP hD hS hmo heo rfl 8 (by decide) (hG _ k_75) (fun _ h9 => h9) rfl (by decide +kernel) rfl rfl (Nat.le_of_ble_eq_true rfl) d_FB_close_56 (fun H locs hP hD hS => ?_)
    obtain ⟨f_2, ef_2⟩ : ∃ z, z = va_up f (ad 0 0) (.inr (0, [.ref (ad 0 1), .ref (ad 0 2), .ref (ad 0 3), .ref (ad 0 4), .ref (ad 0 5), .int (nI nf), .int (nI no), .int (nI nt), .int (yr + 1), .int bd, .int fl])) := ⟨_, rfl⟩
    have he_3 : f_2 (ad 0 0) = .inr (0, [.ref (ad 0 1), .ref (ad 0 2), .ref (ad 0 3), .ref (ad 0 4), .ref (ad 0 5), .int (nI nf), .int (nI no), .int (nI nt), .int (yr + 1), .int bd, .int fl]) := by rw [ef_2]; exact va_up_self _ _ _
    have hP : va_P (dC, dI) classes (va_pl L f_2) H := by rw [ef_2]; exact hP
    have hD : va_D A (va_pl L f_2) := by rw [ef_2]; exact hD
    refine lv_aload_n hx hb d_FB_close_59 rfl (lv_at hl 3 rfl) ?_
    refine fw_get (D := (dC, dI)) (ci := 0) (v := .int (yr + 1)) (C := R_FB) (T := F_FB) (N := 11) hx hb hG iG_FB hown hK hP hmo he_3 rfl 8 (by decide) (hG _ k_75) (fun _ h9 => h9) rfl d_FB_close_60 ?_
    have hcall : m_close (th, yr, nf, no, nt, bd, nb, fl, AI, AN, AB, AL)  = ((yr + 1), (0, yr + 1, nf, no, nt, bd, nb, fl, AI, AN, AB, clL AI AN AL no nf)) := (by simp [m_close, year_not c_1, clL])
    have hcs : CS cs (ad 0 0) (0, yr + 1, nf, no, nt, bd, nb, fl, AI, AN, AB, clL AI AN AL no nf) L f_2 := (by rw [ef_2]; exact CX_year hX c_1 rfl)
    exact W.iret (v := (yr + 1)) hx hb hr (fun t ht hW => ⟨⟨_, (L, f_2), rfl, by rw [hcall]; exact ⟨rfl, hcs⟩, by rw [ht]; exact hP, va_K.moved hW.alike hK, hD⟩, hS.F ht⟩) hS.2.2 d_FB_close_63
  · have hy := year_full hZ.1.2 c_1
    refine lv_bipush (v := (-3)) hx hb d_FB_close_10 (by decide) ?_
    have hcall : m_close (th, yr, nf, no, nt, bd, nb, fl, AI, AN, AB, AL)  = ((-3), (0, yr, nf, no, nt, bd, nb, fl, AI, AN, AB, AL)) := (by simp [m_close, ixn, bI, hy] <;> (repeat' apply And.intro) <;> rfl)
    have hcs : CS cs (ad 0 0) (0, yr, nf, no, nt, bd, nb, fl, AI, AN, AB, AL) L f := ⟨n, ad, e0, bl, rx, rfl, hC, hR, hM, hB, hZ⟩
    exact W.iret (v := (-3)) hx hb hr (fun t ht hW => ⟨⟨_, (L, f), rfl, by rw [hcall]; exact ⟨rfl, hcs⟩, by rw [ht]; exact hP, va_K.moved hW.alike hK, hD⟩, hS.F ht⟩) hS.2.2 d_FB_close_12
