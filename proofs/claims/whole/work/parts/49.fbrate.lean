theorem d_FB_rateOn_0 : decode b_FB_rateOn 0 = .ok (.aload_n 0, 1) := by decide +kernel
theorem d_FB_rateOn_1 : decode b_FB_rateOn 1 = .ok (.iload_n 1, 1) := by decide +kernel
theorem d_FB_rateOn_2 : decode b_FB_rateOn 2 = .ok (.invokevirtual 127, 3) := by decide +kernel
theorem d_FB_rateOn_5 : decode b_FB_rateOn 5 = .ok (.ifCond .ne 5, 3) := by decide +kernel
theorem d_FB_rateOn_10 : decode b_FB_rateOn 10 = .ok (.aload_n 0, 1) := by decide +kernel
theorem d_FB_rateOn_11 : decode b_FB_rateOn 11 = .ok (.getfield 29, 3) := by decide +kernel
theorem d_FB_rateOn_14 : decode b_FB_rateOn 14 = .ok (.iload_n 1, 1) := by decide +kernel
theorem d_FB_rateOn_15 : decode b_FB_rateOn 15 = .ok (.aaload, 1) := by decide +kernel
theorem d_FB_rateOn_16 : decode b_FB_rateOn 16 = .ok (.astore_n 3, 1) := by decide +kernel
theorem d_FB_rateOn_17 : decode b_FB_rateOn 17 = .ok (.aload_n 3, 1) := by decide +kernel
theorem d_FB_rateOn_18 : decode b_FB_rateOn 18 = .ok (.ifnull 21, 3) := by decide +kernel
theorem d_FB_rateOn_21 : decode b_FB_rateOn 21 = .ok (.aload_n 3, 1) := by decide +kernel
theorem d_FB_rateOn_22 : decode b_FB_rateOn 22 = .ok (.getfield 179, 3) := by decide +kernel
theorem d_FB_rateOn_25 : decode b_FB_rateOn 25 = .ok (.iload_n 2, 1) := by decide +kernel
theorem d_FB_rateOn_26 : decode b_FB_rateOn 26 = .ok (.if_icmp .gt 5, 3) := by decide +kernel
theorem d_FB_rateOn_29 : decode b_FB_rateOn 29 = .ok (.aload_n 3, 1) := by decide +kernel
theorem d_FB_rateOn_30 : decode b_FB_rateOn 30 = .ok (.areturn, 1) := by decide +kernel
theorem d_FB_rateOn_31 : decode b_FB_rateOn 31 = .ok (.aload_n 3, 1) := by decide +kernel
theorem d_FB_rateOn_32 : decode b_FB_rateOn 32 = .ok (.getfield 257, 3) := by decide +kernel
theorem d_FB_rateOn_35 : decode b_FB_rateOn 35 = .ok (.astore_n 3, 1) := by decide +kernel
theorem d_FB_rateOn_36 : decode b_FB_rateOn 36 = .ok (.goto (-19), 3) := by decide +kernel
theorem d_FB_rateOn_39 : decode b_FB_rateOn 39 = .ok (.aconst_null, 1) := by decide +kernel
theorem d_FB_rateOn_40 : decode b_FB_rateOn 40 = .ok (.areturn, 1) := by decide +kernel
set_option maxHeartbeats 4000000 in
set_option maxRecDepth 100000 in
theorem lp_FB_rateOn {p : Program} {l : Launch} {e : Env} {s : State} {m : MethodId} {args : Array Value} {below : List Frame} {meth : Method} {c : Code} {Q : State → Prop} {H : Heap} {locs : List Loc} {dC : Nat → ClassId} {dI : Nat → Nat → Nat} {cs : Nat → ClassId} {th yr : Int32} {nf no nt : Nat} {bd : Int32} {nb : Nat} {fl : Int32} {AI : Nat → Nat → Int32} {AN : Nat → Nat → Nat} {AB : Nat → Nat → Bool} {AL : Nat → Nat → Int64} {L : List Nat} {f : Nat → va_E} {ad : Nat → Nat → Nat} {rx : Nat → Nat → Nat} (hx : p.tables.exec = Jvm.exec) (hb : c.code = b_FB_rateOn) (hml : c.maxLocals = 4) (hown : s.vm.findClass R_FB = some m.cls) (hts : ∀ w ∈ w_FB_rateOn, w.before args s = true) (hK : va_K (dC, dI) classes (ctys cs) s) (hN : NK s) (hP : va_P (dC, dI) classes (va_pl L f) H) (k : Nat) (on : Int32) (hra : ∀ r, r < AN 18 k → ad 6 (rx k r) ∈ L ∧ f (ad 6 (rx k r)) = .inr (5, [.int (AI 19 (10 * k + r)), .int (AI 20 (10 * k + r)), .int (AI 21 (10 * k + r)), va_rf (if r = 0 then none else some (ad 6 (rx k (r - 1)))), .int (nI (r + 1))]))
    (ex0 : ∀ ls : Array Slot, lst_ (fun r => decide (AI 19 (10 * k + r) ≤ on)) (AN 18 k) = none → W p l e { frames := 2, cells := 0, slots := 0, locals := 46 } s m args below meth c H locs 0 0 Q (F0 m 39 ls []))
    (ex1 : ∀ (ls : Array Slot) (r : Nat), r < AN 18 k → lst_ (fun r => decide (AI 19 (10 * k + r) ≤ on)) (AN 18 k) = some r → lv_has ls 4 [(3, .ref (ad 6 (rx k r)))] → W p l e { frames := 2, cells := 0, slots := 0, locals := 46 } s m args below meth c H locs 0 0 Q (F0 m 29 ls [])) :
    ∀ r : Nat, r ≤ AN 18 k → lst_ (fun r => decide (AI 19 (10 * k + r) ≤ on)) (AN 18 k) = lst_ (fun r => decide (AI 19 (10 * k + r) ≤ on)) r → ∀ ls : Array Slot, lv_has ls 4 [(3, va_rf (if r = 0 then none else some (ad 6 (rx k (r - 1))))), (2, .int on)] → W p l e { frames := 2, cells := 0, slots := 0, locals := 46 } s m args below meth c H locs 0 0 Q (F0 m 17 ls []) := by
  have hG := fun (w : Cond) (h : w ∈ wG) => hts w (List.mem_cons_of_mem _ h)
  intro r
  induction r with
  | zero =>
    intro hr9 hst ls hl
    have hl : lv_has ls 4 [(3, .null), (2, .int on)] := hl
    refine lv_aload_nN hx hb d_FB_rateOn_17 rfl (lv_at hl 0 rfl) ?_
    refine lv_ifnullN (tgt := 39) hx hb d_FB_rateOn_18 (by decide) ?_
    exact ex0 ls hst
  | succ r ih =>
    intro hr9 hst ls hl
    have hl : lv_has ls 4 [(3, .ref (ad 6 (rx k r))), (2, .int on)] := hl
    obtain ⟨hm_a, he_a⟩ := hra r (by omega)
    refine lv_aload_n hx hb d_FB_rateOn_17 rfl (lv_at hl 0 rfl) ?_
    refine lv_ifnull hx hb d_FB_rateOn_18 ?_
    refine lv_aload_n hx hb d_FB_rateOn_21 rfl (lv_at hl 0 rfl) ?_
    refine fw_getN (D := (dC, dI)) (ci := 5) (v := .int (AI 19 (10 * k + r))) (C := R_Ra) (T := F_Ra) (N := 5) hx hb hG iG_Ra hown hK hP hm_a he_a rfl 0 (by decide) (hN.use k_314) (fun _ h9 => h9) rfl d_FB_rateOn_22 ?_
    refine lv_iload_n hx hb d_FB_rateOn_25 rfl (lv_at hl 1 rfl) ?_
    refine lv_icmp_gt (tgt := 31) hx hb d_FB_rateOn_26 (by decide) (fun c_1 => ?_) (fun c_1 => ?_)
    · refine lv_aload_n hx hb d_FB_rateOn_31 rfl (lv_at hl 0 rfl) ?_
      refine fw_getN (D := (dC, dI)) (ci := 5) (v := va_rf (if r = 0 then none else some (ad 6 (rx k (r - 1))))) (C := R_Ra) (T := F_Ra) (N := 5) hx hb hG iG_Ra hown hK hP hm_a he_a rfl 3 (by decide) (hN.use k_318) (fun _ h9 => h9) rfl d_FB_rateOn_32 ?_
      by_cases h0 : r = 0
      · refine W.eq (g2 := F0 m 35 ls [.null]) (congrArg (fun z => F0 m 35 ls [va_rf z]) (if_pos h0)) ?_
        refine lv_astore_nN (lv' := [(3, .null), (2, .int on)]) hx hb d_FB_rateOn_35 rfl hl (by decide) rfl (fun ls hl => ?_)
        refine lv_goto (tgt := 17) hx hb d_FB_rateOn_36 (by decide) ?_
        refine ih (by omega) (hst.trans ?_) ls (by rw [if_pos h0]; exact lv_sub hl [0, 1] rfl)
        have h9 := Int32.not_le.mpr c_1
        simp [lst_, h9]
      · refine W.eq (g2 := F0 m 35 ls [.ref (ad 6 (rx k (r - 1)))]) (congrArg (fun z => F0 m 35 ls [va_rf z]) (if_neg h0)) ?_
        refine lv_astore_n (lv' := [(3, .ref (ad 6 (rx k (r - 1)))), (2, .int on)]) hx hb d_FB_rateOn_35 rfl hl (by decide) rfl (fun ls hl => ?_)
        refine lv_goto (tgt := 17) hx hb d_FB_rateOn_36 (by decide) ?_
        refine ih (by omega) (hst.trans ?_) ls (by rw [if_neg h0]; exact lv_sub hl [0, 1] rfl)
        have h9 := Int32.not_le.mpr c_1
        simp [lst_, h9]
    · refine ex1 ls r (by omega) (hst.trans ?_) (lv_sub hl [0] rfl)
      have h9 := Int32.not_lt.mp c_1
      simp [lst_, h9]
set_option maxHeartbeats 4000000 in
set_option maxRecDepth 100000 in
theorem c_FB_rateOn (l : Launch) (dC : Nat → ClassId) (dI : Nat → Nat → Nat) (cs : Nat → ClassId) (th yr : Int32) (nf no nt : Nat) (bd : Int32) (nb : Nat) (fl : Int32) (AI : Nat → Nat → Int32) (AN : Nat → Nat → Nat) (AB : Nat → Nat → Bool) (AL : Nat → Nat → Int64) (L : List Nat) (f : Nat → va_E) (n : Nat → Nat) (ad : Nat → Nat → Nat) (e0 : Nat → Nat → va_E) (bl : Nat → Nat → Int64) (rx : Nat → Nat → Nat) (k : Nat) (on : Int32) (hk : k < 10) (hC : CP n ad e0 L f) (hR : SR n ad e0 cs bl rx yr nf no nt bd nb fl AI AN AB AL) (hM : InvM nf no nt nb AI AN) (hB : InvB no nt AI AB bl) (hZ : InvS nf no nt yr AI AB AL) : Met l y_FB_rateOn w_FB_rateOn { frames := 2, cells := 0, slots := 0, locals := 46 } (rd_P (dC, dI) classes (ctys cs) (va_pl L f) [.ref (ad 0 0), .int (nI k), .int on]) (va_Sq (fun r => r = (m_rowOn AI AN k on).map (fun r => ad 6 (rx k r)))) 0 0 (fun _ => False) := by
  obtain ⟨⟨n0, n1, n2, n3, n4, n5⟩, e00, e01, e02, e03, e04, e05, e06, e1, e2, e3, e4, e5, e6⟩ := id hR
  obtain ⟨hnf, hno, hnt, hnb, hfu, hft, hbf, hrw, hce, hdn⟩ := id hM
  have hm00 : ad 0 0 ∈ L := (hC.1 0 0 (by rw [n0]; decide)).1
  have he00 : f (ad 0 0) = .inr (0, [.ref (ad 0 1), .ref (ad 0 2), .ref (ad 0 3), .ref (ad 0 4), .ref (ad 0 5), .int (nI nf), .int (nI no), .int (nI nt), .int yr, .int bd, .int fl]) := (hC.1 0 0 (by rw [n0]; decide)).2.trans e00
  have hm01 : ad 0 1 ∈ L := (hC.1 0 1 (by rw [n0]; decide)).1
  have he01 : f (ad 0 1) = .inl ((cs 0), 30, .inr (.inr (.inr (.inr (fun i => if i < nf then some (ad 1 i) else none))))) := (hC.1 0 1 (by rw [n0]; decide)).2.trans e01
  have hm02 : ad 0 2 ∈ L := (hC.1 0 2 (by rw [n0]; decide)).1
  have he02 : f (ad 0 2) = .inl ((cs 1), 300, .inr (.inr (.inr (.inr (fun i => if i < no then some (ad 2 i) else none))))) := (hC.1 0 2 (by rw [n0]; decide)).2.trans e02
  have hm03 : ad 0 3 ∈ L := (hC.1 0 3 (by rw [n0]; decide)).1
  have he03 : f (ad 0 3) = .inl ((cs 2), 100, .inr (.inr (.inr (.inr (fun i => if i < nt then some (ad 4 i) else none))))) := (hC.1 0 3 (by rw [n0]; decide)).2.trans e03
  have hm04 : ad 0 4 ∈ L := (hC.1 0 4 (by rw [n0]; decide)).1
  have he04 : f (ad 0 4) = .inl ((cs 3), 10, .inr (.inr (.inr (.inr (fun c => if AN 18 c = 0 then none else some (ad 6 (rx c (AN 18 c - 1)))))))) := (hC.1 0 4 (by rw [n0]; decide)).2.trans e04
  have hm05 : ad 0 5 ∈ L := (hC.1 0 5 (by rw [n0]; decide)).1
  have he05 : f (ad 0 5) = .inr (6, [.ref (ad 0 6), .int (nI nb), .long (m_tot AI nb)]) := (hC.1 0 5 (by rw [n0]; decide)).2.trans e05
  have hm06 : ad 0 6 ∈ L := (hC.1 0 6 (by rw [n0]; decide)).1
  have he06 : f (ad 0 6) = .inl ((cs 4), 20, .inr (.inr (.inr (.inr (fun r => if r < nb then some (ad 1 (AN 22 r)) else none))))) := (hC.1 0 6 (by rw [n0]; decide)).2.trans e06
  refine Met.ofW (cc := b_FB_rateOn) (maxL := 4) (ret := (some (.object "FundBook$Rate"))) (by decide) rfl ?_
  intro p e s m args below meth c s₁ B hml hv
  obtain ⟨rfl, hP, hK, hN⟩ := hv
  have hx := B.exec
  have hb := B.bytes
  have hr := B.returns
  have hts := atoms_spec (ws := w_FB_rateOn) B.pre
  have hG := fun (w : Cond) (h : w ∈ wG) => hts w (List.mem_cons_of_mem _ h)
  have hown : s.vm.findClass R_FB = some m.cls := findClass_of_methodNamed B.named
  have hlocks := B.notSynchronized
  have hl := lv_entry ([.ref (ad 0 0), .int (nI k), .int on]) (n := 4) (Nat.le_of_ble_eq_true rfl)
  rw [lg_entry_eq]
  generalize (lg_sl ([.ref (ad 0 0), .int (nI k), .int on]) ++ List.replicate (4 - (lg_sl ([.ref (ad 0 0), .int (nI k), .int on])).length) Slot.unset).toArray = ls at hl ⊢
  have hl : lv_has ls 4 [(0, .ref (ad 0 0)), (1, .int (nI k)), (2, .int on)] := hl
  refine lv_aload_n hx hb d_FB_rateOn_0 rfl (lv_at hl 0 rfl) ?_
  refine lv_iload_n hx hb d_FB_rateOn_1 rfl (lv_at hl 1 rfl) ?_
  refine rd_calli (va_runV (As := [.int (nI k)]) (rest := []) ⟨hx, hb, hml, hown, hts⟩ (c_FB_isCurrency l dC dI (ctys cs) L f (ad 0 0) (ad 0 4) (nI nf) (nI no) (nI nt) yr bd fl (ad 0 1) (ad 0 2) (ad 0 3) (ad 0 5) (cs 3) (fun c => if AN 18 c = 0 then none else some (ad 6 (rx c (AN 18 c - 1)))) (nI k) hm00 he00 hm04 he04 rfl) (cwV 1 hts (gd_V k_252 k_254 k_2 k_14 k_255) rfl rfl rfl (by decide +kernel) ⟨Nat.le_of_ble_eq_true rfl, Nat.le_of_ble_eq_true rfl⟩) (fw_preV hK hN hP rfl hm00 he00) rfl rfl hl.1 rfl (lv_room (Nat.le_of_ble_eq_true rfl)) d_FB_rateOn_2 ⟨Nat.zero_le _, Nat.zero_le _⟩) (fun r_1 hr_1 => ?_)
  subst hr_1
  rw [inN_yes (by decide) hk]
  refine lb_if_ne (tgt := 10) hx hb d_FB_rateOn_5 (by decide) (fun c_2 => ?_) (fun c_2 => ?_)
  · refine lv_aload_n hx hb d_FB_rateOn_10 rfl (lv_at hl 0 rfl) ?_
    refine fw_get (D := (dC, dI)) (ci := 0) (v := .ref (ad 0 4)) (C := R_FB) (T := F_FB) (N := 11) hx hb hG iG_FB hown hK hP hm00 he00 rfl 3 (by decide) (hG _ k_70) (fun _ h9 => h9) rfl d_FB_rateOn_11 ?_
    refine lv_iload_n hx hb d_FB_rateOn_14 rfl (lv_at hl 1 rfl) ?_
    refine fw_ald (D := (dC, dI)) (C := "FundBook$Rate") (n := 10) (g := (fun c => if AN 18 c = 0 then none else some (ad 6 (rx c (AN 18 c - 1))))) hx hb hK hP hm04 3 he04 rfl (vp_in_nI (by omega) (by omega)) d_FB_rateOn_15 ?_
    rw [nI_clamp (by omega)]
    by_cases h0 : AN 18 k = 0
    · refine W.eq (g2 := F0 m 16 ls [.null]) (congrArg (fun z => F0 m 16 ls [va_rf z]) (if_pos h0)) ?_
      refine lv_astore_nN (lv' := [(3, .null), (0, .ref (ad 0 0)), (1, .int (nI k)), (2, .int on)]) hx hb d_FB_rateOn_16 rfl hl (by decide) rfl (fun ls hl => ?_)
      refine lp_FB_rateOn (th := th) (yr := yr) (nf := nf) (no := no) (nt := nt) (bd := bd) (nb := nb) (fl := fl) (AI := AI) (AN := AN) (AB := AB) (AL := AL) (ad := ad) (rx := rx) hx hb hml hown hts hK hN hP k on (fun r hr => ⟨(hC.1 6 _ (e6 k r hk hr).1).1, (hC.1 6 _ (e6 k r hk hr).1).2.trans (e6 k r hk hr).2⟩) (fun ls hfs => ?_) (fun ls r hr9 hfs hl => ?_) (AN 18 k) (Nat.le_refl _) rfl ls (by rw [if_pos h0]; exact lv_sub hl [0, 3] rfl)
      · refine lv_null hx hb d_FB_rateOn_39 ?_
        exact W.aret (v := .null) hx hb hr (Or.inl ⟨_, rfl⟩) (Or.inl rfl) (fun t ht hW => ⟨none, rfl, (by rw [show m_rowOn AI AN k on = none from hfs]; rfl), ht⟩) (fun q h => by cases h) d_FB_rateOn_40
      · refine lv_aload_n hx hb d_FB_rateOn_29 rfl (lv_at hl 0 rfl) ?_
        exact W.aret (v := .ref (ad 6 (rx k r))) hx hb hr (Or.inl ⟨_, rfl⟩) (Or.inr ⟨_, rfl⟩) (fun t ht hW => ⟨some (ad 6 (rx k r)), rfl, (by rw [show m_rowOn AI AN k on = some r from hfs]; rfl), ht⟩) (fun q h => by cases h) d_FB_rateOn_30
    · refine W.eq (g2 := F0 m 16 ls [.ref (ad 6 (rx k (AN 18 k - 1)))]) (congrArg (fun z => F0 m 16 ls [va_rf z]) (if_neg h0)) ?_
      refine lv_astore_n (lv' := [(3, .ref (ad 6 (rx k (AN 18 k - 1)))), (0, .ref (ad 0 0)), (1, .int (nI k)), (2, .int on)]) hx hb d_FB_rateOn_16 rfl hl (by decide) rfl (fun ls hl => ?_)
      refine lp_FB_rateOn (th := th) (yr := yr) (nf := nf) (no := no) (nt := nt) (bd := bd) (nb := nb) (fl := fl) (AI := AI) (AN := AN) (AB := AB) (AL := AL) (ad := ad) (rx := rx) hx hb hml hown hts hK hN hP k on (fun r hr => ⟨(hC.1 6 _ (e6 k r hk hr).1).1, (hC.1 6 _ (e6 k r hk hr).1).2.trans (e6 k r hk hr).2⟩) (fun ls hfs => ?_) (fun ls r hr9 hfs hl => ?_) (AN 18 k) (Nat.le_refl _) rfl ls (by rw [if_neg h0]; exact lv_sub hl [0, 3] rfl)
      · refine lv_null hx hb d_FB_rateOn_39 ?_
        exact W.aret (v := .null) hx hb hr (Or.inl ⟨_, rfl⟩) (Or.inl rfl) (fun t ht hW => ⟨none, rfl, (by rw [show m_rowOn AI AN k on = none from hfs]; rfl), ht⟩) (fun q h => by cases h) d_FB_rateOn_40
      · refine lv_aload_n hx hb d_FB_rateOn_29 rfl (lv_at hl 0 rfl) ?_
        exact W.aret (v := .ref (ad 6 (rx k r))) hx hb hr (Or.inl ⟨_, rfl⟩) (Or.inr ⟨_, rfl⟩) (fun t ht hW => ⟨some (ad 6 (rx k r)), rfl, (by rw [show m_rowOn AI AN k on = some r from hfs]; rfl), ht⟩) (fun q h => by cases h) d_FB_rateOn_30
  · exact absurd ((rfl : true = true).symm.trans c_2) (by decide)
