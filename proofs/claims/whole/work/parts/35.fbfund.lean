theorem sumL_0 {g : Nat → Int64} : ∀ {n : Nat}, (∀ i, i < n → g i = 0) → sumL g n = 0
  | 0, _ => rfl
  | n + 1, h => by
    simp only [sumL]
    rw [sumL_0 (fun i hi => h i (by omega)), h n (by omega)]
    rfl
theorem enc_none {AI : Nat → Nat → Int32} {AN : Nat → Nat → Nat} {no nf : Nat} (hnf : nf ≤ 30) (hfu : ∀ i, i < no → AN 4 i < nf) : m_enc AI AN no (nI nf) = 0 := sumL_0 (fun i hi => by
  have h1 := hfu i hi
  have : ¬ nI (AN 4 i) = nI nf := fun q => by
    have := (nI_eq (by omega) (by omega)).mp q
    omega
  simp [this])
theorem bat_none {AI : Nat → Nat → Int32} {AN : Nat → Nat → Nat} {nb nf : Nat} (hnf : nf ≤ 30) (hbf : ∀ r, r < nb → AN 22 r < nf) : m_bat AI AN nb (nI nf) = 0 := sumL_0 (fun i hi => by
  have h1 := hbf i hi
  have : ¬ nI (AN 22 i) = nI nf := fun q => by
    have := (nI_eq (by omega) (by omega)).mp q
    omega
  simp [this])
theorem CS_fund {n : Nat → Nat} {ad : Nat → Nat → Nat} {e : Nat → Nat → va_E} {L : List Nat} {f : Nat → va_E} {cs : Nat → ClassId} {bl : Nat → Nat → Int64} {rx : Nat → Nat → Nat} {yr : Int32} {nf no nt : Nat} {bd : Int32} {nb : Nat} {fl : Int32} {AI : Nat → Nat → Int32} {AN : Nat → Nat → Nat} {AB : Nat → Nat → Bool} {AL : Nat → Nat → Int64}
    (hC : CP n ad e L f) (hR : SR n ad e cs bl rx yr nf no nt bd nb fl AI AN AB AL) (hM : InvM nf no nt nb AI AN) (hB : InvB no nt AI AB bl) (hZ : InvS nf no nt yr AI AB AL) (hlt : nf < 30) {q : Nat} (hq : q ∉ L) {c0 : Int32} (hc0 : iw c0.toInt64 0 2 = true) (d : va_E) :
    CS cs (ad 0 0) (0, yr, nf + 1, no, nt, bd, nb, fl, u2 AI 1 nf c0, AN, AB, AL) (L ++ [q]) (va_up (va_up (va_up (va_up f q d) q (oAcc (nI nf) c0 0 0 0 0)) (ad 0 1) (oArr (cs 0) 30 (va_up (fun i => if i < nf then some (ad 1 i) else none) nf (some q)))) (ad 0 0) (oFB (ad 0 1) (ad 0 2) (ad 0 3) (ad 0 4) (ad 0 5) (nI (nf + 1)) (nI no) (nI nt) yr bd fl)) := by
  obtain ⟨⟨n0, n1, n2, n3, n4, n5⟩, e00, e01, e02, e03, e04, e05, e06, e1, e2, e3, e4, e5, e6⟩ := hR
  obtain ⟨hnf, hno, hnt, hnb, hfu, hft, hbf, hrw, hce, hdn⟩ := hM
  obtain ⟨z1, z2, z3, z4, z5⟩ := hZ
  have h1 := hC.add 1 (oAcc (nI nf) c0 0 0 0 0) hq
  rw [n1] at h1
  have h2 := h1.put 0 1 (a := ad 0 1) (oArr (cs 0) 30 (va_up (fun i => if i < nf then some (ad 1 i) else none) nf (some q))) (by rw [va_up_ne _ _ (by decide), n0]; decide) (up2_k _ _ _ _ (by decide)).symm
  have h3 := h2.put 0 0 (a := ad 0 0) (oFB (ad 0 1) (ad 0 2) (ad 0 3) (ad 0 4) (ad 0 5) (nI (nf + 1)) (nI no) (nI nt) yr bd fl) (by rw [va_up_ne _ _ (by decide), n0]; decide) (up2_k _ _ _ _ (by decide)).symm
  rw [bx_uu]
  refine ⟨_, _, _, bl, rx, up2_k _ _ _ _ (by decide), h3, ⟨?_, ?_, ?_, ?_, ?_, ?_, ?_, ?_, ?_, ?_, ?_, ?_, ?_, ?_⟩, ⟨by omega, hno, hnt, hnb, fun i hi => by have := hfu i hi; omega, fun i hi => by have := hft i hi; omega, fun r hr => by have := hbf r hr; omega, hrw, by simpa [u2, va_up] using hce, by simpa [u2, va_up] using hdn⟩, ?_, ⟨z1, by simpa [u2, va_up] using z2, ?_, fun j hj => z4 j (by omega), z5⟩⟩
  · simp [va_up, n0, n2, n3, n4, n5]
  · simp [up2]
  · rw [up2_i _ _ _ _ (by decide), up2_self]
    congr 6
    funext i
    by_cases h : i = nf
    · subst h; simp [va_up, up2]
    · have e9 : (i < nf + 1) ↔ (i < nf) := by omega
      simp [va_up, h, e9, up2]
  · simpa [up2] using e02
  · simpa [up2] using e03
  · simpa [up2] using e04
  · simpa [up2, u2, va_up, m_tot] using e05
  · rw [up2_i _ _ _ _ (by decide), up2_i _ _ _ _ (by decide), up2_k _ _ _ _ (by decide), e06]
    congr 6
    funext r
    by_cases h : r < nb
    · have h9 := hbf r h
      rw [if_pos h, if_pos h, up2_i _ _ _ _ (by omega)]
    · rw [if_neg h, if_neg h]
  · intro i hi
    by_cases h : i = nf
    · subst h
      rw [up2_k _ _ _ _ (by decide), up2_k _ _ _ _ (by decide), up2_self]
      obtain ⟨a1, a2⟩ := z4 i (Nat.le_refl i)
      have b1 : m_enc (u2 AI 1 i c0) AN no (nI i) = 0 := enc_none hnf hfu
      have b2 : m_bat (u2 AI 1 i c0) AN nb (nI i) = 0 := bat_none hnf hbf
      rw [b1, b2, a1, a2]
      simp [u2, va_up]
    · rw [up2_k _ _ _ _ (by decide), up2_k _ _ _ _ (by decide), up2_i _ _ _ _ h, e1 i (by omega)]
      simp [u2, va_up, h, m_enc, m_bat]
  · intro i hi
    have h9 := hfu i hi
    have h8 : AN 4 i ≠ nf := by omega
    simpa [up2, u2, va_up, h8] using e2 i hi
  · intro i hi; simpa [up2, u2, va_up] using e3 i hi
  · intro i hi
    have h9 := hft i hi
    have h8 : AN 13 i ≠ nf := by omega
    have h7 : AN 14 i ≠ nf := by omega
    simpa [up2, u2, va_up, h8, h7] using e4 i hi
  · intro i hi; simpa [up2, u2, va_up] using e5 i hi
  · intro c r hc hr; simpa [up2, u2, va_up] using e6 c r hc hr
  · simpa [InvB, u2, va_up] using hB
  · intro j hj
    by_cases h : j = nf
    · subst h
      obtain ⟨w, hw, rfl⟩ : ∃ w, w < 3 ∧ c0 = nI w := inN_of (n := 3) (by decide) (by
        have e9 : (nI 3 - 1).toInt64 = 2 := by decide
        unfold inN
        rw [e9]
        exact hc0)
      rcases (show w = 0 ∨ w = 1 ∨ w = 2 by omega) with rfl | rfl | rfl <;> simp [u2, va_up] <;> decide
    · simpa [u2, va_up, h] using z3 j (by omega)

theorem d_FB_fund_0 : decode b_FB_fund 0 = .ok (.iload_n 1, 1) := by decide +kernel
theorem d_FB_fund_1 : decode b_FB_fund 1 = .ok (.i2l, 1) := by decide +kernel
theorem d_FB_fund_2 : decode b_FB_fund 2 = .ok (.lconst 0, 1) := by decide +kernel
theorem d_FB_fund_3 : decode b_FB_fund 3 = .ok (.ldc2_w 59, 3) := by decide +kernel
theorem d_FB_fund_6 : decode b_FB_fund 6 = .ok (.invokestatic 61, 3) := by decide +kernel
theorem d_FB_fund_9 : decode b_FB_fund 9 = .ok (.ifCond .ne 6, 3) := by decide +kernel
theorem d_FB_fund_12 : decode b_FB_fund 12 = .ok (.bipush (-2), 2) := by decide +kernel
theorem d_FB_fund_14 : decode b_FB_fund 14 = .ok (.ireturn, 1) := by decide +kernel
theorem d_FB_fund_15 : decode b_FB_fund 15 = .ok (.aload_n 0, 1) := by decide +kernel
theorem d_FB_fund_16 : decode b_FB_fund 16 = .ok (.getfield 65, 3) := by decide +kernel
theorem d_FB_fund_19 : decode b_FB_fund 19 = .ok (.aload_n 0, 1) := by decide +kernel
theorem d_FB_fund_20 : decode b_FB_fund 20 = .ok (.getfield 11, 3) := by decide +kernel
theorem d_FB_fund_23 : decode b_FB_fund 23 = .ok (.arraylength, 1) := by decide +kernel
theorem d_FB_fund_24 : decode b_FB_fund 24 = .ok (.if_icmp .lt 6, 3) := by decide +kernel
theorem d_FB_fund_27 : decode b_FB_fund 27 = .ok (.bipush (-4), 2) := by decide +kernel
theorem d_FB_fund_29 : decode b_FB_fund 29 = .ok (.ireturn, 1) := by decide +kernel
theorem d_FB_fund_30 : decode b_FB_fund 30 = .ok (.aload_n 0, 1) := by decide +kernel
theorem d_FB_fund_31 : decode b_FB_fund 31 = .ok (.getfield 65, 3) := by decide +kernel
theorem d_FB_fund_34 : decode b_FB_fund 34 = .ok (.istore_n 2, 1) := by decide +kernel
theorem d_FB_fund_35 : decode b_FB_fund 35 = .ok (.aload_n 0, 1) := by decide +kernel
theorem d_FB_fund_36 : decode b_FB_fund 36 = .ok (.getfield 11, 3) := by decide +kernel
theorem d_FB_fund_39 : decode b_FB_fund 39 = .ok (.iload_n 2, 1) := by decide +kernel
theorem d_FB_fund_40 : decode b_FB_fund 40 = .ok (.new 9, 3) := by decide +kernel
theorem d_FB_fund_43 : decode b_FB_fund 43 = .ok (.dup, 1) := by decide +kernel
theorem d_FB_fund_44 : decode b_FB_fund 44 = .ok (.iload_n 2, 1) := by decide +kernel
theorem d_FB_fund_45 : decode b_FB_fund 45 = .ok (.iload_n 1, 1) := by decide +kernel
theorem d_FB_fund_46 : decode b_FB_fund 46 = .ok (.invokespecial 68, 3) := by decide +kernel
theorem d_FB_fund_49 : decode b_FB_fund 49 = .ok (.aastore, 1) := by decide +kernel
theorem d_FB_fund_50 : decode b_FB_fund 50 = .ok (.aload_n 0, 1) := by decide +kernel
theorem d_FB_fund_51 : decode b_FB_fund 51 = .ok (.dup, 1) := by decide +kernel
theorem d_FB_fund_52 : decode b_FB_fund 52 = .ok (.getfield 65, 3) := by decide +kernel
theorem d_FB_fund_55 : decode b_FB_fund 55 = .ok (.iconst 1, 1) := by decide +kernel
theorem d_FB_fund_56 : decode b_FB_fund 56 = .ok (.iadd, 1) := by decide +kernel
theorem d_FB_fund_57 : decode b_FB_fund 57 = .ok (.putfield 65, 3) := by decide +kernel
theorem d_FB_fund_60 : decode b_FB_fund 60 = .ok (.iload_n 2, 1) := by decide +kernel
theorem d_FB_fund_61 : decode b_FB_fund 61 = .ok (.ireturn, 1) := by decide +kernel
set_option maxHeartbeats 4000000 in
set_option maxRecDepth 100000 in
theorem c_FB_fund (l : Launch) (dC : Nat → ClassId) (dI : Nat → Nat → Nat) (cs : Nat → ClassId) (o : Nat) (th yr : Int32) (nf no nt : Nat) (bd : Int32) (nb : Nat) (fl : Int32) (AI : Nat → Nat → Int32) (AN : Nat → Nat → Nat) (AB : Nat → Nat → Bool) (AL : Nat → Nat → Int64) (L : List Nat) (f : Nat → va_E) (sz : Nat) (c0 : Int32) (hCS : CS cs o (th, yr, nf, no, nt, bd, nb, fl, AI, AN, AB, AL) L f) : Met l y_FB_fund w_FB_fund { frames := 2, cells := 1, slots := 6, locals := 34 } (mu_P (dC, dI) classes (ctys cs) (va_pl L f) sz [.ref o, .int c0]) (va_Qi (fun r u => r = (m_fund (th, yr, nf, no, nt, bd, nb, fl, AI, AN, AB, AL) c0).1 ∧ CS cs o (m_fund (th, yr, nf, no, nt, bd, nb, fl, AI, AN, AB, AL) c0).2 u.1 u.2) (mu_B (dC, dI) classes (ctys cs) (va_A (va_pl L f) sz) fw_w) (va_A (va_pl L f) sz)) 1 6 (va_A (va_pl L f) sz) := by
  obtain ⟨n, ad, e0, bl, rx, rfl, hC, hR, hM, hB, hZ⟩ := hCS
  obtain ⟨⟨n0, n1, n2, n3, n4, n5⟩, e00, e01, e02, e03, e04, e05, e06, e1, e2, e3, e4, e5, e6⟩ := id hR
  obtain ⟨hnf, hno, hnt, hnb, hfu, hft, hbf, hrw, hce, hdn⟩ := id hM
  have hm00 : ad 0 0 ∈ L := (hC.1 0 0 (by rw [n0]; decide)).1
  have he00 : f (ad 0 0) = .inr (0, [.ref (ad 0 1), .ref (ad 0 2), .ref (ad 0 3), .ref (ad 0 4), .ref (ad 0 5), .int (nI nf), .int (nI no), .int (nI nt), .int yr, .int bd, .int fl]) := (hC.1 0 0 (by rw [n0]; decide)).2.trans e00
  have hm01 : ad 0 1 ∈ L := (hC.1 0 1 (by rw [n0]; decide)).1
  have he01 : f (ad 0 1) = .inl ((cs 0), 30, .inr (.inr (.inr (.inr (fun i => if i < nf then some (ad 1 i) else none))))) := (hC.1 0 1 (by rw [n0]; decide)).2.trans e01
  have hm02 : ad 0 2 ∈ L := (hC.1 0 2 (by rw [n0]; decide)).1
  have he02 : f (ad 0 2) = .inl ((cs 1), 300, .inr (.inr (.inr (.inr (fun i => if i < no then some (ad 2 i) else none))))) := (hC.1 0 2 (by rw [n0]; decide)).2.trans e02
  have hm03 : ad 0 3 ∈ L := (hC.1 0 3 (by rw [n0]; decide)).1
  have he03 : f (ad 0 3) = .inl ((cs 2), 100, .inr (.inr (.inr (.inr (fun i => if i < nt then some (ad 4 i) else none))))) := (hC.1 0 3 (by rw [n0]; decide)).2.trans e03
  have hm04 : ad 0 4 ∈ L := (hC.1 0 4 (by rw [n0]; decide)).1
  have he04 : f (ad 0 4) = .inl ((cs 3), 10, .inr (.inr (.inr (.inr (fun c => if AN 18 c = 0 then none else some (ad 6 (rx c (AN 18 c - 1)))))))) := (hC.1 0 4 (by rw [n0]; decide)).2.trans e04
  have hm05 : ad 0 5 ∈ L := (hC.1 0 5 (by rw [n0]; decide)).1
  have he05 : f (ad 0 5) = .inr (6, [.ref (ad 0 6), .int (nI nb), .long (m_tot AI nb)]) := (hC.1 0 5 (by rw [n0]; decide)).2.trans e05
  have hm06 : ad 0 6 ∈ L := (hC.1 0 6 (by rw [n0]; decide)).1
  have he06 : f (ad 0 6) = .inl ((cs 4), 20, .inr (.inr (.inr (.inr (fun r => if r < nb then some (ad 1 (AN 22 r)) else none))))) := (hC.1 0 6 (by rw [n0]; decide)).2.trans e06
  refine Met.ofW (cc := b_FB_fund) (maxL := 3) (ret := (some .int)) (by decide) rfl ?_
  intro p e s m args below meth c s₁ B hml hv
  obtain ⟨rfl, hsz, hP, hK, hD0, hN⟩ := hv
  have hx := B.exec
  have hb := B.bytes
  have hr := B.returns
  have hts := atoms_spec (ws := w_FB_fund) B.pre
  have hG := fun (w : Cond) (h : w ∈ wG) => hts w (List.mem_cons_of_mem _ h)
  have hown : s.vm.findClass R_FB = some m.cls := findClass_of_methodNamed B.named
  have hlocks := B.notSynchronized
  subst hsz
  have hD := hD0.self (sz := s.heap.size)
  generalize hAe : va_A (va_pl L f) s.heap.size = A at hD ⊢
  have hA : ∀ q : Nat, s.heap.size ≤ q → A q := fun q h => by rw [← hAe]; exact Or.inr h
  have hS : va_S A s.heap s.heap [] := va_S.rf
  have hP : va_P (dC, dI) classes (va_pl L f) s.heap := hP
  have hl := lv_entry ([.ref (ad 0 0), .int c0]) (n := 3) (Nat.le_of_ble_eq_true rfl)
  rw [lg_entry_eq]
  generalize (lg_sl ([.ref (ad 0 0), .int c0]) ++ List.replicate (3 - (lg_sl ([.ref (ad 0 0), .int c0])).length) Slot.unset).toArray = ls at hl ⊢
  have hl : lv_has ls 3 [(0, .ref (ad 0 0)), (1, .int c0)] := hl
  refine lv_iload_n hx hb d_FB_fund_0 rfl (lv_at hl 1 rfl) ?_
  refine lv_i2l hx hb d_FB_fund_1 rfl ?_
  refine lv_lconst (v := 0) hx hb d_FB_fund_2 (by decide) ?_
  refine lv_ldc2 (own := R_FB) (v := 2) hx hb hown (hG _ k_105) d_FB_fund_3 ?_
  refine rd_calli (va_runS (As := [.long (c0.toInt64), .long 0, .long 2]) (rest := []) ⟨hx, hb, hml, hown, hts⟩ (c_FB_isWithin l dC dI (ctys cs) (va_pl L f) (c0.toInt64) 0 2) (cwS 3 hts (gd_S k_106 k_107 k_14 k_108) rfl rfl rfl (by decide +kernel) ⟨Nat.le_of_ble_eq_true rfl, Nat.le_of_ble_eq_true rfl⟩) (rd_preS hK hN hP) rfl rfl hl.1 rfl (lv_room (Nat.le_of_ble_eq_true rfl)) d_FB_fund_6 ⟨Nat.zero_le _, Nat.zero_le _⟩) (fun r_1 hr_1 => ?_)
  subst hr_1
  refine lb_if_ne (tgt := 15) hx hb d_FB_fund_9 (by decide) (fun c_2 => ?_) (fun c_2 => ?_)
  · refine lv_aload_n hx hb d_FB_fund_15 rfl (lv_at hl 0 rfl) ?_
    refine fw_get (D := (dC, dI)) (ci := 0) (v := .int (nI nf)) (C := R_FB) (T := F_FB) (N := 11) hx hb hG iG_FB hown hK hP hm00 he00 rfl 5 (by decide) (hG _ k_72) (fun _ h9 => h9) rfl d_FB_fund_16 ?_
    refine lv_aload_n hx hb d_FB_fund_19 rfl (lv_at hl 0 rfl) ?_
    refine fw_get (D := (dC, dI)) (ci := 0) (v := .ref (ad 0 1)) (C := R_FB) (T := F_FB) (N := 11) hx hb hG iG_FB hown hK hP hm00 he00 rfl 0 (by decide) (hG _ k_67) (fun _ h9 => h9) rfl d_FB_fund_20 ?_
    refine fw_alen (D := (dC, dI)) (v := nI 30) hx hb hK hP hm01 0 he01 rfl rfl d_FB_fund_23 ?_
    refine lv_icmp_lt (tgt := 30) hx hb d_FB_fund_24 (by decide) (fun c_3 => ?_) (fun c_3 => ?_)
    · have hlt : nf < 30 := (nI_ltI (a := nf) (b := 30) (by omega) (by decide)).mp c_3
      have hz : ¬ nf = 30 := by omega
      refine lv_aload_n hx hb d_FB_fund_30 rfl (lv_at hl 0 rfl) ?_
      refine fw_get (D := (dC, dI)) (ci := 0) (v := .int (nI nf)) (C := R_FB) (T := F_FB) (N := 11) hx hb hG iG_FB hown hK hP hm00 he00 rfl 5 (by decide) (hG _ k_72) (fun _ h9 => h9) rfl d_FB_fund_31 ?_
      refine lv_istore_n (lv' := [(2, .int (nI nf)), (0, .ref (ad 0 0)), (1, .int c0)]) hx hb d_FB_fund_34 rfl hl (by decide) rfl (fun ls hl => ?_)
      refine lv_aload_n hx hb d_FB_fund_35 rfl (lv_at hl 1 rfl) ?_
      refine fw_get (D := (dC, dI)) (ci := 0) (v := .ref (ad 0 1)) (C := R_FB) (T := F_FB) (N := 11) hx hb hG iG_FB hown hK hP hm00 he00 rfl 0 (by decide) (hG _ k_67) (fun _ h9 => h9) rfl d_FB_fund_36 ?_
      refine lv_iload_n hx hb d_FB_fund_39 rfl (lv_at hl 0 rfl) ?_
      refine fw_new (D := (dC, dI)) (ci := 1) (fs := [.int 0, .int 0, .long 0, .long 0, .long 0, .long 0]) (C := R_Ac) (T := F_Ac) (N := 6) hx hb hG iG_Ac t_Ac t_Ac_ok hown (hG _ k_35) (hG _ k_109) (hG _ k_18) hK hP hD hS hA rfl (fun j hj => by rcases (show j = 0 ∨ j = 1 ∨ j = 2 ∨ j = 3 ∨ j = 4 ∨ j = 5 by omega) with rfl | rfl | rfl | rfl | rfl | rfl <;> rfl) (Nat.le_of_ble_eq_true rfl) (Nat.le_of_ble_eq_true rfl) d_FB_fund_40 (fun q_4 H hq_q_4 hP hD hS => ?_)
      obtain ⟨L_6, eL_6⟩ : ∃ z, z = L ++ [q_4] := ⟨_, rfl⟩
      obtain ⟨f_5, ef_5⟩ : ∃ z, z = va_up f q_4 (.inr (1, [.int 0, .int 0, .long 0, .long 0, .long 0, .long 0])) := ⟨_, rfl⟩
      have hP : va_P (dC, dI) classes (va_pl L_6 f_5) H := by rw [eL_6, ef_5]; exact hP
      have hD : va_D A (va_pl L_6 f_5) := by rw [eL_6, ef_5]; exact hD
      have ne_9 : (ad 0 0) ≠ q_4 := fun z => hq_q_4 (z ▸ hm00)
      have hm_8 : (ad 0 0) ∈ L_6 := by rw [eL_6]; exact List.mem_append_left _ hm00
      have he_7 : f_5 (ad 0 0) = .inr (0, [.ref (ad 0 1), .ref (ad 0 2), .ref (ad 0 3), .ref (ad 0 4), .ref (ad 0 5), .int (nI nf), .int (nI no), .int (nI nt), .int yr, .int bd, .int fl]) := by rw [ef_5, va_up_ne _ _ ne_9]; exact he00
      have ne_12 : (ad 0 1) ≠ q_4 := fun z => hq_q_4 (z ▸ hm01)
      have hm_11 : (ad 0 1) ∈ L_6 := by rw [eL_6]; exact List.mem_append_left _ hm01
      have he_10 : f_5 (ad 0 1) = .inl ((cs 0), 30, .inr (.inr (.inr (.inr (fun i => if i < nf then some (ad 1 i) else none))))) := by rw [ef_5, va_up_ne _ _ ne_12]; exact he01
      have ne_15 : (ad 0 2) ≠ q_4 := fun z => hq_q_4 (z ▸ hm02)
      have hm_14 : (ad 0 2) ∈ L_6 := by rw [eL_6]; exact List.mem_append_left _ hm02
      have he_13 : f_5 (ad 0 2) = .inl ((cs 1), 300, .inr (.inr (.inr (.inr (fun i => if i < no then some (ad 2 i) else none))))) := by rw [ef_5, va_up_ne _ _ ne_15]; exact he02
      have ne_18 : (ad 0 3) ≠ q_4 := fun z => hq_q_4 (z ▸ hm03)
      have hm_17 : (ad 0 3) ∈ L_6 := by rw [eL_6]; exact List.mem_append_left _ hm03
      have he_16 : f_5 (ad 0 3) = .inl ((cs 2), 100, .inr (.inr (.inr (.inr (fun i => if i < nt then some (ad 4 i) else none))))) := by rw [ef_5, va_up_ne _ _ ne_18]; exact he03
      have ne_21 : (ad 0 4) ≠ q_4 := fun z => hq_q_4 (z ▸ hm04)
      have hm_20 : (ad 0 4) ∈ L_6 := by rw [eL_6]; exact List.mem_append_left _ hm04
      have he_19 : f_5 (ad 0 4) = .inl ((cs 3), 10, .inr (.inr (.inr (.inr (fun c => if AN 18 c = 0 then none else some (ad 6 (rx c (AN 18 c - 1)))))))) := by rw [ef_5, va_up_ne _ _ ne_21]; exact he04
      have ne_24 : (ad 0 5) ≠ q_4 := fun z => hq_q_4 (z ▸ hm05)
      have hm_23 : (ad 0 5) ∈ L_6 := by rw [eL_6]; exact List.mem_append_left _ hm05
      have he_22 : f_5 (ad 0 5) = .inr (6, [.ref (ad 0 6), .int (nI nb), .long (m_tot AI nb)]) := by rw [ef_5, va_up_ne _ _ ne_24]; exact he05
      have ne_27 : (ad 0 6) ≠ q_4 := fun z => hq_q_4 (z ▸ hm06)
      have hm_26 : (ad 0 6) ∈ L_6 := by rw [eL_6]; exact List.mem_append_left _ hm06
      have he_25 : f_5 (ad 0 6) = .inl ((cs 4), 20, .inr (.inr (.inr (.inr (fun r => if r < nb then some (ad 1 (AN 22 r)) else none))))) := by rw [ef_5, va_up_ne _ _ ne_27]; exact he06
      have hm_29 : q_4 ∈ L_6 := by rw [eL_6]; exact List.mem_append_right _ (List.mem_singleton.mpr rfl)
      have he_28 : f_5 q_4 = .inr (1, [.int 0, .int 0, .long 0, .long 0, .long 0, .long 0]) := by rw [ef_5]; exact va_up_self _ _ _
      refine lv_dup hx hb d_FB_fund_43 rfl ?_
      refine lv_iload_n hx hb d_FB_fund_44 rfl (lv_at hl 0 rfl) ?_
      refine lv_iload_n hx hb d_FB_fund_45 rfl (lv_at hl 2 rfl) ?_
      refine mu_callv (va_runI (As := [.int (nI nf), .int c0]) (rest := [.ref q_4, .int (nI nf), .ref (ad 0 1)]) ⟨hx, hb, hml, hown, hts⟩ (c_Ac_init l dC dI (ctys cs) L_6 f_5 _ q_4 0 0 0 0 0 0 (nI nf) c0 hm_29 he_28) (cwI 2 hts (gd_c k_112) rfl rfl rfl (hG _ k_18) (hG _ k_110) (hG _ k_111) rfl (by decide +kernel) ⟨Nat.le_of_ble_eq_true rfl, Nat.le_of_ble_eq_true rfl⟩) (mu_preS hK hN hP hD) rfl rfl hl.1 rfl (lv_room (Nat.le_of_ble_eq_true rfl)) d_FB_fund_46 ⟨Nat.le_of_ble_eq_true rfl, Nat.le_of_ble_eq_true rfl⟩) hD hS hA (fun ur_30 H locs hr_30 hP hD hS => ?_)
      subst hr_30
      obtain ⟨f_31, ef_31⟩ : ∃ z, z = va_up f_5 q_4 (.inr (1, [.int (nI nf), .int c0, .long 0, .long 0, .long 0, .long 0])) := ⟨_, rfl⟩
      have he_32 : f_31 (ad 0 0) = .inr (0, [.ref (ad 0 1), .ref (ad 0 2), .ref (ad 0 3), .ref (ad 0 4), .ref (ad 0 5), .int (nI nf), .int (nI no), .int (nI nt), .int yr, .int bd, .int fl]) := by rw [ef_31, va_up_ne _ _ ne_9]; exact he_7
      have he_33 : f_31 (ad 0 1) = .inl ((cs 0), 30, .inr (.inr (.inr (.inr (fun i => if i < nf then some (ad 1 i) else none))))) := by rw [ef_31, va_up_ne _ _ ne_12]; exact he_10
      have he_34 : f_31 (ad 0 2) = .inl ((cs 1), 300, .inr (.inr (.inr (.inr (fun i => if i < no then some (ad 2 i) else none))))) := by rw [ef_31, va_up_ne _ _ ne_15]; exact he_13
      have he_35 : f_31 (ad 0 3) = .inl ((cs 2), 100, .inr (.inr (.inr (.inr (fun i => if i < nt then some (ad 4 i) else none))))) := by rw [ef_31, va_up_ne _ _ ne_18]; exact he_16
      have he_36 : f_31 (ad 0 4) = .inl ((cs 3), 10, .inr (.inr (.inr (.inr (fun c => if AN 18 c = 0 then none else some (ad 6 (rx c (AN 18 c - 1)))))))) := by rw [ef_31, va_up_ne _ _ ne_21]; exact he_19
      have he_37 : f_31 (ad 0 5) = .inr (6, [.ref (ad 0 6), .int (nI nb), .long (m_tot AI nb)]) := by rw [ef_31, va_up_ne _ _ ne_24]; exact he_22
      have he_38 : f_31 (ad 0 6) = .inl ((cs 4), 20, .inr (.inr (.inr (.inr (fun r => if r < nb then some (ad 1 (AN 22 r)) else none))))) := by rw [ef_31, va_up_ne _ _ ne_27]; exact he_25
      have he_39 : f_31 q_4 = .inr (1, [.int (nI nf), .int c0, .long 0, .long 0, .long 0, .long 0]) := by rw [ef_31]; exact va_up_self _ _ _
      have hP : va_P (dC, dI) classes (va_pl L_6 f_31) H := by rw [ef_31]; exact hP
      have hD : va_D A (va_pl L_6 f_31) := by rw [ef_31]; exact hD
      refine fw_ast (D := (dC, dI)) (r := (R_Ac, F_Ac, 6)) (ci := 1) (n := 30) (g := (fun i => if i < nf then some (ad 1 i) else none)) hx hb hK hP hD hS hm_11 0 he_33 rfl hm_29 he_39 rfl (vp_in_nI (by omega) (by omega)) d_FB_fund_49 (fun H locs hP hD hS => ?_)
      rw [nI_clamp (by omega)] at hP hD
      obtain ⟨f_40, ef_40⟩ : ∃ z, z = va_up f_31 (ad 0 1) (.inl ((cs 0), 30, .inr (.inr (.inr (.inr (va_up (fun i => if i < nf then some (ad 1 i) else none) nf (some q_4))))))) := ⟨_, rfl⟩
      have he_41 : f_40 (ad 0 0) = .inr (0, [.ref (ad 0 1), .ref (ad 0 2), .ref (ad 0 3), .ref (ad 0 4), .ref (ad 0 5), .int (nI nf), .int (nI no), .int (nI nt), .int yr, .int bd, .int fl]) := by rw [ef_40, va_up_ne _ _ (CP.ne hC 0 0 0 1 (by rw [n0]; decide) (by rw [n0]; decide) (by decide))]; exact he_32
      have he_42 : f_40 (ad 0 1) = .inl ((cs 0), 30, .inr (.inr (.inr (.inr (va_up (fun i => if i < nf then some (ad 1 i) else none) nf (some q_4)))))) := by rw [ef_40]; exact va_up_self _ _ _
      have he_43 : f_40 (ad 0 2) = .inl ((cs 1), 300, .inr (.inr (.inr (.inr (fun i => if i < no then some (ad 2 i) else none))))) := by rw [ef_40, va_up_ne _ _ (Ne.symm (CP.ne hC 0 1 0 2 (by rw [n0]; decide) (by rw [n0]; decide) (by decide)))]; exact he_34
      have he_44 : f_40 (ad 0 3) = .inl ((cs 2), 100, .inr (.inr (.inr (.inr (fun i => if i < nt then some (ad 4 i) else none))))) := by rw [ef_40, va_up_ne _ _ (Ne.symm (CP.ne hC 0 1 0 3 (by rw [n0]; decide) (by rw [n0]; decide) (by decide)))]; exact he_35
      have he_45 : f_40 (ad 0 4) = .inl ((cs 3), 10, .inr (.inr (.inr (.inr (fun c => if AN 18 c = 0 then none else some (ad 6 (rx c (AN 18 c - 1)))))))) := by rw [ef_40, va_up_ne _ _ (Ne.symm (CP.ne hC 0 1 0 4 (by rw [n0]; decide) (by rw [n0]; decide) (by decide)))]; exact he_36
      have he_46 : f_40 (ad 0 5) = .inr (6, [.ref (ad 0 6), .int (nI nb), .long (m_tot AI nb)]) := by rw [ef_40, va_up_ne _ _ (Ne.symm (CP.ne hC 0 1 0 5 (by rw [n0]; decide) (by rw [n0]; decide) (by decide)))]; exact he_37
      have he_47 : f_40 (ad 0 6) = .inl ((cs 4), 20, .inr (.inr (.inr (.inr (fun r => if r < nb then some (ad 1 (AN 22 r)) else none))))) := by rw [ef_40, va_up_ne _ _ (Ne.symm (CP.ne hC 0 1 0 6 (by rw [n0]; decide) (by rw [n0]; decide) (by decide)))]; exact he_38
      have he_48 : f_40 q_4 = .inr (1, [.int (nI nf), .int c0, .long 0, .long 0, .long 0, .long 0]) := by rw [ef_40, va_up_ne _ _ (Ne.symm ne_12)]; exact he_39
      have hP : va_P (dC, dI) classes (va_pl L_6 f_40) H := by rw [ef_40]; exact hP
      have hD : va_D A (va_pl L_6 f_40) := by rw [ef_40]; exact hD
      refine lv_aload_n hx hb d_FB_fund_50 rfl (lv_at hl 1 rfl) ?_
      refine lv_dup hx hb d_FB_fund_51 rfl ?_
      refine fw_get (D := (dC, dI)) (ci := 0) (v := .int (nI nf)) (C := R_FB) (T := F_FB) (N := 11) hx hb hG iG_FB hown hK hP hm_8 he_41 rfl 5 (by decide) (hG _ k_72) (fun _ h9 => h9) rfl d_FB_fund_52 ?_
      refine lv_iconst (v := 1) hx hb d_FB_fund_55 (by decide) ?_
      refine lv_iadd hx hb d_FB_fund_56 ?_
      refine lv_topI (y := nI (nf + 1)) (nI_add nf 1) ?_
      refine fw_put (D := (dC, dI)) (ci := 0) (v := .int (nI (nf + 1))) (ty := .int) (C := R_FB) (T := F_FB) (N := 11) hx hb hG iG_FB t_FB t_FB_ok n_FB hown hK hP hD hS hm_8 he_41 rfl 5 (by decide) (hG _ k_72) (fun _ h9 => h9) rfl (by decide +kernel) rfl rfl (Nat.le_of_ble_eq_true rfl) d_FB_fund_57 (fun H locs hP hD hS => ?_)
      obtain ⟨f_49, ef_49⟩ : ∃ z, z = va_up f_40 (ad 0 0) (.inr (0, [.ref (ad 0 1), .ref (ad 0 2), .ref (ad 0 3), .ref (ad 0 4), .ref (ad 0 5), .int (nI (nf + 1)), .int (nI no), .int (nI nt), .int yr, .int bd, .int fl])) := ⟨_, rfl⟩
      have he_50 : f_49 (ad 0 0) = .inr (0, [.ref (ad 0 1), .ref (ad 0 2), .ref (ad 0 3), .ref (ad 0 4), .ref (ad 0 5), .int (nI (nf + 1)), .int (nI no), .int (nI nt), .int yr, .int bd, .int fl]) := by rw [ef_49]; exact va_up_self _ _ _
      have he_51 : f_49 (ad 0 1) = .inl ((cs 0), 30, .inr (.inr (.inr (.inr (va_up (fun i => if i < nf then some (ad 1 i) else none) nf (some q_4)))))) := by rw [ef_49, va_up_ne _ _ (Ne.symm (CP.ne hC 0 0 0 1 (by rw [n0]; decide) (by rw [n0]; decide) (by decide)))]; exact he_42
      have he_52 : f_49 (ad 0 2) = .inl ((cs 1), 300, .inr (.inr (.inr (.inr (fun i => if i < no then some (ad 2 i) else none))))) := by rw [ef_49, va_up_ne _ _ (Ne.symm (CP.ne hC 0 0 0 2 (by rw [n0]; decide) (by rw [n0]; decide) (by decide)))]; exact he_43
      have he_53 : f_49 (ad 0 3) = .inl ((cs 2), 100, .inr (.inr (.inr (.inr (fun i => if i < nt then some (ad 4 i) else none))))) := by rw [ef_49, va_up_ne _ _ (Ne.symm (CP.ne hC 0 0 0 3 (by rw [n0]; decide) (by rw [n0]; decide) (by decide)))]; exact he_44
      have he_54 : f_49 (ad 0 4) = .inl ((cs 3), 10, .inr (.inr (.inr (.inr (fun c => if AN 18 c = 0 then none else some (ad 6 (rx c (AN 18 c - 1)))))))) := by rw [ef_49, va_up_ne _ _ (Ne.symm (CP.ne hC 0 0 0 4 (by rw [n0]; decide) (by rw [n0]; decide) (by decide)))]; exact he_45
      have he_55 : f_49 (ad 0 5) = .inr (6, [.ref (ad 0 6), .int (nI nb), .long (m_tot AI nb)]) := by rw [ef_49, va_up_ne _ _ (Ne.symm (CP.ne hC 0 0 0 5 (by rw [n0]; decide) (by rw [n0]; decide) (by decide)))]; exact he_46
      have he_56 : f_49 (ad 0 6) = .inl ((cs 4), 20, .inr (.inr (.inr (.inr (fun r => if r < nb then some (ad 1 (AN 22 r)) else none))))) := by rw [ef_49, va_up_ne _ _ (Ne.symm (CP.ne hC 0 0 0 6 (by rw [n0]; decide) (by rw [n0]; decide) (by decide)))]; exact he_47
      have he_57 : f_49 q_4 = .inr (1, [.int (nI nf), .int c0, .long 0, .long 0, .long 0, .long 0]) := by rw [ef_49, va_up_ne _ _ (Ne.symm ne_9)]; exact he_48
      have hP : va_P (dC, dI) classes (va_pl L_6 f_49) H := by rw [ef_49]; exact hP
      have hD : va_D A (va_pl L_6 f_49) := by rw [ef_49]; exact hD
      refine lv_iload_n hx hb d_FB_fund_60 rfl (lv_at hl 0 rfl) ?_
      have hcall : m_fund (th, yr, nf, no, nt, bd, nb, fl, AI, AN, AB, AL) c0 = ((nI nf), (0, yr, nf + 1, no, nt, bd, nb, fl, u2 AI 1 nf c0, AN, AB, AL)) := (by simp [m_fund, ixn, bI, c_2, hz] <;> (repeat' apply And.intro) <;> rfl)
      have hcs : CS cs (ad 0 0) (0, yr, nf + 1, no, nt, bd, nb, fl, u2 AI 1 nf c0, AN, AB, AL) L_6 f_49 := (by rw [ef_49, ef_40, ef_31, ef_5, eL_6]; exact CS_fund hC hR hM hB hZ hlt hq_q_4 c_2 _)
      refine W.widen (k := 1) (n := 6) (Nat.le_of_ble_eq_true rfl) (Nat.le_of_ble_eq_true rfl) ?_
      exact W.iret (v := (nI nf)) hx hb hr (fun t ht hW => ⟨⟨_, (L_6, f_49), rfl, by rw [hcall]; exact ⟨rfl, hcs⟩, by rw [ht]; exact hP, va_K.moved hW.alike hK, hD⟩, hS.F ht⟩) hS.2.2 d_FB_fund_61
    · have hz : nf = 30 := by have h9 := (not_congr (nI_ltI (a := nf) (b := 30) (by omega) (by decide))).mp c_3; omega
      refine lv_bipush (v := (-4)) hx hb d_FB_fund_27 (by decide) ?_
      have hcall : m_fund (th, yr, nf, no, nt, bd, nb, fl, AI, AN, AB, AL) c0 = ((-4), (0, yr, nf, no, nt, bd, nb, fl, AI, AN, AB, AL)) := (by simp [m_fund, ixn, bI, c_2, hz] <;> (repeat' apply And.intro) <;> rfl)
      have hcs : CS cs (ad 0 0) (0, yr, nf, no, nt, bd, nb, fl, AI, AN, AB, AL) L f := ⟨n, ad, e0, bl, rx, rfl, hC, hR, hM, hB, hZ⟩
      refine W.widen (k := 1) (n := 6) (Nat.le_of_ble_eq_true rfl) (Nat.le_of_ble_eq_true rfl) ?_
      exact W.iret (v := (-4)) hx hb hr (fun t ht hW => ⟨⟨_, (L, f), rfl, by rw [hcall]; exact ⟨rfl, hcs⟩, by rw [ht]; exact hP, va_K.moved hW.alike hK, hD⟩, hS.F ht⟩) hS.2.2 d_FB_fund_29
  · refine lv_bipush (v := (-2)) hx hb d_FB_fund_12 (by decide) ?_
    have hcall : m_fund (th, yr, nf, no, nt, bd, nb, fl, AI, AN, AB, AL) c0 = ((-2), (0, yr, nf, no, nt, bd, nb, fl, AI, AN, AB, AL)) := (by simp [m_fund, ixn, bI, c_2] <;> (repeat' apply And.intro) <;> rfl)
    have hcs : CS cs (ad 0 0) (0, yr, nf, no, nt, bd, nb, fl, AI, AN, AB, AL) L f := ⟨n, ad, e0, bl, rx, rfl, hC, hR, hM, hB, hZ⟩
    refine W.widen (k := 1) (n := 6) (Nat.le_of_ble_eq_true rfl) (Nat.le_of_ble_eq_true rfl) ?_
    exact W.iret (v := (-2)) hx hb hr (fun t ht hW => ⟨⟨_, (L, f), rfl, by rw [hcall]; exact ⟨rfl, hcs⟩, by rw [ht]; exact hP, va_K.moved hW.alike hK, hD⟩, hS.F ht⟩) hS.2.2 d_FB_fund_14
