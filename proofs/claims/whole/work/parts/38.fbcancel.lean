/-- the encumbered cents when order i comes to another state -/
theorem enc_set {AI : Nat → Nat → Int32} {AN : Nat → Nat → Nat} {AI' : Nat → Nat → Int32} {no i : Nat} (hi : i < no) (h5 : ∀ k, k < no → AI' 5 k = AI 5 k) (h7 : ∀ k, k < no → k ≠ i → AI' 7 k = AI 7 k) (x : Int32) : m_enc AI' AN no x = m_enc AI AN no x + ((if nI (AN 4 i) = x ∧ AI' 7 i = 1 then (AI 5 i).toInt64 else 0) - (if nI (AN 4 i) = x ∧ AI 7 i = 1 then (AI 5 i).toInt64 else 0)) := by
  unfold m_enc
  rw [sumL_one (g := fun i => if nI (AN 4 i) = x ∧ AI 7 i = 1 then (AI 5 i).toInt64 else 0) hi (fun k hk hne => by rw [h5 k hk, h7 k hk hne]), h5 i hi]

theorem SR_cancel {n : Nat → Nat} {ad : Nat → Nat → Nat} {e : Nat → Nat → va_E} {cs : Nat → ClassId} {bl : Nat → Nat → Int64} {rx : Nat → Nat → Nat} {yr : Int32} {nf no nt : Nat} {bd : Int32} {nb : Nat} {fl : Int32} {AI : Nat → Nat → Int32} {AN : Nat → Nat → Nat} {AB : Nat → Nat → Bool} {AL : Nat → Nat → Int64} (hR : SR n ad e cs bl rx yr nf no nt bd nb fl AI AN AB AL) (hnf : nf ≤ 30) (hfu : ∀ i, i < no → AN 4 i < nf) (j : Nat) (hj : j < no) (h7 : AI 7 j = 0 ∨ AI 7 j = 1) : SR n ad (up2 (up2 e 1 (AN 4 j) (oAcc (nI (AN 4 j)) (AI 1 (AN 4 j)) (AL 2 (AN 4 j)) (m_enc AI AN no (nI (AN 4 j)) - (if AI 7 j = 1 then AI 5 j else 0).toInt64) (AL 3 (AN 4 j)) (m_bat AI AN nb (nI (AN 4 j))))) 2 j (oPur (ad 1 (AN 4 j)) (AI 5 j) (bI (AB 6 j)) (ad 3 j) 3 (AI 11 j) (AI 12 j) (AL 10 j))) cs bl rx yr nf no nt bd nb fl (u2 AI 7 j 3) AN AB AL := by
  obtain ⟨hn, e00, e01, e02, e03, e04, e05, e06, e1, e2, e3, e4, e5, e6⟩ := hR
  refine ⟨?_, ?_, ?_, ?_, ?_, ?_, ?_, ?_, ?_, ?_, ?_, ?_, ?_, ?_⟩
  · simpa [up2, u2, va_up] using hn
  · simpa [up2, u2, va_up] using e00
  · simpa [up2, u2, va_up] using e01
  · simpa [up2, u2, va_up] using e02
  · simpa [up2, u2, va_up] using e03
  · simpa [up2, u2, va_up] using e04
  · simpa [up2, u2, va_up, m_tot] using e05
  · simpa [up2, u2, va_up] using e06
  · intro i hi
    have es := enc_set (AI := AI) (AN := AN) (AI' := u2 AI 7 j 3) hj (fun k _ => rfl) (fun k _ hk => by simp [u2, va_up, hk]) (nI i)
    have h9 := hfu j hj
    have h73 : (u2 AI 7 j 3) 7 j = 3 := by simp [u2, va_up]
    have eb : m_bat (u2 AI 7 j 3) AN nb (nI i) = m_bat AI AN nb (nI i) := rfl
    rw [es, h73, eb]
    by_cases h : i = AN 4 j
    · subst h
      rw [up2_k _ _ _ _ (by decide), up2_self]
      rcases h7 with h7 | h7 <;> simp [h7, u2, va_up] <;> grind
    · have hne : ¬ nI (AN 4 j) = nI i := fun q => h ((nI_eq (by omega) (by omega)).mp q).symm
      rw [up2_k _ _ _ _ (by decide), up2_i _ _ _ _ h, e1 i hi]
      simp [hne, u2, va_up]
  · intro i hi
    by_cases h : i = j
    · subst h; simp [up2, u2, va_up]
    · simpa [up2, u2, va_up, h] using e2 i hi
  · intro i hi; simpa [up2, u2, va_up] using e3 i hi
  · intro i hi; simpa [up2, u2, va_up] using e4 i hi
  · intro i hi; simpa [up2, u2, va_up] using e5 i hi
  · intro c r hc hr; simpa [up2, u2, va_up] using e6 c r hc hr

theorem InvB_st {no nt : Nat} {AI : Nat → Nat → Int32} {AB : Nat → Nat → Bool} {bl : Nat → Nat → Int64} (h : InvB no nt AI AB bl) (j : Nat) (v : Int32) (hv : v ≠ 0) : InvB no nt (u2 AI 7 j v) AB bl := by
  refine ⟨fun i hi h7 => ?_, h.2⟩
  by_cases q : i = j
  · subst q
    simp [u2, va_up] at h7
    exact absurd h7 hv
  · have h8 : AI 7 i = 0 := by simpa [u2, va_up, q] using h7
    simpa [u2, va_up] using h.1 i hi h8
theorem InvS_st {nf no nt : Nat} {yr : Int32} {AI : Nat → Nat → Int32} {AB : Nat → Nat → Bool} {AL : Nat → Nat → Int64} (h : InvS nf no nt yr AI AB AL) (j : Nat) (v : Int32) (hv : v = 0 ∨ v = 1 ∨ v = 2 ∨ v = 3) : InvS nf no nt yr (u2 AI 7 j v) AB AL := by
  refine ⟨h.1, fun i hi => ?_, h.2.2.1, h.2.2.2.1, h.2.2.2.2⟩
  by_cases q : i = j
  · subst q; simpa [u2, va_up] using hv
  · simpa [u2, va_up, q] using h.2.1 i hi

theorem d_FB_cancel_0 : decode b_FB_cancel 0 = .ok (.aload_n 0, 1) := by decide +kernel
theorem d_FB_cancel_1 : decode b_FB_cancel 1 = .ok (.iload_n 1, 1) := by decide +kernel
theorem d_FB_cancel_2 : decode b_FB_cancel 2 = .ok (.invokevirtual 99, 3) := by decide +kernel
theorem d_FB_cancel_5 : decode b_FB_cancel 5 = .ok (.astore_n 2, 1) := by decide +kernel
theorem d_FB_cancel_6 : decode b_FB_cancel 6 = .ok (.aload_n 2, 1) := by decide +kernel
theorem d_FB_cancel_7 : decode b_FB_cancel 7 = .ok (.ifnonnull 5, 3) := by decide +kernel
theorem d_FB_cancel_10 : decode b_FB_cancel 10 = .ok (.iconst (-1), 1) := by decide +kernel
theorem d_FB_cancel_11 : decode b_FB_cancel 11 = .ok (.ireturn, 1) := by decide +kernel
theorem d_FB_cancel_12 : decode b_FB_cancel 12 = .ok (.aload_n 2, 1) := by decide +kernel
theorem d_FB_cancel_13 : decode b_FB_cancel 13 = .ok (.getfield 105, 3) := by decide +kernel
theorem d_FB_cancel_16 : decode b_FB_cancel 16 = .ok (.iconst 2, 1) := by decide +kernel
theorem d_FB_cancel_17 : decode b_FB_cancel 17 = .ok (.if_icmp .eq 11, 3) := by decide +kernel
theorem d_FB_cancel_20 : decode b_FB_cancel 20 = .ok (.aload_n 2, 1) := by decide +kernel
theorem d_FB_cancel_21 : decode b_FB_cancel 21 = .ok (.getfield 105, 3) := by decide +kernel
theorem d_FB_cancel_24 : decode b_FB_cancel 24 = .ok (.iconst 3, 1) := by decide +kernel
theorem d_FB_cancel_25 : decode b_FB_cancel 25 = .ok (.if_icmp .ne 6, 3) := by decide +kernel
theorem d_FB_cancel_28 : decode b_FB_cancel 28 = .ok (.bipush (-3), 2) := by decide +kernel
theorem d_FB_cancel_30 : decode b_FB_cancel 30 = .ok (.ireturn, 1) := by decide +kernel
theorem d_FB_cancel_31 : decode b_FB_cancel 31 = .ok (.aload_n 2, 1) := by decide +kernel
theorem d_FB_cancel_32 : decode b_FB_cancel 32 = .ok (.getfield 105, 3) := by decide +kernel
theorem d_FB_cancel_35 : decode b_FB_cancel 35 = .ok (.iconst 1, 1) := by decide +kernel
theorem d_FB_cancel_36 : decode b_FB_cancel 36 = .ok (.if_icmp .ne 10, 3) := by decide +kernel
theorem d_FB_cancel_39 : decode b_FB_cancel 39 = .ok (.aload_n 2, 1) := by decide +kernel
theorem d_FB_cancel_40 : decode b_FB_cancel 40 = .ok (.getfield 165, 3) := by decide +kernel
theorem d_FB_cancel_43 : decode b_FB_cancel 43 = .ok (.goto 4, 3) := by decide +kernel
theorem d_FB_cancel_46 : decode b_FB_cancel 46 = .ok (.iconst 0, 1) := by decide +kernel
theorem d_FB_cancel_47 : decode b_FB_cancel 47 = .ok (.istore_n 3, 1) := by decide +kernel
theorem d_FB_cancel_48 : decode b_FB_cancel 48 = .ok (.aload_n 2, 1) := by decide +kernel
theorem d_FB_cancel_49 : decode b_FB_cancel 49 = .ok (.getfield 168, 3) := by decide +kernel
theorem d_FB_cancel_52 : decode b_FB_cancel 52 = .ok (.dup, 1) := by decide +kernel
theorem d_FB_cancel_53 : decode b_FB_cancel 53 = .ok (.getfield 172, 3) := by decide +kernel
theorem d_FB_cancel_56 : decode b_FB_cancel 56 = .ok (.iload_n 3, 1) := by decide +kernel
theorem d_FB_cancel_57 : decode b_FB_cancel 57 = .ok (.i2l, 1) := by decide +kernel
theorem d_FB_cancel_58 : decode b_FB_cancel 58 = .ok (.lsub, 1) := by decide +kernel
theorem d_FB_cancel_59 : decode b_FB_cancel 59 = .ok (.putfield 172, 3) := by decide +kernel
theorem d_FB_cancel_62 : decode b_FB_cancel 62 = .ok (.aload_n 2, 1) := by decide +kernel
theorem d_FB_cancel_63 : decode b_FB_cancel 63 = .ok (.iconst 3, 1) := by decide +kernel
theorem d_FB_cancel_64 : decode b_FB_cancel 64 = .ok (.putfield 105, 3) := by decide +kernel
theorem d_FB_cancel_67 : decode b_FB_cancel 67 = .ok (.iload_n 3, 1) := by decide +kernel
theorem d_FB_cancel_68 : decode b_FB_cancel 68 = .ok (.ireturn, 1) := by decide +kernel
set_option maxHeartbeats 4000000 in
set_option maxRecDepth 100000 in
theorem c_FB_cancel (l : Launch) (dC : Nat → ClassId) (dI : Nat → Nat → Nat) (cs : Nat → ClassId) (o : Nat) (th yr : Int32) (nf no nt : Nat) (bd : Int32) (nb : Nat) (fl : Int32) (AI : Nat → Nat → Int32) (AN : Nat → Nat → Nat) (AB : Nat → Nat → Bool) (AL : Nat → Nat → Int64) (L : List Nat) (f : Nat → va_E) (sz : Nat) (i0 : Int32) (hCS : CS cs o (th, yr, nf, no, nt, bd, nb, fl, AI, AN, AB, AL) L f) : Met l y_FB_cancel w_FB_cancel { frames := 2, cells := 0, slots := 0, locals := 46 } (mu_P (dC, dI) classes (ctys cs) (va_pl L f) sz [.ref o, .int i0]) (va_Qi (fun r u => r = (m_cancel (th, yr, nf, no, nt, bd, nb, fl, AI, AN, AB, AL) i0).1 ∧ CS cs o (m_cancel (th, yr, nf, no, nt, bd, nb, fl, AI, AN, AB, AL) i0).2 u.1 u.2) (mu_B (dC, dI) classes (ctys cs) (va_A (va_pl L f) sz) fw_w) (va_A (va_pl L f) sz)) 0 0 (va_A (va_pl L f) sz) := by
  obtain ⟨n, ad, e0, bl, rx, rfl, hC, hR, hM, hB, hZ⟩ := hCS
  obtain ⟨⟨n0, n1, n2, n3, n4, n5⟩, e00, e01, e02, e03, e04, e05, e06, e1, e2, e3, e4, e5, e6⟩ := id hR
  obtain ⟨hnf, hno, hnt, hnb, hfu, hft, hbf, hrw, hce, hdn⟩ := id hM
  have hm00 : ad 0 0 ∈ L := (hC.1 0 0 (by rw [n0]; decide)).1
  have he00 : f (ad 0 0) = .inr (0, [.ref (ad 0 1), .ref (ad 0 2), .ref (ad 0 3), .ref (ad 0 4), .ref (ad 0 5), .int (nI nf), .int (nI no), .int (nI nt), .int yr, .int bd, .int fl]) := (hC.1 0 0 (by rw [n0]; decide)).2.trans e00
  have hm01 : ad 0 1 ∈ L := (hC.1 0 1 (by rw [n0]; decide)).1
  have he01 : f (ad 0 1) = .inl ((cs 0), 30, .inr (.inr (.inr (.inr (fun i => if i < nf then some (ad 1 i) else none))))) := (hC.1 0 1 (by rw [n0]; decide)).2.trans e01
  have hm02 : ad 0 2 ∈ L := (hC.1 0 2 (by rw [n0]; decide)).1
  have he02 : f (ad 0 2) = .inl ((cs 1), 300, .inr (.inr (.inr (.inr (fun i => if i < no then some (ad 2 i) else none))))) := (hC.1 0 2 (by rw [n0]; decide)).2.trans e02
  have hm03 : ad 0 3 ∈ L := (hC.1 0 3 (by rw [n0]; decide)).1
  have he03 : f (ad 0 3) = .inl ((cs 2), 100, .inr (.inr (.inr (.inr (fun i => if i < nt then some (ad 4 i) else none))))) := (hC.1 0 3 (by rw [n0]; decide)).2.trans e03
  have hm04 : ad 0 4 ∈ L := (hC.1 0 4 (by rw [n0]; decide)).1
  have he04 : f (ad 0 4) = .inl ((cs 3), 10, .inr (.inr (.inr (.inr (fun c => if AN 18 c = 0 then none else some (ad 6 (rx c (AN 18 c - 1)))))))) := (hC.1 0 4 (by rw [n0]; decide)).2.trans e04
  have hm05 : ad 0 5 ∈ L := (hC.1 0 5 (by rw [n0]; decide)).1
  have he05 : f (ad 0 5) = .inr (6, [.ref (ad 0 6), .int (nI nb), .long (m_tot AI nb)]) := (hC.1 0 5 (by rw [n0]; decide)).2.trans e05
  have hm06 : ad 0 6 ∈ L := (hC.1 0 6 (by rw [n0]; decide)).1
  have he06 : f (ad 0 6) = .inl ((cs 4), 20, .inr (.inr (.inr (.inr (fun r => if r < nb then some (ad 1 (AN 22 r)) else none))))) := (hC.1 0 6 (by rw [n0]; decide)).2.trans e06
  refine Met.ofW (cc := b_FB_cancel) (maxL := 4) (ret := (some .int)) (by decide) rfl ?_
  intro p e s m args below meth c s₁ B hml hv
  obtain ⟨rfl, hsz, hP, hK, hD0, hN⟩ := hv
  have hx := B.exec
  have hb := B.bytes
  have hr := B.returns
  have hts := atoms_spec (ws := w_FB_cancel) B.pre
  have hG := fun (w : Cond) (h : w ∈ wG) => hts w (List.mem_cons_of_mem _ h)
  have hown : s.vm.findClass R_FB = some m.cls := findClass_of_methodNamed B.named
  have hlocks := B.notSynchronized
  subst hsz
  have hD := hD0.self (sz := s.heap.size)
  generalize hAe : va_A (va_pl L f) s.heap.size = A at hD ⊢
  have hA : ∀ q : Nat, s.heap.size ≤ q → A q := fun q h => by rw [← hAe]; exact Or.inr h
  have hS : va_S A s.heap s.heap [] := va_S.rf
  have hP : va_P (dC, dI) classes (va_pl L f) s.heap := hP
  have hl := lv_entry ([.ref (ad 0 0), .int i0]) (n := 4) (Nat.le_of_ble_eq_true rfl)
  rw [lg_entry_eq]
  generalize (lg_sl ([.ref (ad 0 0), .int i0]) ++ List.replicate (4 - (lg_sl ([.ref (ad 0 0), .int i0])).length) Slot.unset).toArray = ls at hl ⊢
  have hl : lv_has ls 4 [(0, .ref (ad 0 0)), (1, .int i0)] := hl
  refine lv_aload_n hx hb d_FB_cancel_0 rfl (lv_at hl 0 rfl) ?_
  refine lv_iload_n hx hb d_FB_cancel_1 rfl (lv_at hl 1 rfl) ?_
  refine rd_callq (va_runV (As := [.int i0]) (rest := []) ⟨hx, hb, hml, hown, hts⟩ (c_FB_purchaseAt l dC dI (ctys cs) L f (ad 0 0) (ad 0 2) (nI nf) (nI no) (nI nt) yr bd fl (ad 0 1) (ad 0 3) (ad 0 4) (ad 0 5) (cs 1) (fun i => if i < no then some (ad 2 i) else none) i0 hm00 he00 hm02 he02 rfl) (cwV 1 hts (gd_V k_231 k_233 k_1 k_14 k_234) rfl rfl rfl (by decide +kernel) ⟨Nat.le_of_ble_eq_true rfl, Nat.le_of_ble_eq_true rfl⟩) (fw_preV hK hN hP rfl hm00 he00) rfl rfl hl.1 rfl (lv_room (Nat.le_of_ble_eq_true rfl)) d_FB_cancel_2 ⟨Nat.zero_le _, Nat.zero_le _⟩) (fun r_1 hr_1 => ?_)
  rcases at_cases hno (by decide) hr_1 with ⟨hq_i0, rfl⟩ | ⟨j, hj, rfl, rfl⟩
  · refine W.eq (g2 := F0 m 5 ls [.null]) rfl ?_
    refine lv_astore_nN (lv' := [(2, .null), (0, .ref (ad 0 0)), (1, .int i0)]) hx hb d_FB_cancel_5 rfl hl (by decide) rfl (fun ls hl => ?_)
    refine lv_aload_nN hx hb d_FB_cancel_6 rfl (lv_at hl 0 rfl) ?_
    refine lv_ifnonnullN hx hb d_FB_cancel_7 ?_
    refine lv_iconst (v := (-1)) hx hb d_FB_cancel_10 (by decide) ?_
    have hcall : m_cancel (th, yr, nf, no, nt, bd, nb, fl, AI, AN, AB, AL) i0 = ((-1), (0, yr, nf, no, nt, bd, nb, fl, AI, AN, AB, AL)) := (by simp [m_cancel, ixn, bI, hq_i0] <;> (repeat' apply And.intro) <;> rfl)
    have hcs : CS cs (ad 0 0) (0, yr, nf, no, nt, bd, nb, fl, AI, AN, AB, AL) L f := ⟨n, ad, e0, bl, rx, rfl, hC, hR, hM, hB, hZ⟩
    exact W.iret (v := (-1)) hx hb hr (fun t ht hW => ⟨⟨_, (L, f), rfl, by rw [hcall]; exact ⟨rfl, hcs⟩, by rw [ht]; exact hP, va_K.moved hW.alike hK, hD⟩, hS.F ht⟩) hS.2.2 d_FB_cancel_11
  · have ej : (nI j).toNatClampNeg = j := nI_clamp (by omega)
    have hi_j : inN (nI j) no = true := inN_yes (by omega) hj
    refine W.eq (g2 := F0 m 5 ls [.ref (ad 2 j)]) rfl ?_
    have hm_y_2 : ad 2 j ∈ L := (hC.1 2 j (by rw [n2]; exact hj)).1
    have he_y_2 : f (ad 2 j) = .inr (2, [.ref (ad 1 (AN 4 j)), .int (AI 5 j), .int (bI (AB 6 j)), .ref (ad 3 j), .int (AI 7 j), .int (AI 11 j), .int (AI 12 j), .long (AL 10 j)]) := (hC.1 2 j (by rw [n2]; exact hj)).2.trans (e2 j hj)
    have hm_y_3 : ad 3 j ∈ L := (hC.1 3 j (by rw [n3]; exact hj)).1
    have he_y_3 : f (ad 3 j) = .inr (4, [.long (bl 0 j), .long (bl 1 j), .int (AI 9 j)]) := (hC.1 3 j (by rw [n3]; exact hj)).2.trans (e3 j hj)
    have hm_y_4 : ad 1 (AN 4 j) ∈ L := (hC.1 1 (AN 4 j) (by rw [n1]; exact (hfu j hj))).1
    have he_y_4 : f (ad 1 (AN 4 j)) = .inr (1, [.int (nI (AN 4 j)), .int (AI 1 (AN 4 j)), .long (AL 2 (AN 4 j)), .long (m_enc AI AN no (nI (AN 4 j))), .long (AL 3 (AN 4 j)), .long (m_bat AI AN nb (nI (AN 4 j)))]) := (hC.1 1 (AN 4 j) (by rw [n1]; exact (hfu j hj))).2.trans (e1 (AN 4 j) (hfu j hj))
    refine lv_astore_n (lv' := [(2, .ref (ad 2 j)), (0, .ref (ad 0 0)), (1, .int (nI j))]) hx hb d_FB_cancel_5 rfl hl (by decide) rfl (fun ls hl => ?_)
    refine lv_aload_n hx hb d_FB_cancel_6 rfl (lv_at hl 0 rfl) ?_
    refine lv_ifnonnull (tgt := 12) hx hb d_FB_cancel_7 (by decide) ?_
    have h7 := hZ.2.1 j hj
    refine lv_aload_n hx hb d_FB_cancel_12 rfl (lv_at hl 0 rfl) ?_
    refine fw_getN (D := (dC, dI)) (ci := 2) (v := .int (AI 7 j)) (C := R_Pu) (T := F_Pu) (N := 8) hx hb hG iG_Pu hown hK hP hm_y_2 he_y_2 rfl 4 (by decide) (hN.use k_199) (fun _ h9 => h9) rfl d_FB_cancel_13 ?_
    refine lv_iconst (v := 2) hx hb d_FB_cancel_16 (by decide) ?_
    refine lv_icmp_eq (tgt := 28) hx hb d_FB_cancel_17 (by decide) (fun c_5 => ?_) (fun c_5 => ?_)
    · have hbig : 1 < AI 7 j := by rw [c_5]; decide
      refine lv_bipush (v := (-3)) hx hb d_FB_cancel_28 (by decide) ?_
      have hcall : m_cancel (th, yr, nf, no, nt, bd, nb, fl, AI, AN, AB, AL) (nI j) = ((-3), (0, yr, nf, no, nt, bd, nb, fl, AI, AN, AB, AL)) := (by simp [m_cancel, ixn, bI, ej, hi_j, hbig] <;> (repeat' apply And.intro) <;> rfl)
      have hcs : CS cs (ad 0 0) (0, yr, nf, no, nt, bd, nb, fl, AI, AN, AB, AL) L f := ⟨n, ad, e0, bl, rx, rfl, hC, hR, hM, hB, hZ⟩
      exact W.iret (v := (-3)) hx hb hr (fun t ht hW => ⟨⟨_, (L, f), rfl, by rw [hcall]; exact ⟨rfl, hcs⟩, by rw [ht]; exact hP, va_K.moved hW.alike hK, hD⟩, hS.F ht⟩) hS.2.2 d_FB_cancel_30
    · refine lv_aload_n hx hb d_FB_cancel_20 rfl (lv_at hl 0 rfl) ?_
      refine fw_getN (D := (dC, dI)) (ci := 2) (v := .int (AI 7 j)) (C := R_Pu) (T := F_Pu) (N := 8) hx hb hG iG_Pu hown hK hP hm_y_2 he_y_2 rfl 4 (by decide) (hN.use k_199) (fun _ h9 => h9) rfl d_FB_cancel_21 ?_
      refine lv_iconst (v := 3) hx hb d_FB_cancel_24 (by decide) ?_
      refine lv_icmp_ne (tgt := 31) hx hb d_FB_cancel_25 (by decide) (fun c_6 => ?_) (fun c_6 => ?_)
      · have h77 : AI 7 j = 0 ∨ AI 7 j = 1 := by rcases h7 with q | q | q | q; exact Or.inl q; exact Or.inr q; exact absurd q c_5; exact absurd q c_6
        have hbig : ¬ 1 < AI 7 j := by rcases h77 with q | q <;> rw [q] <;> decide
        refine lv_aload_n hx hb d_FB_cancel_31 rfl (lv_at hl 0 rfl) ?_
        refine fw_getN (D := (dC, dI)) (ci := 2) (v := .int (AI 7 j)) (C := R_Pu) (T := F_Pu) (N := 8) hx hb hG iG_Pu hown hK hP hm_y_2 he_y_2 rfl 4 (by decide) (hN.use k_199) (fun _ h9 => h9) rfl d_FB_cancel_32 ?_
        refine lv_iconst (v := 1) hx hb d_FB_cancel_35 (by decide) ?_
        refine lv_icmp_ne (tgt := 46) hx hb d_FB_cancel_36 (by decide) (fun c_7 => ?_) (fun c_7 => ?_)
        · refine lv_iconst (v := 0) hx hb d_FB_cancel_46 (by decide) ?_
          refine lv_topI (y := (if AI 7 j = 1 then AI 5 j else 0)) (by simp [c_7]) ?_
          refine lv_istore_n (lv' := [(3, .int (if AI 7 j = 1 then AI 5 j else 0)), (2, .ref (ad 2 j)), (0, .ref (ad 0 0)), (1, .int (nI j))]) hx hb d_FB_cancel_47 rfl hl (by decide) rfl (fun ls hl => ?_)
          refine lv_aload_n hx hb d_FB_cancel_48 rfl (lv_at hl 1 rfl) ?_
          refine fw_getN (D := (dC, dI)) (ci := 2) (v := .ref (ad 1 (AN 4 j))) (C := R_Pu) (T := F_Pu) (N := 8) hx hb hG iG_Pu hown hK hP hm_y_2 he_y_2 rfl 0 (by decide) (hN.use k_192) (fun _ h9 => h9) rfl d_FB_cancel_49 ?_
          refine lv_dup hx hb d_FB_cancel_52 rfl ?_
          refine fw_getN (D := (dC, dI)) (ci := 1) (v := .long (m_enc AI AN no (nI (AN 4 j)))) (C := R_Ac) (T := F_Ac) (N := 6) hx hb hG iG_Ac hown hK hP hm_y_4 he_y_4 rfl 3 (by decide) (hN.use k_123) (fun _ h9 => h9) rfl d_FB_cancel_53 ?_
          refine lv_iload_n hx hb d_FB_cancel_56 rfl (lv_at hl 0 rfl) ?_
          refine lv_i2l hx hb d_FB_cancel_57 rfl ?_
          refine lv_lsub hx hb d_FB_cancel_58 ?_
          refine fw_putN (D := (dC, dI)) (ci := 1) (v := .long (m_enc AI AN no (nI (AN 4 j)) - ((if AI 7 j = 1 then AI 5 j else 0).toInt64))) (ty := .long) (C := R_Ac) (T := F_Ac) (N := 6) hx hb hG iG_Ac t_Ac t_Ac_ok n_Ac hown hK hP hD hS hm_y_4 he_y_4 rfl 3 (by decide) (hN.use k_123) (fun _ h9 => h9) rfl (by decide +kernel) rfl rfl (Nat.le_of_ble_eq_true rfl) d_FB_cancel_59 (fun H locs hP hD hS => ?_)
          obtain ⟨f_8, ef_8⟩ : ∃ z, z = va_up f (ad 1 (AN 4 j)) (.inr (1, [.int (nI (AN 4 j)), .int (AI 1 (AN 4 j)), .long (AL 2 (AN 4 j)), .long (m_enc AI AN no (nI (AN 4 j)) - ((if AI 7 j = 1 then AI 5 j else 0).toInt64)), .long (AL 3 (AN 4 j)), .long (m_bat AI AN nb (nI (AN 4 j)))])) := ⟨_, rfl⟩
          have he_9 : f_8 (ad 0 0) = .inr (0, [.ref (ad 0 1), .ref (ad 0 2), .ref (ad 0 3), .ref (ad 0 4), .ref (ad 0 5), .int (nI nf), .int (nI no), .int (nI nt), .int yr, .int bd, .int fl]) := by rw [ef_8, va_up_ne _ _ (fw_ne he00 he_y_4 (show (1 : Nat) ≠ 2 by decide))]; exact he00
          have he_10 : f_8 (ad 0 1) = .inl ((cs 0), 30, .inr (.inr (.inr (.inr (fun i => if i < nf then some (ad 1 i) else none))))) := by rw [ef_8, va_up_ne _ _ (fw_ne he01 he_y_4 (show (0 : Nat) ≠ 2 by decide))]; exact he01
          have he_11 : f_8 (ad 0 2) = .inl ((cs 1), 300, .inr (.inr (.inr (.inr (fun i => if i < no then some (ad 2 i) else none))))) := by rw [ef_8, va_up_ne _ _ (fw_ne he02 he_y_4 (show (0 : Nat) ≠ 2 by decide))]; exact he02
          have he_12 : f_8 (ad 0 3) = .inl ((cs 2), 100, .inr (.inr (.inr (.inr (fun i => if i < nt then some (ad 4 i) else none))))) := by rw [ef_8, va_up_ne _ _ (fw_ne he03 he_y_4 (show (0 : Nat) ≠ 2 by decide))]; exact he03
          have he_13 : f_8 (ad 0 4) = .inl ((cs 3), 10, .inr (.inr (.inr (.inr (fun c => if AN 18 c = 0 then none else some (ad 6 (rx c (AN 18 c - 1)))))))) := by rw [ef_8, va_up_ne _ _ (fw_ne he04 he_y_4 (show (0 : Nat) ≠ 2 by decide))]; exact he04
          have he_14 : f_8 (ad 0 5) = .inr (6, [.ref (ad 0 6), .int (nI nb), .long (m_tot AI nb)]) := by rw [ef_8, va_up_ne _ _ (fw_ne he05 he_y_4 (show (7 : Nat) ≠ 2 by decide))]; exact he05
          have he_15 : f_8 (ad 0 6) = .inl ((cs 4), 20, .inr (.inr (.inr (.inr (fun r => if r < nb then some (ad 1 (AN 22 r)) else none))))) := by rw [ef_8, va_up_ne _ _ (fw_ne he06 he_y_4 (show (0 : Nat) ≠ 2 by decide))]; exact he06
          have he_16 : f_8 (ad 2 j) = .inr (2, [.ref (ad 1 (AN 4 j)), .int (AI 5 j), .int (bI (AB 6 j)), .ref (ad 3 j), .int (AI 7 j), .int (AI 11 j), .int (AI 12 j), .long (AL 10 j)]) := by rw [ef_8, va_up_ne _ _ (fw_ne he_y_2 he_y_4 (show (3 : Nat) ≠ 2 by decide))]; exact he_y_2
          have he_17 : f_8 (ad 3 j) = .inr (4, [.long (bl 0 j), .long (bl 1 j), .int (AI 9 j)]) := by rw [ef_8, va_up_ne _ _ (fw_ne he_y_3 he_y_4 (show (5 : Nat) ≠ 2 by decide))]; exact he_y_3
          have he_18 : f_8 (ad 1 (AN 4 j)) = .inr (1, [.int (nI (AN 4 j)), .int (AI 1 (AN 4 j)), .long (AL 2 (AN 4 j)), .long (m_enc AI AN no (nI (AN 4 j)) - ((if AI 7 j = 1 then AI 5 j else 0).toInt64)), .long (AL 3 (AN 4 j)), .long (m_bat AI AN nb (nI (AN 4 j)))]) := by rw [ef_8]; exact va_up_self _ _ _
          have hP : va_P (dC, dI) classes (va_pl L f_8) H := by rw [ef_8]; exact hP
          have hD : va_D A (va_pl L f_8) := by rw [ef_8]; exact hD
          refine lv_aload_n hx hb d_FB_cancel_62 rfl (lv_at hl 1 rfl) ?_
          refine lv_iconst (v := 3) hx hb d_FB_cancel_63 (by decide) ?_
          refine fw_putN (D := (dC, dI)) (ci := 2) (v := .int 3) (ty := .int) (C := R_Pu) (T := F_Pu) (N := 8) hx hb hG iG_Pu t_Pu t_Pu_ok n_Pu hown hK hP hD hS hm_y_2 he_16 rfl 4 (by decide) (hN.use k_199) (fun _ h9 => h9) rfl (by decide +kernel) rfl rfl (Nat.le_of_ble_eq_true rfl) d_FB_cancel_64 (fun H locs hP hD hS => ?_)
          obtain ⟨f_19, ef_19⟩ : ∃ z, z = va_up f_8 (ad 2 j) (.inr (2, [.ref (ad 1 (AN 4 j)), .int (AI 5 j), .int (bI (AB 6 j)), .ref (ad 3 j), .int 3, .int (AI 11 j), .int (AI 12 j), .long (AL 10 j)])) := ⟨_, rfl⟩
          have he_20 : f_19 (ad 0 0) = .inr (0, [.ref (ad 0 1), .ref (ad 0 2), .ref (ad 0 3), .ref (ad 0 4), .ref (ad 0 5), .int (nI nf), .int (nI no), .int (nI nt), .int yr, .int bd, .int fl]) := by rw [ef_19, va_up_ne _ _ (fw_ne he_9 he_16 (show (1 : Nat) ≠ 3 by decide))]; exact he_9
          have he_21 : f_19 (ad 0 1) = .inl ((cs 0), 30, .inr (.inr (.inr (.inr (fun i => if i < nf then some (ad 1 i) else none))))) := by rw [ef_19, va_up_ne _ _ (fw_ne he_10 he_16 (show (0 : Nat) ≠ 3 by decide))]; exact he_10
          have he_22 : f_19 (ad 0 2) = .inl ((cs 1), 300, .inr (.inr (.inr (.inr (fun i => if i < no then some (ad 2 i) else none))))) := by rw [ef_19, va_up_ne _ _ (fw_ne he_11 he_16 (show (0 : Nat) ≠ 3 by decide))]; exact he_11
          have he_23 : f_19 (ad 0 3) = .inl ((cs 2), 100, .inr (.inr (.inr (.inr (fun i => if i < nt then some (ad 4 i) else none))))) := by rw [ef_19, va_up_ne _ _ (fw_ne he_12 he_16 (show (0 : Nat) ≠ 3 by decide))]; exact he_12
          have he_24 : f_19 (ad 0 4) = .inl ((cs 3), 10, .inr (.inr (.inr (.inr (fun c => if AN 18 c = 0 then none else some (ad 6 (rx c (AN 18 c - 1)))))))) := by rw [ef_19, va_up_ne _ _ (fw_ne he_13 he_16 (show (0 : Nat) ≠ 3 by decide))]; exact he_13
          have he_25 : f_19 (ad 0 5) = .inr (6, [.ref (ad 0 6), .int (nI nb), .long (m_tot AI nb)]) := by rw [ef_19, va_up_ne _ _ (fw_ne he_14 he_16 (show (7 : Nat) ≠ 3 by decide))]; exact he_14
          have he_26 : f_19 (ad 0 6) = .inl ((cs 4), 20, .inr (.inr (.inr (.inr (fun r => if r < nb then some (ad 1 (AN 22 r)) else none))))) := by rw [ef_19, va_up_ne _ _ (fw_ne he_15 he_16 (show (0 : Nat) ≠ 3 by decide))]; exact he_15
          have he_27 : f_19 (ad 2 j) = .inr (2, [.ref (ad 1 (AN 4 j)), .int (AI 5 j), .int (bI (AB 6 j)), .ref (ad 3 j), .int 3, .int (AI 11 j), .int (AI 12 j), .long (AL 10 j)]) := by rw [ef_19]; exact va_up_self _ _ _
          have he_28 : f_19 (ad 3 j) = .inr (4, [.long (bl 0 j), .long (bl 1 j), .int (AI 9 j)]) := by rw [ef_19, va_up_ne _ _ (fw_ne he_17 he_16 (show (5 : Nat) ≠ 3 by decide))]; exact he_17
          have he_29 : f_19 (ad 1 (AN 4 j)) = .inr (1, [.int (nI (AN 4 j)), .int (AI 1 (AN 4 j)), .long (AL 2 (AN 4 j)), .long (m_enc AI AN no (nI (AN 4 j)) - ((if AI 7 j = 1 then AI 5 j else 0).toInt64)), .long (AL 3 (AN 4 j)), .long (m_bat AI AN nb (nI (AN 4 j)))]) := by rw [ef_19, va_up_ne _ _ (fw_ne he_18 he_16 (show (2 : Nat) ≠ 3 by decide))]; exact he_18
          have hP : va_P (dC, dI) classes (va_pl L f_19) H := by rw [ef_19]; exact hP
          have hD : va_D A (va_pl L f_19) := by rw [ef_19]; exact hD
          refine lv_iload_n hx hb d_FB_cancel_67 rfl (lv_at hl 0 rfl) ?_
          have hcall : m_cancel (th, yr, nf, no, nt, bd, nb, fl, AI, AN, AB, AL) (nI j) = ((if AI 7 j = 1 then AI 5 j else 0), (0, yr, nf, no, nt, bd, nb, fl, u2 AI 7 j 3, AN, AB, AL)) := (by simp [m_cancel, ixn, bI, ej, hi_j, hbig] <;> (repeat' apply And.intro) <;> rfl)
          have hcs : CS cs (ad 0 0) (0, yr, nf, no, nt, bd, nb, fl, u2 AI 7 j 3, AN, AB, AL) L f_19 := ⟨n, ad, _, bl, rx, rfl, (by rw [ef_19, ef_8]; exact (hC.put 1 (AN 4 j) _ (by rw [n1]; exact hfu j hj) rfl).put 2 j _ (by rw [n2]; exact hj) rfl), SR_cancel hR hnf hfu j hj h77, hM, InvB_st hB j 3 (by decide), InvS_st hZ j 3 (Or.inr (Or.inr (Or.inr rfl)))⟩
          exact W.iret (v := (if AI 7 j = 1 then AI 5 j else 0)) hx hb hr (fun t ht hW => ⟨⟨_, (L, f_19), rfl, by rw [hcall]; exact ⟨rfl, hcs⟩, by rw [ht]; exact hP, va_K.moved hW.alike hK, hD⟩, hS.F ht⟩) hS.2.2 d_FB_cancel_68
        · refine lv_aload_n hx hb d_FB_cancel_39 rfl (lv_at hl 0 rfl) ?_
          refine fw_getN (D := (dC, dI)) (ci := 2) (v := .int (AI 5 j)) (C := R_Pu) (T := F_Pu) (N := 8) hx hb hG iG_Pu hown hK hP hm_y_2 he_y_2 rfl 1 (by decide) (hN.use k_194) (fun _ h9 => h9) rfl d_FB_cancel_40 ?_
          refine lv_goto (tgt := 47) hx hb d_FB_cancel_43 (by decide) ?_
          refine lv_topI (y := (if AI 7 j = 1 then AI 5 j else 0)) (by simp [c_7]) ?_
          refine lv_istore_n (lv' := [(3, .int (if AI 7 j = 1 then AI 5 j else 0)), (2, .ref (ad 2 j)), (0, .ref (ad 0 0)), (1, .int (nI j))]) hx hb d_FB_cancel_47 rfl hl (by decide) rfl (fun ls hl => ?_)
          refine lv_aload_n hx hb d_FB_cancel_48 rfl (lv_at hl 1 rfl) ?_
          refine fw_getN (D := (dC, dI)) (ci := 2) (v := .ref (ad 1 (AN 4 j))) (C := R_Pu) (T := F_Pu) (N := 8) hx hb hG iG_Pu hown hK hP hm_y_2 he_y_2 rfl 0 (by decide) (hN.use k_192) (fun _ h9 => h9) rfl d_FB_cancel_49 ?_
          refine lv_dup hx hb d_FB_cancel_52 rfl ?_
          refine fw_getN (D := (dC, dI)) (ci := 1) (v := .long (m_enc AI AN no (nI (AN 4 j)))) (C := R_Ac) (T := F_Ac) (N := 6) hx hb hG iG_Ac hown hK hP hm_y_4 he_y_4 rfl 3 (by decide) (hN.use k_123) (fun _ h9 => h9) rfl d_FB_cancel_53 ?_
          refine lv_iload_n hx hb d_FB_cancel_56 rfl (lv_at hl 0 rfl) ?_
          refine lv_i2l hx hb d_FB_cancel_57 rfl ?_
          refine lv_lsub hx hb d_FB_cancel_58 ?_
          refine fw_putN (D := (dC, dI)) (ci := 1) (v := .long (m_enc AI AN no (nI (AN 4 j)) - ((if AI 7 j = 1 then AI 5 j else 0).toInt64))) (ty := .long) (C := R_Ac) (T := F_Ac) (N := 6) hx hb hG iG_Ac t_Ac t_Ac_ok n_Ac hown hK hP hD hS hm_y_4 he_y_4 rfl 3 (by decide) (hN.use k_123) (fun _ h9 => h9) rfl (by decide +kernel) rfl rfl (Nat.le_of_ble_eq_true rfl) d_FB_cancel_59 (fun H locs hP hD hS => ?_)
          obtain ⟨f_30, ef_30⟩ : ∃ z, z = va_up f (ad 1 (AN 4 j)) (.inr (1, [.int (nI (AN 4 j)), .int (AI 1 (AN 4 j)), .long (AL 2 (AN 4 j)), .long (m_enc AI AN no (nI (AN 4 j)) - ((if AI 7 j = 1 then AI 5 j else 0).toInt64)), .long (AL 3 (AN 4 j)), .long (m_bat AI AN nb (nI (AN 4 j)))])) := ⟨_, rfl⟩
          have he_31 : f_30 (ad 0 0) = .inr (0, [.ref (ad 0 1), .ref (ad 0 2), .ref (ad 0 3), .ref (ad 0 4), .ref (ad 0 5), .int (nI nf), .int (nI no), .int (nI nt), .int yr, .int bd, .int fl]) := by rw [ef_30, va_up_ne _ _ (fw_ne he00 he_y_4 (show (1 : Nat) ≠ 2 by decide))]; exact he00
          have he_32 : f_30 (ad 0 1) = .inl ((cs 0), 30, .inr (.inr (.inr (.inr (fun i => if i < nf then some (ad 1 i) else none))))) := by rw [ef_30, va_up_ne _ _ (fw_ne he01 he_y_4 (show (0 : Nat) ≠ 2 by decide))]; exact he01
          have he_33 : f_30 (ad 0 2) = .inl ((cs 1), 300, .inr (.inr (.inr (.inr (fun i => if i < no then some (ad 2 i) else none))))) := by rw [ef_30, va_up_ne _ _ (fw_ne he02 he_y_4 (show (0 : Nat) ≠ 2 by decide))]; exact he02
          have he_34 : f_30 (ad 0 3) = .inl ((cs 2), 100, .inr (.inr (.inr (.inr (fun i => if i < nt then some (ad 4 i) else none))))) := by rw [ef_30, va_up_ne _ _ (fw_ne he03 he_y_4 (show (0 : Nat) ≠ 2 by decide))]; exact he03
          have he_35 : f_30 (ad 0 4) = .inl ((cs 3), 10, .inr (.inr (.inr (.inr (fun c => if AN 18 c = 0 then none else some (ad 6 (rx c (AN 18 c - 1)))))))) := by rw [ef_30, va_up_ne _ _ (fw_ne he04 he_y_4 (show (0 : Nat) ≠ 2 by decide))]; exact he04
          have he_36 : f_30 (ad 0 5) = .inr (6, [.ref (ad 0 6), .int (nI nb), .long (m_tot AI nb)]) := by rw [ef_30, va_up_ne _ _ (fw_ne he05 he_y_4 (show (7 : Nat) ≠ 2 by decide))]; exact he05
          have he_37 : f_30 (ad 0 6) = .inl ((cs 4), 20, .inr (.inr (.inr (.inr (fun r => if r < nb then some (ad 1 (AN 22 r)) else none))))) := by rw [ef_30, va_up_ne _ _ (fw_ne he06 he_y_4 (show (0 : Nat) ≠ 2 by decide))]; exact he06
          have he_38 : f_30 (ad 2 j) = .inr (2, [.ref (ad 1 (AN 4 j)), .int (AI 5 j), .int (bI (AB 6 j)), .ref (ad 3 j), .int (AI 7 j), .int (AI 11 j), .int (AI 12 j), .long (AL 10 j)]) := by rw [ef_30, va_up_ne _ _ (fw_ne he_y_2 he_y_4 (show (3 : Nat) ≠ 2 by decide))]; exact he_y_2
          have he_39 : f_30 (ad 3 j) = .inr (4, [.long (bl 0 j), .long (bl 1 j), .int (AI 9 j)]) := by rw [ef_30, va_up_ne _ _ (fw_ne he_y_3 he_y_4 (show (5 : Nat) ≠ 2 by decide))]; exact he_y_3
          have he_40 : f_30 (ad 1 (AN 4 j)) = .inr (1, [.int (nI (AN 4 j)), .int (AI 1 (AN 4 j)), .long (AL 2 (AN 4 j)), .long (m_enc AI AN no (nI (AN 4 j)) - ((if AI 7 j = 1 then AI 5 j else 0).toInt64)), .long (AL 3 (AN 4 j)), .long (m_bat AI AN nb (nI (AN 4 j)))]) := by rw [ef_30]; exact va_up_self _ _ _
          have hP : va_P (dC, dI) classes (va_pl L f_30) H := by rw [ef_30]; exact hP
          have hD : va_D A (va_pl L f_30) := by rw [ef_30]; exact hD
          refine lv_aload_n hx hb d_FB_cancel_62 rfl (lv_at hl 1 rfl) ?_
          refine lv_iconst (v := 3) hx hb d_FB_cancel_63 (by decide) ?_
          refine fw_putN (D := (dC, dI)) (ci := 2) (v := .int 3) (ty := .int) (C := R_Pu) (T := F_Pu) (N := 8) hx hb hG iG_Pu t_Pu t_Pu_ok n_Pu hown hK hP hD hS hm_y_2 he_38 rfl 4 (by decide) (hN.use k_199) (fun _ h9 => h9) rfl (by decide +kernel) rfl rfl (Nat.le_of_ble_eq_true rfl) d_FB_cancel_64 (fun H locs hP hD hS => ?_)
          obtain ⟨f_41, ef_41⟩ : ∃ z, z = va_up f_30 (ad 2 j) (.inr (2, [.ref (ad 1 (AN 4 j)), .int (AI 5 j), .int (bI (AB 6 j)), .ref (ad 3 j), .int 3, .int (AI 11 j), .int (AI 12 j), .long (AL 10 j)])) := ⟨_, rfl⟩
          have he_42 : f_41 (ad 0 0) = .inr (0, [.ref (ad 0 1), .ref (ad 0 2), .ref (ad 0 3), .ref (ad 0 4), .ref (ad 0 5), .int (nI nf), .int (nI no), .int (nI nt), .int yr, .int bd, .int fl]) := by rw [ef_41, va_up_ne _ _ (fw_ne he_31 he_38 (show (1 : Nat) ≠ 3 by decide))]; exact he_31
          have he_43 : f_41 (ad 0 1) = .inl ((cs 0), 30, .inr (.inr (.inr (.inr (fun i => if i < nf then some (ad 1 i) else none))))) := by rw [ef_41, va_up_ne _ _ (fw_ne he_32 he_38 (show (0 : Nat) ≠ 3 by decide))]; exact he_32
          have he_44 : f_41 (ad 0 2) = .inl ((cs 1), 300, .inr (.inr (.inr (.inr (fun i => if i < no then some (ad 2 i) else none))))) := by rw [ef_41, va_up_ne _ _ (fw_ne he_33 he_38 (show (0 : Nat) ≠ 3 by decide))]; exact he_33
          have he_45 : f_41 (ad 0 3) = .inl ((cs 2), 100, .inr (.inr (.inr (.inr (fun i => if i < nt then some (ad 4 i) else none))))) := by rw [ef_41, va_up_ne _ _ (fw_ne he_34 he_38 (show (0 : Nat) ≠ 3 by decide))]; exact he_34
          have he_46 : f_41 (ad 0 4) = .inl ((cs 3), 10, .inr (.inr (.inr (.inr (fun c => if AN 18 c = 0 then none else some (ad 6 (rx c (AN 18 c - 1)))))))) := by rw [ef_41, va_up_ne _ _ (fw_ne he_35 he_38 (show (0 : Nat) ≠ 3 by decide))]; exact he_35
          have he_47 : f_41 (ad 0 5) = .inr (6, [.ref (ad 0 6), .int (nI nb), .long (m_tot AI nb)]) := by rw [ef_41, va_up_ne _ _ (fw_ne he_36 he_38 (show (7 : Nat) ≠ 3 by decide))]; exact he_36
          have he_48 : f_41 (ad 0 6) = .inl ((cs 4), 20, .inr (.inr (.inr (.inr (fun r => if r < nb then some (ad 1 (AN 22 r)) else none))))) := by rw [ef_41, va_up_ne _ _ (fw_ne he_37 he_38 (show (0 : Nat) ≠ 3 by decide))]; exact he_37
          have he_49 : f_41 (ad 2 j) = .inr (2, [.ref (ad 1 (AN 4 j)), .int (AI 5 j), .int (bI (AB 6 j)), .ref (ad 3 j), .int 3, .int (AI 11 j), .int (AI 12 j), .long (AL 10 j)]) := by rw [ef_41]; exact va_up_self _ _ _
          have he_50 : f_41 (ad 3 j) = .inr (4, [.long (bl 0 j), .long (bl 1 j), .int (AI 9 j)]) := by rw [ef_41, va_up_ne _ _ (fw_ne he_39 he_38 (show (5 : Nat) ≠ 3 by decide))]; exact he_39
          have he_51 : f_41 (ad 1 (AN 4 j)) = .inr (1, [.int (nI (AN 4 j)), .int (AI 1 (AN 4 j)), .long (AL 2 (AN 4 j)), .long (m_enc AI AN no (nI (AN 4 j)) - ((if AI 7 j = 1 then AI 5 j else 0).toInt64)), .long (AL 3 (AN 4 j)), .long (m_bat AI AN nb (nI (AN 4 j)))]) := by rw [ef_41, va_up_ne _ _ (fw_ne he_40 he_38 (show (2 : Nat) ≠ 3 by decide))]; exact he_40
          have hP : va_P (dC, dI) classes (va_pl L f_41) H := by rw [ef_41]; exact hP
          have hD : va_D A (va_pl L f_41) := by rw [ef_41]; exact hD
          refine lv_iload_n hx hb d_FB_cancel_67 rfl (lv_at hl 0 rfl) ?_
          have hcall : m_cancel (th, yr, nf, no, nt, bd, nb, fl, AI, AN, AB, AL) (nI j) = ((if AI 7 j = 1 then AI 5 j else 0), (0, yr, nf, no, nt, bd, nb, fl, u2 AI 7 j 3, AN, AB, AL)) := (by simp [m_cancel, ixn, bI, ej, hi_j, hbig] <;> (repeat' apply And.intro) <;> rfl)
          have hcs : CS cs (ad 0 0) (0, yr, nf, no, nt, bd, nb, fl, u2 AI 7 j 3, AN, AB, AL) L f_41 := ⟨n, ad, _, bl, rx, rfl, (by rw [ef_41, ef_30]; exact (hC.put 1 (AN 4 j) _ (by rw [n1]; exact hfu j hj) rfl).put 2 j _ (by rw [n2]; exact hj) rfl), SR_cancel hR hnf hfu j hj h77, hM, InvB_st hB j 3 (by decide), InvS_st hZ j 3 (Or.inr (Or.inr (Or.inr rfl)))⟩
          exact W.iret (v := (if AI 7 j = 1 then AI 5 j else 0)) hx hb hr (fun t ht hW => ⟨⟨_, (L, f_41), rfl, by rw [hcall]; exact ⟨rfl, hcs⟩, by rw [ht]; exact hP, va_K.moved hW.alike hK, hD⟩, hS.F ht⟩) hS.2.2 d_FB_cancel_68
      · have hbig : 1 < AI 7 j := by rw [c_6]; decide
        refine lv_bipush (v := (-3)) hx hb d_FB_cancel_28 (by decide) ?_
        have hcall : m_cancel (th, yr, nf, no, nt, bd, nb, fl, AI, AN, AB, AL) (nI j) = ((-3), (0, yr, nf, no, nt, bd, nb, fl, AI, AN, AB, AL)) := (by simp [m_cancel, ixn, bI, ej, hi_j, hbig] <;> (repeat' apply And.intro) <;> rfl)
        have hcs : CS cs (ad 0 0) (0, yr, nf, no, nt, bd, nb, fl, AI, AN, AB, AL) L f := ⟨n, ad, e0, bl, rx, rfl, hC, hR, hM, hB, hZ⟩
        exact W.iret (v := (-3)) hx hb hr (fun t ht hW => ⟨⟨_, (L, f), rfl, by rw [hcall]; exact ⟨rfl, hcs⟩, by rw [ht]; exact hP, va_K.moved hW.alike hK, hD⟩, hS.F ht⟩) hS.2.2 d_FB_cancel_30
