theorem cnt_0 {AB : Nat → Nat → Bool} {i : Nat} (h : ∀ w, w < 100 → AB 17 (100 * i + w) = false) : m_cnt AB i = 0 := by
  have : ∀ k, k ≤ 100 → sumI (fun q => if AB 17 (100 * i + q) = true then 1 else 0) k = 0 := by
    intro k
    induction k with
    | zero => intro _; rfl
    | succ k ih => intro hk; simp only [sumI]; rw [ih (by omega), h k (by omega)]; rfl
  exact this 100 (Nat.le_refl _)
theorem CS_transfer {n : Nat → Nat} {ad : Nat → Nat → Nat} {e : Nat → Nat → va_E} {L : List Nat} {f : Nat → va_E} {cs : Nat → ClassId} {bl : Nat → Nat → Int64} {rx : Nat → Nat → Nat} {yr : Int32} {nf no nt : Nat} {bd : Int32} {nb : Nat} {fl : Int32} {AI : Nat → Nat → Int32} {AN : Nat → Nat → Nat} {AB : Nat → Nat → Bool} {AL : Nat → Nat → Int64}
    (hC : CP n ad e L f) (hR : SR n ad e cs bl rx yr nf no nt bd nb fl AI AN AB AL) (hM : InvM nf no nt nb AI AN) (hB : InvB no nt AI AB bl) (hZ : InvS nf no nt yr AI AB AL) (hlt : nt < 100) {q1 q2 : Nat} (hq1 : q1 ∉ L) (hq2 : q2 ∉ L ++ [q1]) {j k : Nat} (hj : j < nf) (hk : k < nf) (hne : j ≠ k) (c0 : Int32) (d : va_E) :
    CS cs (ad 0 0) (0, yr, nf, no, nt + 1, bd, nb, fl, u2 AI 15 nt c0, u2 (u2 AN 13 nt j) 14 nt k, AB, AL) (L ++ [q1] ++ [q2]) (va_up (va_up (va_up (va_up (va_up f q1 d) q1 (oMov (ad 1 j) (ad 1 k) c0 q2 (bI false))) q2 (oApp 0 0 0)) (ad 0 3) (oArr (cs 2) 100 (va_up (fun i => if i < nt then some (ad 4 i) else none) nt (some q1)))) (ad 0 0) (oFB (ad 0 1) (ad 0 2) (ad 0 3) (ad 0 4) (ad 0 5) (nI nf) (nI no) (nI (nt + 1)) yr bd fl)) := by
  obtain ⟨⟨n0, n1, n2, n3, n4, n5⟩, e00, e01, e02, e03, e04, e05, e06, e1, e2, e3, e4, e5, e6⟩ := hR
  obtain ⟨hnf, hno, hnt, hnb, hfu, hft, hbf, hrw, hce, hdn⟩ := hM
  obtain ⟨z1, z2, z3, z4, z5⟩ := hZ
  obtain ⟨b1, b2⟩ := hB
  have h1 := hC.add 4 (oMov (ad 1 j) (ad 1 k) c0 q2 (bI false)) hq1
  rw [n4] at h1
  have h2 := h1.add 5 (oApp 0 0 0) hq2
  rw [va_up_ne _ _ (show (5 : Nat) ≠ 4 by decide), n5] at h2
  have h3 := h2.put 0 3 (a := ad 0 3) (oArr (cs 2) 100 (va_up (fun i => if i < nt then some (ad 4 i) else none) nt (some q1))) (by rw [va_up_ne _ _ (by decide), va_up_ne _ _ (by decide), n0]; decide) (by rw [up2_k _ _ _ _ (by decide), up2_k _ _ _ _ (by decide)])
  have h4 := h3.put 0 0 (a := ad 0 0) (oFB (ad 0 1) (ad 0 2) (ad 0 3) (ad 0 4) (ad 0 5) (nI nf) (nI no) (nI (nt + 1)) yr bd fl) (by rw [va_up_ne _ _ (by decide), va_up_ne _ _ (by decide), n0]; decide) (by rw [up2_k _ _ _ _ (by decide), up2_k _ _ _ _ (by decide)])
  rw [bx_uu]
  refine ⟨_, _, _, up2 (up2 bl 2 nt 0) 3 nt 0, rx, by rw [up2_k _ _ _ _ (by decide), up2_k _ _ _ _ (by decide)], h4, ⟨?_, ?_, ?_, ?_, ?_, ?_, ?_, ?_, ?_, ?_, ?_, ?_, ?_, ?_⟩, ⟨hnf, hno, by omega, hnb, hfu, fun i hi => ?_, hbf, hrw, hce, hdn⟩, ⟨?_, ?_⟩, ⟨z1, z2, z3, z4, fun i hi => z5 i (by omega)⟩⟩
  · simp [va_up, n0, n1, n2, n3]
  · simp [up2]
  · simpa [up2] using e01
  · simpa [up2] using e02
  · rw [up2_i _ _ _ _ (by decide), up2_self]
    congr 6
    funext i
    by_cases h : i = nt
    · subst h; simp [va_up, up2]
    · have e9 : (i < nt + 1) ↔ (i < nt) := by omega
      simp [va_up, h, e9, up2]
  · simpa [up2, u2, va_up] using e04
  · simpa [up2, u2, va_up, m_tot] using e05
  · simpa [up2, u2, va_up] using e06
  · intro i hi; simpa [up2, u2, va_up, m_enc, m_bat] using e1 i hi
  · intro i hi; simpa [up2, u2, va_up] using e2 i hi
  · intro i hi; simpa [up2, u2, va_up] using e3 i hi
  · intro i hi
    by_cases h : i = nt
    · subst h
      have := (z5 i (Nat.le_refl i)).1
      simp [up2, u2, va_up, this]
    · have := e4 i (by omega)
      simpa [up2, u2, va_up, h] using this
  · intro i hi
    by_cases h : i = nt
    · subst h
      have := cnt_0 (z5 i (Nat.le_refl i)).2
      simp [up2, this]
    · have := e5 i (by omega)
      simpa [up2, h] using this
  · intro c r hc hr; simpa [up2, u2, va_up] using e6 c r hc hr
  · by_cases h : i = nt
    · subst h; simp [u2, va_up, hj, hk, hne]
    · simpa [u2, va_up, h] using hft i (by omega)
  · intro i hi h7
    simpa [up2, u2, va_up] using b1 i hi h7
  · intro i hi w hw
    by_cases h : i = nt
    · subst h
      have := (z5 i (Nat.le_refl i)).2 w hw
      rw [this]
      simp [up2, hbit_0]
    · simpa [up2, h] using b2 i (by omega) w hw

theorem d_FB_transfer_0 : decode b_FB_transfer 0 = .ok (.aload_n 0, 1) := by decide +kernel
theorem d_FB_transfer_1 : decode b_FB_transfer 1 = .ok (.iload_n 1, 1) := by decide +kernel
theorem d_FB_transfer_2 : decode b_FB_transfer 2 = .ok (.invokevirtual 71, 3) := by decide +kernel
theorem d_FB_transfer_5 : decode b_FB_transfer 5 = .ok (.astore 4, 2) := by decide +kernel
theorem d_FB_transfer_7 : decode b_FB_transfer 7 = .ok (.aload_n 0, 1) := by decide +kernel
theorem d_FB_transfer_8 : decode b_FB_transfer 8 = .ok (.iload_n 2, 1) := by decide +kernel
theorem d_FB_transfer_9 : decode b_FB_transfer 9 = .ok (.invokevirtual 71, 3) := by decide +kernel
theorem d_FB_transfer_12 : decode b_FB_transfer 12 = .ok (.astore 5, 2) := by decide +kernel
theorem d_FB_transfer_14 : decode b_FB_transfer 14 = .ok (.aload 4, 2) := by decide +kernel
theorem d_FB_transfer_16 : decode b_FB_transfer 16 = .ok (.ifnull 8, 3) := by decide +kernel
theorem d_FB_transfer_19 : decode b_FB_transfer 19 = .ok (.aload 5, 2) := by decide +kernel
theorem d_FB_transfer_21 : decode b_FB_transfer 21 = .ok (.ifnonnull 5, 3) := by decide +kernel
theorem d_FB_transfer_24 : decode b_FB_transfer 24 = .ok (.iconst (-1), 1) := by decide +kernel
theorem d_FB_transfer_25 : decode b_FB_transfer 25 = .ok (.ireturn, 1) := by decide +kernel
theorem d_FB_transfer_26 : decode b_FB_transfer 26 = .ok (.iload_n 1, 1) := by decide +kernel
theorem d_FB_transfer_27 : decode b_FB_transfer 27 = .ok (.iload_n 2, 1) := by decide +kernel
theorem d_FB_transfer_28 : decode b_FB_transfer 28 = .ok (.if_icmp .eq 15, 3) := by decide +kernel
theorem d_FB_transfer_31 : decode b_FB_transfer 31 = .ok (.iload_n 3, 1) := by decide +kernel
theorem d_FB_transfer_32 : decode b_FB_transfer 32 = .ok (.i2l, 1) := by decide +kernel
theorem d_FB_transfer_33 : decode b_FB_transfer 33 = .ok (.lconst 1, 1) := by decide +kernel
theorem d_FB_transfer_34 : decode b_FB_transfer 34 = .ok (.ldc2_w 84, 3) := by decide +kernel
theorem d_FB_transfer_37 : decode b_FB_transfer 37 = .ok (.invokestatic 61, 3) := by decide +kernel
theorem d_FB_transfer_40 : decode b_FB_transfer 40 = .ok (.ifCond .ne 6, 3) := by decide +kernel
theorem d_FB_transfer_43 : decode b_FB_transfer 43 = .ok (.bipush (-2), 2) := by decide +kernel
theorem d_FB_transfer_45 : decode b_FB_transfer 45 = .ok (.ireturn, 1) := by decide +kernel
theorem d_FB_transfer_46 : decode b_FB_transfer 46 = .ok (.aload_n 0, 1) := by decide +kernel
theorem d_FB_transfer_47 : decode b_FB_transfer 47 = .ok (.getfield 188, 3) := by decide +kernel
theorem d_FB_transfer_50 : decode b_FB_transfer 50 = .ok (.aload_n 0, 1) := by decide +kernel
theorem d_FB_transfer_51 : decode b_FB_transfer 51 = .ok (.getfield 23, 3) := by decide +kernel
theorem d_FB_transfer_54 : decode b_FB_transfer 54 = .ok (.arraylength, 1) := by decide +kernel
theorem d_FB_transfer_55 : decode b_FB_transfer 55 = .ok (.if_icmp .lt 6, 3) := by decide +kernel
theorem d_FB_transfer_58 : decode b_FB_transfer 58 = .ok (.bipush (-4), 2) := by decide +kernel
theorem d_FB_transfer_60 : decode b_FB_transfer 60 = .ok (.ireturn, 1) := by decide +kernel
theorem d_FB_transfer_61 : decode b_FB_transfer 61 = .ok (.aload_n 0, 1) := by decide +kernel
theorem d_FB_transfer_62 : decode b_FB_transfer 62 = .ok (.getfield 188, 3) := by decide +kernel
theorem d_FB_transfer_65 : decode b_FB_transfer 65 = .ok (.istore 6, 2) := by decide +kernel
theorem d_FB_transfer_67 : decode b_FB_transfer 67 = .ok (.aload_n 0, 1) := by decide +kernel
theorem d_FB_transfer_68 : decode b_FB_transfer 68 = .ok (.getfield 23, 3) := by decide +kernel
theorem d_FB_transfer_71 : decode b_FB_transfer 71 = .ok (.iload 6, 2) := by decide +kernel
theorem d_FB_transfer_73 : decode b_FB_transfer 73 = .ok (.new 21, 3) := by decide +kernel
theorem d_FB_transfer_76 : decode b_FB_transfer 76 = .ok (.dup, 1) := by decide +kernel
theorem d_FB_transfer_77 : decode b_FB_transfer 77 = .ok (.aload 4, 2) := by decide +kernel
theorem d_FB_transfer_79 : decode b_FB_transfer 79 = .ok (.aload 5, 2) := by decide +kernel
theorem d_FB_transfer_81 : decode b_FB_transfer 81 = .ok (.iload_n 3, 1) := by decide +kernel
theorem d_FB_transfer_82 : decode b_FB_transfer 82 = .ok (.invokespecial 191, 3) := by decide +kernel
theorem d_FB_transfer_85 : decode b_FB_transfer 85 = .ok (.aastore, 1) := by decide +kernel
theorem d_FB_transfer_86 : decode b_FB_transfer 86 = .ok (.aload_n 0, 1) := by decide +kernel
theorem d_FB_transfer_87 : decode b_FB_transfer 87 = .ok (.dup, 1) := by decide +kernel
theorem d_FB_transfer_88 : decode b_FB_transfer 88 = .ok (.getfield 188, 3) := by decide +kernel
theorem d_FB_transfer_91 : decode b_FB_transfer 91 = .ok (.iconst 1, 1) := by decide +kernel
theorem d_FB_transfer_92 : decode b_FB_transfer 92 = .ok (.iadd, 1) := by decide +kernel
theorem d_FB_transfer_93 : decode b_FB_transfer 93 = .ok (.putfield 188, 3) := by decide +kernel
theorem d_FB_transfer_96 : decode b_FB_transfer 96 = .ok (.iload 6, 2) := by decide +kernel
theorem d_FB_transfer_98 : decode b_FB_transfer 98 = .ok (.ireturn, 1) := by decide +kernel
set_option maxHeartbeats 4000000 in
set_option maxRecDepth 100000 in
theorem c_FB_transfer (l : Launch) (dC : Nat → ClassId) (dI : Nat → Nat → Nat) (cs : Nat → ClassId) (o : Nat) (th yr : Int32) (nf no nt : Nat) (bd : Int32) (nb : Nat) (fl : Int32) (AI : Nat → Nat → Int32) (AN : Nat → Nat → Nat) (AB : Nat → Nat → Bool) (AL : Nat → Nat → Int64) (L : List Nat) (f : Nat → va_E) (sz : Nat) (fd t0 c0 : Int32) (hCS : CS cs o (th, yr, nf, no, nt, bd, nb, fl, AI, AN, AB, AL) L f) : Met l y_FB_transfer w_FB_transfer { frames := 3, cells := 2, slots := 8, locals := 55 } (mu_P (dC, dI) classes (ctys cs) (va_pl L f) sz [.ref o, .int fd, .int t0, .int c0]) (va_Qi (fun r u => r = (m_transfer (th, yr, nf, no, nt, bd, nb, fl, AI, AN, AB, AL) fd t0 c0).1 ∧ CS cs o (m_transfer (th, yr, nf, no, nt, bd, nb, fl, AI, AN, AB, AL) fd t0 c0).2 u.1 u.2) (mu_B (dC, dI) classes (ctys cs) (va_A (va_pl L f) sz) fw_w) (va_A (va_pl L f) sz)) 2 8 (va_A (va_pl L f) sz) := by
  obtain ⟨n, ad, e0, bl, rx, rfl, hC, hR, hM, hB, hZ⟩ := hCS
  obtain ⟨⟨n0, n1, n2, n3, n4, n5⟩, e00, e01, e02, e03, e04, e05, e06, e1, e2, e3, e4, e5, e6⟩ := id hR
  obtain ⟨hnf, hno, hnt, hnb, hfu, hft, hbf, hrw, hce, hdn⟩ := id hM
  have hm00 : ad 0 0 ∈ L := (hC.1 0 0 (by rw [n0]; decide)).1
  have he00 : f (ad 0 0) = .inr (0, [.ref (ad 0 1), .ref (ad 0 2), .ref (ad 0 3), .ref (ad 0 4), .ref (ad 0 5), .int (nI nf), .int (nI no), .int (nI nt), .int yr, .int bd, .int fl]) := (hC.1 0 0 (by rw [n0]; decide)).2.trans e00
  have hm01 : ad 0 1 ∈ L := (hC.1 0 1 (by rw [n0]; decide)).1
  have he01 : f (ad 0 1) = .inl ((cs 0), 30, .inr (.inr (.inr (.inr (fun i => if i < nf then some (ad 1 i) else none))))) := (hC.1 0 1 (by rw [n0]; decide)).2.trans e01
  have hm02 : ad 0 2 ∈ L := (hC.1 0 2 (by rw [n0]; decide)).1
  have he02 : f (ad 0 2) = .inl ((cs 1), 300, .inr (.inr (.inr (.inr (fun i => if i < no then some (ad 2 i) else none))))) := (hC.1 0 2 (by rw [n0]; decide)).2.trans e02
  have hm03 : ad 0 3 ∈ L := (hC.1 0 3 (by rw [n0]; decide)).1
  have he03 : f (ad 0 3) = .inl ((cs 2), 100, .inr (.inr (.inr (.inr (fun i => if i < nt then some (ad 4 i) else none))))) := (hC.1 0 3 (by rw [n0]; decide)).2.trans e03
  have hm04 : ad 0 4 ∈ L := (hC.1 0 4 (by rw [n0]; decide)).1
  have he04 : f (ad 0 4) = .inl ((cs 3), 10, .inr (.inr (.inr (.inr (fun c => if AN 18 c = 0 then none else some (ad 6 (rx c (AN 18 c - 1)))))))) := (hC.1 0 4 (by rw [n0]; decide)).2.trans e04
  have hm05 : ad 0 5 ∈ L := (hC.1 0 5 (by rw [n0]; decide)).1
  have he05 : f (ad 0 5) = .inr (6, [.ref (ad 0 6), .int (nI nb), .long (m_tot AI nb)]) := (hC.1 0 5 (by rw [n0]; decide)).2.trans e05
  have hm06 : ad 0 6 ∈ L := (hC.1 0 6 (by rw [n0]; decide)).1
  have he06 : f (ad 0 6) = .inl ((cs 4), 20, .inr (.inr (.inr (.inr (fun r => if r < nb then some (ad 1 (AN 22 r)) else none))))) := (hC.1 0 6 (by rw [n0]; decide)).2.trans e06
  refine Met.ofW (cc := b_FB_transfer) (maxL := 7) (ret := (some .int)) (by decide) rfl ?_
  intro p e s m args below meth c s₁ B hml hv
  obtain ⟨rfl, hsz, hP, hK, hD0, hN⟩ := hv
  have hx := B.exec
  have hb := B.bytes
  have hr := B.returns
  have hts := atoms_spec (ws := w_FB_transfer) B.pre
  have hG := fun (w : Cond) (h : w ∈ wG) => hts w (List.mem_cons_of_mem _ h)
  have hown : s.vm.findClass R_FB = some m.cls := findClass_of_methodNamed B.named
  have hlocks := B.notSynchronized
  subst hsz
  have hD := hD0.self (sz := s.heap.size)
  generalize hAe : va_A (va_pl L f) s.heap.size = A at hD ⊢
  have hA : ∀ q : Nat, s.heap.size ≤ q → A q := fun q h => by rw [← hAe]; exact Or.inr h
  have hS : va_S A s.heap s.heap [] := va_S.rf
  have hP : va_P (dC, dI) classes (va_pl L f) s.heap := hP
  have hl := lv_entry ([.ref (ad 0 0), .int fd, .int t0, .int c0]) (n := 7) (Nat.le_of_ble_eq_true rfl)
  rw [lg_entry_eq]
  generalize (lg_sl ([.ref (ad 0 0), .int fd, .int t0, .int c0]) ++ List.replicate (7 - (lg_sl ([.ref (ad 0 0), .int fd, .int t0, .int c0])).length) Slot.unset).toArray = ls at hl ⊢
  have hl : lv_has ls 7 [(0, .ref (ad 0 0)), (1, .int fd), (2, .int t0), (3, .int c0)] := hl
  refine lv_aload_n hx hb d_FB_transfer_0 rfl (lv_at hl 0 rfl) ?_
  refine lv_iload_n hx hb d_FB_transfer_1 rfl (lv_at hl 1 rfl) ?_
  refine rd_callq (va_runV (As := [.int fd]) (rest := []) ⟨hx, hb, hml, hown, hts⟩ (c_FB_accountAt l dC dI (ctys cs) L f (ad 0 0) (ad 0 1) (nI nf) (nI no) (nI nt) yr bd fl (ad 0 2) (ad 0 3) (ad 0 4) (ad 0 5) (cs 0) (fun i => if i < nf then some (ad 1 i) else none) fd hm00 he00 hm01 he01 rfl) (cwV 1 hts (gd_V k_145 k_147 k_0 k_14 k_148) rfl rfl rfl (by decide +kernel) ⟨Nat.le_of_ble_eq_true rfl, Nat.le_of_ble_eq_true rfl⟩) (fw_preV hK hN hP rfl hm00 he00) rfl rfl hl.1 rfl (lv_room (Nat.le_of_ble_eq_true rfl)) d_FB_transfer_2 ⟨Nat.zero_le _, Nat.zero_le _⟩) (fun r_1 hr_1 => ?_)
  rcases at_cases hnf (by decide) hr_1 with ⟨hq_fd, rfl⟩ | ⟨j, hj, rfl, rfl⟩
  · refine W.eq (g2 := F0 m 5 ls [.null]) rfl ?_
    refine lv_astoreN (lv' := [(4, .null), (0, .ref (ad 0 0)), (1, .int fd), (2, .int t0), (3, .int c0)]) hx hb d_FB_transfer_5 hl (by decide) rfl (fun ls hl => ?_)
    refine lv_aload_n hx hb d_FB_transfer_7 rfl (lv_at hl 1 rfl) ?_
    refine lv_iload_n hx hb d_FB_transfer_8 rfl (lv_at hl 3 rfl) ?_
    refine rd_callq (va_runV (As := [.int t0]) (rest := []) ⟨hx, hb, hml, hown, hts⟩ (c_FB_accountAt l dC dI (ctys cs) L f (ad 0 0) (ad 0 1) (nI nf) (nI no) (nI nt) yr bd fl (ad 0 2) (ad 0 3) (ad 0 4) (ad 0 5) (cs 0) (fun i => if i < nf then some (ad 1 i) else none) t0 hm00 he00 hm01 he01 rfl) (cwV 1 hts (gd_V k_145 k_147 k_0 k_14 k_148) rfl rfl rfl (by decide +kernel) ⟨Nat.le_of_ble_eq_true rfl, Nat.le_of_ble_eq_true rfl⟩) (fw_preV hK hN hP rfl hm00 he00) rfl rfl hl.1 rfl (lv_room (Nat.le_of_ble_eq_true rfl)) d_FB_transfer_9 ⟨Nat.zero_le _, Nat.zero_le _⟩) (fun r_2 hr_2 => ?_)
    rcases at_cases hnf (by decide) hr_2 with ⟨hq_t0, rfl⟩ | ⟨k, hk, rfl, rfl⟩
    · refine W.eq (g2 := F0 m 12 ls [.null]) rfl ?_
      refine lv_astoreN (lv' := [(5, .null), (4, .null), (0, .ref (ad 0 0)), (1, .int fd), (2, .int t0), (3, .int c0)]) hx hb d_FB_transfer_12 hl (by decide) rfl (fun ls hl => ?_)
      refine lv_aloadN hx hb d_FB_transfer_14 (lv_at hl 1 rfl) ?_
      refine lv_ifnullN (tgt := 24) hx hb d_FB_transfer_16 (by decide) ?_
      refine lv_iconst (v := (-1)) hx hb d_FB_transfer_24 (by decide) ?_
      have hcall : m_transfer (th, yr, nf, no, nt, bd, nb, fl, AI, AN, AB, AL) fd t0 c0 = ((-1), (0, yr, nf, no, nt, bd, nb, fl, AI, AN, AB, AL)) := (by simp [m_transfer, ixn, bI, hq_fd, hq_t0] <;> (repeat' apply And.intro) <;> rfl)
      have hcs : CS cs (ad 0 0) (0, yr, nf, no, nt, bd, nb, fl, AI, AN, AB, AL) L f := ⟨n, ad, e0, bl, rx, rfl, hC, hR, hM, hB, hZ⟩
      refine W.widen (k := 2) (n := 8) (Nat.le_of_ble_eq_true rfl) (Nat.le_of_ble_eq_true rfl) ?_
      exact W.iret (v := (-1)) hx hb hr (fun t ht hW => ⟨⟨_, (L, f), rfl, by rw [hcall]; exact ⟨rfl, hcs⟩, by rw [ht]; exact hP, va_K.moved hW.alike hK, hD⟩, hS.F ht⟩) hS.2.2 d_FB_transfer_25
    · have ek : (nI k).toNatClampNeg = k := nI_clamp (by omega)
      have hi_k : inN (nI k) nf = true := inN_yes (by omega) hk
      refine W.eq (g2 := F0 m 12 ls [.ref (ad 1 k)]) rfl ?_
      have hm_y_3 : ad 1 k ∈ L := (hC.1 1 k (by rw [n1]; exact hk)).1
      have he_y_3 : f (ad 1 k) = .inr (1, [.int (nI k), .int (AI 1 k), .long (AL 2 k), .long (m_enc AI AN no (nI k)), .long (AL 3 k), .long (m_bat AI AN nb (nI k))]) := (hC.1 1 k (by rw [n1]; exact hk)).2.trans (e1 k hk)
      refine lv_astore (lv' := [(5, .ref (ad 1 k)), (4, .null), (0, .ref (ad 0 0)), (1, .int fd), (2, .int (nI k)), (3, .int c0)]) hx hb d_FB_transfer_12 hl (by decide) rfl (fun ls hl => ?_)
      refine lv_aloadN hx hb d_FB_transfer_14 (lv_at hl 1 rfl) ?_
      refine lv_ifnullN (tgt := 24) hx hb d_FB_transfer_16 (by decide) ?_
      refine lv_iconst (v := (-1)) hx hb d_FB_transfer_24 (by decide) ?_
      have hcall : m_transfer (th, yr, nf, no, nt, bd, nb, fl, AI, AN, AB, AL) fd (nI k) c0 = ((-1), (0, yr, nf, no, nt, bd, nb, fl, AI, AN, AB, AL)) := (by simp [m_transfer, ixn, bI, ek, hi_k, hq_fd] <;> (repeat' apply And.intro) <;> rfl)
      have hcs : CS cs (ad 0 0) (0, yr, nf, no, nt, bd, nb, fl, AI, AN, AB, AL) L f := ⟨n, ad, e0, bl, rx, rfl, hC, hR, hM, hB, hZ⟩
      refine W.widen (k := 2) (n := 8) (Nat.le_of_ble_eq_true rfl) (Nat.le_of_ble_eq_true rfl) ?_
      exact W.iret (v := (-1)) hx hb hr (fun t ht hW => ⟨⟨_, (L, f), rfl, by rw [hcall]; exact ⟨rfl, hcs⟩, by rw [ht]; exact hP, va_K.moved hW.alike hK, hD⟩, hS.F ht⟩) hS.2.2 d_FB_transfer_25
  · have ej : (nI j).toNatClampNeg = j := nI_clamp (by omega)
    have hi_j : inN (nI j) nf = true := inN_yes (by omega) hj
    refine W.eq (g2 := F0 m 5 ls [.ref (ad 1 j)]) rfl ?_
    have hm_y_4 : ad 1 j ∈ L := (hC.1 1 j (by rw [n1]; exact hj)).1
    have he_y_4 : f (ad 1 j) = .inr (1, [.int (nI j), .int (AI 1 j), .long (AL 2 j), .long (m_enc AI AN no (nI j)), .long (AL 3 j), .long (m_bat AI AN nb (nI j))]) := (hC.1 1 j (by rw [n1]; exact hj)).2.trans (e1 j hj)
    refine lv_astore (lv' := [(4, .ref (ad 1 j)), (0, .ref (ad 0 0)), (1, .int (nI j)), (2, .int t0), (3, .int c0)]) hx hb d_FB_transfer_5 hl (by decide) rfl (fun ls hl => ?_)
    refine lv_aload_n hx hb d_FB_transfer_7 rfl (lv_at hl 1 rfl) ?_
    refine lv_iload_n hx hb d_FB_transfer_8 rfl (lv_at hl 3 rfl) ?_
    refine rd_callq (va_runV (As := [.int t0]) (rest := []) ⟨hx, hb, hml, hown, hts⟩ (c_FB_accountAt l dC dI (ctys cs) L f (ad 0 0) (ad 0 1) (nI nf) (nI no) (nI nt) yr bd fl (ad 0 2) (ad 0 3) (ad 0 4) (ad 0 5) (cs 0) (fun i => if i < nf then some (ad 1 i) else none) t0 hm00 he00 hm01 he01 rfl) (cwV 1 hts (gd_V k_145 k_147 k_0 k_14 k_148) rfl rfl rfl (by decide +kernel) ⟨Nat.le_of_ble_eq_true rfl, Nat.le_of_ble_eq_true rfl⟩) (fw_preV hK hN hP rfl hm00 he00) rfl rfl hl.1 rfl (lv_room (Nat.le_of_ble_eq_true rfl)) d_FB_transfer_9 ⟨Nat.zero_le _, Nat.zero_le _⟩) (fun r_5 hr_5 => ?_)
    rcases at_cases hnf (by decide) hr_5 with ⟨hq_t0, rfl⟩ | ⟨k, hk, rfl, rfl⟩
    · refine W.eq (g2 := F0 m 12 ls [.null]) rfl ?_
      refine lv_astoreN (lv' := [(5, .null), (4, .ref (ad 1 j)), (0, .ref (ad 0 0)), (1, .int (nI j)), (2, .int t0), (3, .int c0)]) hx hb d_FB_transfer_12 hl (by decide) rfl (fun ls hl => ?_)
      refine lv_aload hx hb d_FB_transfer_14 (lv_at hl 1 rfl) ?_
      refine lv_ifnull hx hb d_FB_transfer_16 ?_
      refine lv_aloadN hx hb d_FB_transfer_19 (lv_at hl 0 rfl) ?_
      refine lv_ifnonnullN hx hb d_FB_transfer_21 ?_
      refine lv_iconst (v := (-1)) hx hb d_FB_transfer_24 (by decide) ?_
      have hcall : m_transfer (th, yr, nf, no, nt, bd, nb, fl, AI, AN, AB, AL) (nI j) t0 c0 = ((-1), (0, yr, nf, no, nt, bd, nb, fl, AI, AN, AB, AL)) := (by simp [m_transfer, ixn, bI, ej, hi_j, hq_t0] <;> (repeat' apply And.intro) <;> rfl)
      have hcs : CS cs (ad 0 0) (0, yr, nf, no, nt, bd, nb, fl, AI, AN, AB, AL) L f := ⟨n, ad, e0, bl, rx, rfl, hC, hR, hM, hB, hZ⟩
      refine W.widen (k := 2) (n := 8) (Nat.le_of_ble_eq_true rfl) (Nat.le_of_ble_eq_true rfl) ?_
      exact W.iret (v := (-1)) hx hb hr (fun t ht hW => ⟨⟨_, (L, f), rfl, by rw [hcall]; exact ⟨rfl, hcs⟩, by rw [ht]; exact hP, va_K.moved hW.alike hK, hD⟩, hS.F ht⟩) hS.2.2 d_FB_transfer_25
    · have ek : (nI k).toNatClampNeg = k := nI_clamp (by omega)
      have hi_k : inN (nI k) nf = true := inN_yes (by omega) hk
      refine W.eq (g2 := F0 m 12 ls [.ref (ad 1 k)]) rfl ?_
      have hm_y_6 : ad 1 k ∈ L := (hC.1 1 k (by rw [n1]; exact hk)).1
      have he_y_6 : f (ad 1 k) = .inr (1, [.int (nI k), .int (AI 1 k), .long (AL 2 k), .long (m_enc AI AN no (nI k)), .long (AL 3 k), .long (m_bat AI AN nb (nI k))]) := (hC.1 1 k (by rw [n1]; exact hk)).2.trans (e1 k hk)
      refine lv_astore (lv' := [(5, .ref (ad 1 k)), (4, .ref (ad 1 j)), (0, .ref (ad 0 0)), (1, .int (nI j)), (2, .int (nI k)), (3, .int c0)]) hx hb d_FB_transfer_12 hl (by decide) rfl (fun ls hl => ?_)
      refine lv_aload hx hb d_FB_transfer_14 (lv_at hl 1 rfl) ?_
      refine lv_ifnull hx hb d_FB_transfer_16 ?_
      refine lv_aload hx hb d_FB_transfer_19 (lv_at hl 0 rfl) ?_
      refine lv_ifnonnull (tgt := 26) hx hb d_FB_transfer_21 (by decide) ?_
      refine lv_iload_n hx hb d_FB_transfer_26 rfl (lv_at hl 3 rfl) ?_
      refine lv_iload_n hx hb d_FB_transfer_27 rfl (lv_at hl 4 rfl) ?_
      refine lv_icmp_eq (tgt := 43) hx hb d_FB_transfer_28 (by decide) (fun c_7 => ?_) (fun c_7 => ?_)
      · refine lv_bipush (v := (-2)) hx hb d_FB_transfer_43 (by decide) ?_
        have hcall : m_transfer (th, yr, nf, no, nt, bd, nb, fl, AI, AN, AB, AL) (nI j) (nI k) c0 = ((-2), (0, yr, nf, no, nt, bd, nb, fl, AI, AN, AB, AL)) := (by simp [m_transfer, ixn, bI, ej, hi_j, ek, hi_k, c_7] <;> (repeat' apply And.intro) <;> rfl)
        have hcs : CS cs (ad 0 0) (0, yr, nf, no, nt, bd, nb, fl, AI, AN, AB, AL) L f := ⟨n, ad, e0, bl, rx, rfl, hC, hR, hM, hB, hZ⟩
        refine W.widen (k := 2) (n := 8) (Nat.le_of_ble_eq_true rfl) (Nat.le_of_ble_eq_true rfl) ?_
        exact W.iret (v := (-2)) hx hb hr (fun t ht hW => ⟨⟨_, (L, f), rfl, by rw [hcall]; exact ⟨rfl, hcs⟩, by rw [ht]; exact hP, va_K.moved hW.alike hK, hD⟩, hS.F ht⟩) hS.2.2 d_FB_transfer_45
      · refine lv_iload_n hx hb d_FB_transfer_31 rfl (lv_at hl 5 rfl) ?_
        refine lv_i2l hx hb d_FB_transfer_32 rfl ?_
        refine lv_lconst (v := 1) hx hb d_FB_transfer_33 (by decide) ?_
        refine lv_ldc2 (own := R_FB) (v := 1000000000) hx hb hown (hG _ k_167) d_FB_transfer_34 ?_
        refine rd_calli (va_runS (As := [.long (c0.toInt64), .long 1, .long 1000000000]) (rest := []) ⟨hx, hb, hml, hown, hts⟩ (c_FB_isWithin l dC dI (ctys cs) (va_pl L f) (c0.toInt64) 1 1000000000) (cwS 3 hts (gd_S k_106 k_107 k_14 k_108) rfl rfl rfl (by decide +kernel) ⟨Nat.le_of_ble_eq_true rfl, Nat.le_of_ble_eq_true rfl⟩) (rd_preS hK hN hP) rfl rfl hl.1 rfl (lv_room (Nat.le_of_ble_eq_true rfl)) d_FB_transfer_37 ⟨Nat.zero_le _, Nat.zero_le _⟩) (fun r_8 hr_8 => ?_)
        subst hr_8
        refine lb_if_ne (tgt := 46) hx hb d_FB_transfer_40 (by decide) (fun c_9 => ?_) (fun c_9 => ?_)
        · refine lv_aload_n hx hb d_FB_transfer_46 rfl (lv_at hl 2 rfl) ?_
          refine fw_get (D := (dC, dI)) (ci := 0) (v := .int (nI nt)) (C := R_FB) (T := F_FB) (N := 11) hx hb hG iG_FB hown hK hP hm00 he00 rfl 7 (by decide) (hG _ k_74) (fun _ h9 => h9) rfl d_FB_transfer_47 ?_
          refine lv_aload_n hx hb d_FB_transfer_50 rfl (lv_at hl 2 rfl) ?_
          refine fw_get (D := (dC, dI)) (ci := 0) (v := .ref (ad 0 3)) (C := R_FB) (T := F_FB) (N := 11) hx hb hG iG_FB hown hK hP hm00 he00 rfl 2 (by decide) (hG _ k_69) (fun _ h9 => h9) rfl d_FB_transfer_51 ?_
          refine fw_alen (D := (dC, dI)) (v := nI 100) hx hb hK hP hm03 2 he03 rfl rfl d_FB_transfer_54 ?_
          refine lv_icmp_lt (tgt := 61) hx hb d_FB_transfer_55 (by decide) (fun c_10 => ?_) (fun c_10 => ?_)
          · have hlt : nt < 100 := (nI_ltI (a := nt) (b := 100) (by omega) (by decide)).mp c_10
            have hz : ¬ nt = 100 := by omega
            refine lv_aload_n hx hb d_FB_transfer_61 rfl (lv_at hl 2 rfl) ?_
            refine fw_get (D := (dC, dI)) (ci := 0) (v := .int (nI nt)) (C := R_FB) (T := F_FB) (N := 11) hx hb hG iG_FB hown hK hP hm00 he00 rfl 7 (by decide) (hG _ k_74) (fun _ h9 => h9) rfl d_FB_transfer_62 ?_
            refine lv_istore (lv' := [(6, .int (nI nt)), (5, .ref (ad 1 k)), (4, .ref (ad 1 j)), (0, .ref (ad 0 0)), (1, .int (nI j)), (2, .int (nI k)), (3, .int c0)]) hx hb d_FB_transfer_65 hl (by decide) rfl (fun ls hl => ?_)
            refine lv_aload_n hx hb d_FB_transfer_67 rfl (lv_at hl 3 rfl) ?_
            refine fw_get (D := (dC, dI)) (ci := 0) (v := .ref (ad 0 3)) (C := R_FB) (T := F_FB) (N := 11) hx hb hG iG_FB hown hK hP hm00 he00 rfl 2 (by decide) (hG _ k_69) (fun _ h9 => h9) rfl d_FB_transfer_68 ?_
            refine lv_iload hx hb d_FB_transfer_71 (lv_at hl 0 rfl) ?_
            refine fw_new (D := (dC, dI)) (ci := 3) (fs := [.null, .null, .int 0, .null, .int (bI false)]) (C := R_Mv) (T := F_Mv) (N := 5) hx hb hG iG_Mv t_Mv t_Mv_ok hown (hG _ k_39) (hG _ k_336) (hG _ k_22) hK hP hD hS hA rfl (fun j hj => by rcases (show j = 0 ∨ j = 1 ∨ j = 2 ∨ j = 3 ∨ j = 4 by omega) with rfl | rfl | rfl | rfl | rfl <;> rfl) (Nat.le_of_ble_eq_true rfl) (Nat.le_of_ble_eq_true rfl) d_FB_transfer_73 (fun q_11 H hq_q_11 hP hD hS => ?_)
            obtain ⟨L_13, eL_13⟩ : ∃ z, z = L ++ [q_11] := ⟨_, rfl⟩
            obtain ⟨f_12, ef_12⟩ : ∃ z, z = va_up f q_11 (.inr (3, [.null, .null, .int 0, .null, .int (bI false)])) := ⟨_, rfl⟩
            have hP : va_P (dC, dI) classes (va_pl L_13 f_12) H := by rw [eL_13, ef_12]; exact hP
            have hD : va_D A (va_pl L_13 f_12) := by rw [eL_13, ef_12]; exact hD
            have ne_16 : (ad 0 0) ≠ q_11 := fun z => hq_q_11 (z ▸ hm00)
            have hm_15 : (ad 0 0) ∈ L_13 := by rw [eL_13]; exact List.mem_append_left _ hm00
            have he_14 : f_12 (ad 0 0) = .inr (0, [.ref (ad 0 1), .ref (ad 0 2), .ref (ad 0 3), .ref (ad 0 4), .ref (ad 0 5), .int (nI nf), .int (nI no), .int (nI nt), .int yr, .int bd, .int fl]) := by rw [ef_12, va_up_ne _ _ ne_16]; exact he00
            have ne_19 : (ad 0 1) ≠ q_11 := fun z => hq_q_11 (z ▸ hm01)
            have hm_18 : (ad 0 1) ∈ L_13 := by rw [eL_13]; exact List.mem_append_left _ hm01
            have he_17 : f_12 (ad 0 1) = .inl ((cs 0), 30, .inr (.inr (.inr (.inr (fun i => if i < nf then some (ad 1 i) else none))))) := by rw [ef_12, va_up_ne _ _ ne_19]; exact he01
            have ne_22 : (ad 0 2) ≠ q_11 := fun z => hq_q_11 (z ▸ hm02)
            have hm_21 : (ad 0 2) ∈ L_13 := by rw [eL_13]; exact List.mem_append_left _ hm02
            have he_20 : f_12 (ad 0 2) = .inl ((cs 1), 300, .inr (.inr (.inr (.inr (fun i => if i < no then some (ad 2 i) else none))))) := by rw [ef_12, va_up_ne _ _ ne_22]; exact he02
            have ne_25 : (ad 0 3) ≠ q_11 := fun z => hq_q_11 (z ▸ hm03)
            have hm_24 : (ad 0 3) ∈ L_13 := by rw [eL_13]; exact List.mem_append_left _ hm03
            have he_23 : f_12 (ad 0 3) = .inl ((cs 2), 100, .inr (.inr (.inr (.inr (fun i => if i < nt then some (ad 4 i) else none))))) := by rw [ef_12, va_up_ne _ _ ne_25]; exact he03
            have ne_28 : (ad 0 4) ≠ q_11 := fun z => hq_q_11 (z ▸ hm04)
            have hm_27 : (ad 0 4) ∈ L_13 := by rw [eL_13]; exact List.mem_append_left _ hm04
            have he_26 : f_12 (ad 0 4) = .inl ((cs 3), 10, .inr (.inr (.inr (.inr (fun c => if AN 18 c = 0 then none else some (ad 6 (rx c (AN 18 c - 1)))))))) := by rw [ef_12, va_up_ne _ _ ne_28]; exact he04
            have ne_31 : (ad 0 5) ≠ q_11 := fun z => hq_q_11 (z ▸ hm05)
            have hm_30 : (ad 0 5) ∈ L_13 := by rw [eL_13]; exact List.mem_append_left _ hm05
            have he_29 : f_12 (ad 0 5) = .inr (6, [.ref (ad 0 6), .int (nI nb), .long (m_tot AI nb)]) := by rw [ef_12, va_up_ne _ _ ne_31]; exact he05
            have ne_34 : (ad 0 6) ≠ q_11 := fun z => hq_q_11 (z ▸ hm06)
            have hm_33 : (ad 0 6) ∈ L_13 := by rw [eL_13]; exact List.mem_append_left _ hm06
            have he_32 : f_12 (ad 0 6) = .inl ((cs 4), 20, .inr (.inr (.inr (.inr (fun r => if r < nb then some (ad 1 (AN 22 r)) else none))))) := by rw [ef_12, va_up_ne _ _ ne_34]; exact he06
            have ne_37 : (ad 1 j) ≠ q_11 := fun z => hq_q_11 (z ▸ hm_y_4)
            have hm_36 : (ad 1 j) ∈ L_13 := by rw [eL_13]; exact List.mem_append_left _ hm_y_4
            have he_35 : f_12 (ad 1 j) = .inr (1, [.int (nI j), .int (AI 1 j), .long (AL 2 j), .long (m_enc AI AN no (nI j)), .long (AL 3 j), .long (m_bat AI AN nb (nI j))]) := by rw [ef_12, va_up_ne _ _ ne_37]; exact he_y_4
            have ne_40 : (ad 1 k) ≠ q_11 := fun z => hq_q_11 (z ▸ hm_y_6)
            have hm_39 : (ad 1 k) ∈ L_13 := by rw [eL_13]; exact List.mem_append_left _ hm_y_6
            have he_38 : f_12 (ad 1 k) = .inr (1, [.int (nI k), .int (AI 1 k), .long (AL 2 k), .long (m_enc AI AN no (nI k)), .long (AL 3 k), .long (m_bat AI AN nb (nI k))]) := by rw [ef_12, va_up_ne _ _ ne_40]; exact he_y_6
            have hm_42 : q_11 ∈ L_13 := by rw [eL_13]; exact List.mem_append_right _ (List.mem_singleton.mpr rfl)
            have he_41 : f_12 q_11 = .inr (3, [.null, .null, .int 0, .null, .int (bI false)]) := by rw [ef_12]; exact va_up_self _ _ _
            refine lv_dup hx hb d_FB_transfer_76 rfl ?_
            refine lv_aload hx hb d_FB_transfer_77 (lv_at hl 2 rfl) ?_
            refine lv_aload hx hb d_FB_transfer_79 (lv_at hl 1 rfl) ?_
            refine lv_iload_n hx hb d_FB_transfer_81 rfl (lv_at hl 6 rfl) ?_
            refine mu_callv (va_runI (As := [.ref (ad 1 j), .ref (ad 1 k), .int c0]) (rest := [.ref q_11, .int (nI nt), .ref (ad 0 3)]) ⟨hx, hb, hml, hown, hts⟩ (c_Mv_init l dC dI (ctys cs) L_13 f_12 _ q_11 0 false (ad 1 j) (ad 1 k) c0 hm_42 he_41) (cwI 3 hts (gd_c k_339) rfl rfl rfl (hG _ k_22) (hG _ k_337) (hG _ k_338) rfl (by decide +kernel) ⟨Nat.le_of_ble_eq_true rfl, Nat.le_of_ble_eq_true rfl⟩) (mu_preS hK hN hP hD) rfl rfl hl.1 rfl (lv_room (Nat.le_of_ble_eq_true rfl)) d_FB_transfer_82 ⟨Nat.le_of_ble_eq_true rfl, Nat.le_of_ble_eq_true rfl⟩) hD hS hA (fun ur_43 H locs hr_43 hP hD hS => ?_)
            obtain ⟨q_44, hq_q_44, hr_43⟩ := hr_43
            subst hr_43
            obtain ⟨f_45, ef_45⟩ : ∃ z, z = va_up f_12 q_11 (.inr (3, [.ref (ad 1 j), .ref (ad 1 k), .int c0, .ref q_44, .int (bI false)])) := ⟨_, rfl⟩
            have he_46 : f_45 (ad 0 0) = .inr (0, [.ref (ad 0 1), .ref (ad 0 2), .ref (ad 0 3), .ref (ad 0 4), .ref (ad 0 5), .int (nI nf), .int (nI no), .int (nI nt), .int yr, .int bd, .int fl]) := by rw [ef_45, va_up_ne _ _ ne_16]; exact he_14
            have he_47 : f_45 (ad 0 1) = .inl ((cs 0), 30, .inr (.inr (.inr (.inr (fun i => if i < nf then some (ad 1 i) else none))))) := by rw [ef_45, va_up_ne _ _ ne_19]; exact he_17
            have he_48 : f_45 (ad 0 2) = .inl ((cs 1), 300, .inr (.inr (.inr (.inr (fun i => if i < no then some (ad 2 i) else none))))) := by rw [ef_45, va_up_ne _ _ ne_22]; exact he_20
            have he_49 : f_45 (ad 0 3) = .inl ((cs 2), 100, .inr (.inr (.inr (.inr (fun i => if i < nt then some (ad 4 i) else none))))) := by rw [ef_45, va_up_ne _ _ ne_25]; exact he_23
            have he_50 : f_45 (ad 0 4) = .inl ((cs 3), 10, .inr (.inr (.inr (.inr (fun c => if AN 18 c = 0 then none else some (ad 6 (rx c (AN 18 c - 1)))))))) := by rw [ef_45, va_up_ne _ _ ne_28]; exact he_26
            have he_51 : f_45 (ad 0 5) = .inr (6, [.ref (ad 0 6), .int (nI nb), .long (m_tot AI nb)]) := by rw [ef_45, va_up_ne _ _ ne_31]; exact he_29
            have he_52 : f_45 (ad 0 6) = .inl ((cs 4), 20, .inr (.inr (.inr (.inr (fun r => if r < nb then some (ad 1 (AN 22 r)) else none))))) := by rw [ef_45, va_up_ne _ _ ne_34]; exact he_32
            have he_53 : f_45 (ad 1 j) = .inr (1, [.int (nI j), .int (AI 1 j), .long (AL 2 j), .long (m_enc AI AN no (nI j)), .long (AL 3 j), .long (m_bat AI AN nb (nI j))]) := by rw [ef_45, va_up_ne _ _ ne_37]; exact he_35
            have he_54 : f_45 (ad 1 k) = .inr (1, [.int (nI k), .int (AI 1 k), .long (AL 2 k), .long (m_enc AI AN no (nI k)), .long (AL 3 k), .long (m_bat AI AN nb (nI k))]) := by rw [ef_45, va_up_ne _ _ ne_40]; exact he_38
            have he_55 : f_45 q_11 = .inr (3, [.ref (ad 1 j), .ref (ad 1 k), .int c0, .ref q_44, .int (bI false)]) := by rw [ef_45]; exact va_up_self _ _ _
            obtain ⟨L_57, eL_57⟩ : ∃ z, z = L_13 ++ [q_44] := ⟨_, rfl⟩
            obtain ⟨f_56, ef_56⟩ : ∃ z, z = va_up f_45 q_44 (.inr (4, [.long 0, .long 0, .int 0])) := ⟨_, rfl⟩
            have ne_60 : (ad 0 0) ≠ q_44 := fun z => hq_q_44 (z ▸ hm_15)
            have hm_59 : (ad 0 0) ∈ L_57 := by rw [eL_57]; exact List.mem_append_left _ hm_15
            have he_58 : f_56 (ad 0 0) = .inr (0, [.ref (ad 0 1), .ref (ad 0 2), .ref (ad 0 3), .ref (ad 0 4), .ref (ad 0 5), .int (nI nf), .int (nI no), .int (nI nt), .int yr, .int bd, .int fl]) := by rw [ef_56, va_up_ne _ _ ne_60]; exact he_46
            have ne_63 : (ad 0 1) ≠ q_44 := fun z => hq_q_44 (z ▸ hm_18)
            have hm_62 : (ad 0 1) ∈ L_57 := by rw [eL_57]; exact List.mem_append_left _ hm_18
            have he_61 : f_56 (ad 0 1) = .inl ((cs 0), 30, .inr (.inr (.inr (.inr (fun i => if i < nf then some (ad 1 i) else none))))) := by rw [ef_56, va_up_ne _ _ ne_63]; exact he_47
            have ne_66 : (ad 0 2) ≠ q_44 := fun z => hq_q_44 (z ▸ hm_21)
            have hm_65 : (ad 0 2) ∈ L_57 := by rw [eL_57]; exact List.mem_append_left _ hm_21
            have he_64 : f_56 (ad 0 2) = .inl ((cs 1), 300, .inr (.inr (.inr (.inr (fun i => if i < no then some (ad 2 i) else none))))) := by rw [ef_56, va_up_ne _ _ ne_66]; exact he_48
            have ne_69 : (ad 0 3) ≠ q_44 := fun z => hq_q_44 (z ▸ hm_24)
            have hm_68 : (ad 0 3) ∈ L_57 := by rw [eL_57]; exact List.mem_append_left _ hm_24
            have he_67 : f_56 (ad 0 3) = .inl ((cs 2), 100, .inr (.inr (.inr (.inr (fun i => if i < nt then some (ad 4 i) else none))))) := by rw [ef_56, va_up_ne _ _ ne_69]; exact he_49
            have ne_72 : (ad 0 4) ≠ q_44 := fun z => hq_q_44 (z ▸ hm_27)
            have hm_71 : (ad 0 4) ∈ L_57 := by rw [eL_57]; exact List.mem_append_left _ hm_27
            have he_70 : f_56 (ad 0 4) = .inl ((cs 3), 10, .inr (.inr (.inr (.inr (fun c => if AN 18 c = 0 then none else some (ad 6 (rx c (AN 18 c - 1)))))))) := by rw [ef_56, va_up_ne _ _ ne_72]; exact he_50
            have ne_75 : (ad 0 5) ≠ q_44 := fun z => hq_q_44 (z ▸ hm_30)
            have hm_74 : (ad 0 5) ∈ L_57 := by rw [eL_57]; exact List.mem_append_left _ hm_30
            have he_73 : f_56 (ad 0 5) = .inr (6, [.ref (ad 0 6), .int (nI nb), .long (m_tot AI nb)]) := by rw [ef_56, va_up_ne _ _ ne_75]; exact he_51
            have ne_78 : (ad 0 6) ≠ q_44 := fun z => hq_q_44 (z ▸ hm_33)
            have hm_77 : (ad 0 6) ∈ L_57 := by rw [eL_57]; exact List.mem_append_left _ hm_33
            have he_76 : f_56 (ad 0 6) = .inl ((cs 4), 20, .inr (.inr (.inr (.inr (fun r => if r < nb then some (ad 1 (AN 22 r)) else none))))) := by rw [ef_56, va_up_ne _ _ ne_78]; exact he_52
            have ne_81 : (ad 1 j) ≠ q_44 := fun z => hq_q_44 (z ▸ hm_36)
            have hm_80 : (ad 1 j) ∈ L_57 := by rw [eL_57]; exact List.mem_append_left _ hm_36
            have he_79 : f_56 (ad 1 j) = .inr (1, [.int (nI j), .int (AI 1 j), .long (AL 2 j), .long (m_enc AI AN no (nI j)), .long (AL 3 j), .long (m_bat AI AN nb (nI j))]) := by rw [ef_56, va_up_ne _ _ ne_81]; exact he_53
            have ne_84 : (ad 1 k) ≠ q_44 := fun z => hq_q_44 (z ▸ hm_39)
            have hm_83 : (ad 1 k) ∈ L_57 := by rw [eL_57]; exact List.mem_append_left _ hm_39
            have he_82 : f_56 (ad 1 k) = .inr (1, [.int (nI k), .int (AI 1 k), .long (AL 2 k), .long (m_enc AI AN no (nI k)), .long (AL 3 k), .long (m_bat AI AN nb (nI k))]) := by rw [ef_56, va_up_ne _ _ ne_84]; exact he_54
            have ne_87 : q_11 ≠ q_44 := fun z => hq_q_44 (z ▸ hm_42)
            have hm_86 : q_11 ∈ L_57 := by rw [eL_57]; exact List.mem_append_left _ hm_42
            have he_85 : f_56 q_11 = .inr (3, [.ref (ad 1 j), .ref (ad 1 k), .int c0, .ref q_44, .int (bI false)]) := by rw [ef_56, va_up_ne _ _ ne_87]; exact he_55
            have hm_89 : q_44 ∈ L_57 := by rw [eL_57]; exact List.mem_append_right _ (List.mem_singleton.mpr rfl)
            have he_88 : f_56 q_44 = .inr (4, [.long 0, .long 0, .int 0]) := by rw [ef_56]; exact va_up_self _ _ _
            have hP : va_P (dC, dI) classes (va_pl L_57 f_56) H := by rw [ef_56, eL_57, ef_45]; exact hP
            have hD : va_D A (va_pl L_57 f_56) := by rw [ef_56, eL_57, ef_45]; exact hD
            refine fw_ast (D := (dC, dI)) (r := (R_Mv, F_Mv, 5)) (ci := 3) (n := 100) (g := (fun i => if i < nt then some (ad 4 i) else none)) hx hb hK hP hD hS hm_68 2 he_67 rfl hm_86 he_85 rfl (vp_in_nI (by omega) (by omega)) d_FB_transfer_85 (fun H locs hP hD hS => ?_)
            rw [nI_clamp (by omega)] at hP hD
            obtain ⟨f_90, ef_90⟩ : ∃ z, z = va_up f_56 (ad 0 3) (.inl ((cs 2), 100, .inr (.inr (.inr (.inr (va_up (fun i => if i < nt then some (ad 4 i) else none) nt (some q_11))))))) := ⟨_, rfl⟩
            have he_91 : f_90 (ad 0 0) = .inr (0, [.ref (ad 0 1), .ref (ad 0 2), .ref (ad 0 3), .ref (ad 0 4), .ref (ad 0 5), .int (nI nf), .int (nI no), .int (nI nt), .int yr, .int bd, .int fl]) := by rw [ef_90, va_up_ne _ _ (CP.ne hC 0 0 0 3 (by rw [n0]; decide) (by rw [n0]; decide) (by decide))]; exact he_58
            have he_92 : f_90 (ad 0 1) = .inl ((cs 0), 30, .inr (.inr (.inr (.inr (fun i => if i < nf then some (ad 1 i) else none))))) := by rw [ef_90, va_up_ne _ _ (CP.ne hC 0 1 0 3 (by rw [n0]; decide) (by rw [n0]; decide) (by decide))]; exact he_61
            have he_93 : f_90 (ad 0 2) = .inl ((cs 1), 300, .inr (.inr (.inr (.inr (fun i => if i < no then some (ad 2 i) else none))))) := by rw [ef_90, va_up_ne _ _ (CP.ne hC 0 2 0 3 (by rw [n0]; decide) (by rw [n0]; decide) (by decide))]; exact he_64
            have he_94 : f_90 (ad 0 3) = .inl ((cs 2), 100, .inr (.inr (.inr (.inr (va_up (fun i => if i < nt then some (ad 4 i) else none) nt (some q_11)))))) := by rw [ef_90]; exact va_up_self _ _ _
            have he_95 : f_90 (ad 0 4) = .inl ((cs 3), 10, .inr (.inr (.inr (.inr (fun c => if AN 18 c = 0 then none else some (ad 6 (rx c (AN 18 c - 1)))))))) := by rw [ef_90, va_up_ne _ _ (Ne.symm (CP.ne hC 0 3 0 4 (by rw [n0]; decide) (by rw [n0]; decide) (by decide)))]; exact he_70
            have he_96 : f_90 (ad 0 5) = .inr (6, [.ref (ad 0 6), .int (nI nb), .long (m_tot AI nb)]) := by rw [ef_90, va_up_ne _ _ (Ne.symm (CP.ne hC 0 3 0 5 (by rw [n0]; decide) (by rw [n0]; decide) (by decide)))]; exact he_73
            have he_97 : f_90 (ad 0 6) = .inl ((cs 4), 20, .inr (.inr (.inr (.inr (fun r => if r < nb then some (ad 1 (AN 22 r)) else none))))) := by rw [ef_90, va_up_ne _ _ (Ne.symm (CP.ne hC 0 3 0 6 (by rw [n0]; decide) (by rw [n0]; decide) (by decide)))]; exact he_76
            have he_98 : f_90 (ad 1 j) = .inr (1, [.int (nI j), .int (AI 1 j), .long (AL 2 j), .long (m_enc AI AN no (nI j)), .long (AL 3 j), .long (m_bat AI AN nb (nI j))]) := by rw [ef_90, va_up_ne _ _ (fw_ne he_79 he_67 (show (2 : Nat) ≠ 0 by decide))]; exact he_79
            have he_99 : f_90 (ad 1 k) = .inr (1, [.int (nI k), .int (AI 1 k), .long (AL 2 k), .long (m_enc AI AN no (nI k)), .long (AL 3 k), .long (m_bat AI AN nb (nI k))]) := by rw [ef_90, va_up_ne _ _ (fw_ne he_82 he_67 (show (2 : Nat) ≠ 0 by decide))]; exact he_82
            have he_100 : f_90 q_11 = .inr (3, [.ref (ad 1 j), .ref (ad 1 k), .int c0, .ref q_44, .int (bI false)]) := by rw [ef_90, va_up_ne _ _ (Ne.symm ne_25)]; exact he_85
            have he_101 : f_90 q_44 = .inr (4, [.long 0, .long 0, .int 0]) := by rw [ef_90, va_up_ne _ _ (Ne.symm ne_69)]; exact he_88
            have hP : va_P (dC, dI) classes (va_pl L_57 f_90) H := by rw [ef_90]; exact hP
            have hD : va_D A (va_pl L_57 f_90) := by rw [ef_90]; exact hD
            refine lv_aload_n hx hb d_FB_transfer_86 rfl (lv_at hl 3 rfl) ?_
            refine lv_dup hx hb d_FB_transfer_87 rfl ?_
            refine fw_get (D := (dC, dI)) (ci := 0) (v := .int (nI nt)) (C := R_FB) (T := F_FB) (N := 11) hx hb hG iG_FB hown hK hP hm_59 he_91 rfl 7 (by decide) (hG _ k_74) (fun _ h9 => h9) rfl d_FB_transfer_88 ?_
            refine lv_iconst (v := 1) hx hb d_FB_transfer_91 (by decide) ?_
            refine lv_iadd hx hb d_FB_transfer_92 ?_
            refine lv_topI (y := nI (nt + 1)) (nI_add nt 1) ?_
            refine fw_put (D := (dC, dI)) (ci := 0) (v := .int (nI (nt + 1))) (ty := .int) (C := R_FB) (T := F_FB) (N := 11) hx hb hG iG_FB t_FB t_FB_ok n_FB hown hK hP hD hS hm_59 he_91 rfl 7 (by decide) (hG _ k_74) (fun _ h9 => h9) rfl (by decide +kernel) rfl rfl (Nat.le_of_ble_eq_true rfl) d_FB_transfer_93 (fun H locs hP hD hS => ?_)
            obtain ⟨f_102, ef_102⟩ : ∃ z, z = va_up f_90 (ad 0 0) (.inr (0, [.ref (ad 0 1), .ref (ad 0 2), .ref (ad 0 3), .ref (ad 0 4), .ref (ad 0 5), .int (nI nf), .int (nI no), .int (nI (nt + 1)), .int yr, .int bd, .int fl])) := ⟨_, rfl⟩
            have he_103 : f_102 (ad 0 0) = .inr (0, [.ref (ad 0 1), .ref (ad 0 2), .ref (ad 0 3), .ref (ad 0 4), .ref (ad 0 5), .int (nI nf), .int (nI no), .int (nI (nt + 1)), .int yr, .int bd, .int fl]) := by rw [ef_102]; exact va_up_self _ _ _
            have he_104 : f_102 (ad 0 1) = .inl ((cs 0), 30, .inr (.inr (.inr (.inr (fun i => if i < nf then some (ad 1 i) else none))))) := by rw [ef_102, va_up_ne _ _ (Ne.symm (CP.ne hC 0 0 0 1 (by rw [n0]; decide) (by rw [n0]; decide) (by decide)))]; exact he_92
            have he_105 : f_102 (ad 0 2) = .inl ((cs 1), 300, .inr (.inr (.inr (.inr (fun i => if i < no then some (ad 2 i) else none))))) := by rw [ef_102, va_up_ne _ _ (Ne.symm (CP.ne hC 0 0 0 2 (by rw [n0]; decide) (by rw [n0]; decide) (by decide)))]; exact he_93
            have he_106 : f_102 (ad 0 3) = .inl ((cs 2), 100, .inr (.inr (.inr (.inr (va_up (fun i => if i < nt then some (ad 4 i) else none) nt (some q_11)))))) := by rw [ef_102, va_up_ne _ _ (Ne.symm (CP.ne hC 0 0 0 3 (by rw [n0]; decide) (by rw [n0]; decide) (by decide)))]; exact he_94
            have he_107 : f_102 (ad 0 4) = .inl ((cs 3), 10, .inr (.inr (.inr (.inr (fun c => if AN 18 c = 0 then none else some (ad 6 (rx c (AN 18 c - 1)))))))) := by rw [ef_102, va_up_ne _ _ (Ne.symm (CP.ne hC 0 0 0 4 (by rw [n0]; decide) (by rw [n0]; decide) (by decide)))]; exact he_95
            have he_108 : f_102 (ad 0 5) = .inr (6, [.ref (ad 0 6), .int (nI nb), .long (m_tot AI nb)]) := by rw [ef_102, va_up_ne _ _ (Ne.symm (CP.ne hC 0 0 0 5 (by rw [n0]; decide) (by rw [n0]; decide) (by decide)))]; exact he_96
            have he_109 : f_102 (ad 0 6) = .inl ((cs 4), 20, .inr (.inr (.inr (.inr (fun r => if r < nb then some (ad 1 (AN 22 r)) else none))))) := by rw [ef_102, va_up_ne _ _ (Ne.symm (CP.ne hC 0 0 0 6 (by rw [n0]; decide) (by rw [n0]; decide) (by decide)))]; exact he_97
            have he_110 : f_102 (ad 1 j) = .inr (1, [.int (nI j), .int (AI 1 j), .long (AL 2 j), .long (m_enc AI AN no (nI j)), .long (AL 3 j), .long (m_bat AI AN nb (nI j))]) := by rw [ef_102, va_up_ne _ _ (fw_ne he_98 he_91 (show (2 : Nat) ≠ 1 by decide))]; exact he_98
            have he_111 : f_102 (ad 1 k) = .inr (1, [.int (nI k), .int (AI 1 k), .long (AL 2 k), .long (m_enc AI AN no (nI k)), .long (AL 3 k), .long (m_bat AI AN nb (nI k))]) := by rw [ef_102, va_up_ne _ _ (fw_ne he_99 he_91 (show (2 : Nat) ≠ 1 by decide))]; exact he_99
            have he_112 : f_102 q_11 = .inr (3, [.ref (ad 1 j), .ref (ad 1 k), .int c0, .ref q_44, .int (bI false)]) := by rw [ef_102, va_up_ne _ _ (Ne.symm ne_16)]; exact he_100
            have he_113 : f_102 q_44 = .inr (4, [.long 0, .long 0, .int 0]) := by rw [ef_102, va_up_ne _ _ (Ne.symm ne_60)]; exact he_101
            have hP : va_P (dC, dI) classes (va_pl L_57 f_102) H := by rw [ef_102]; exact hP
            have hD : va_D A (va_pl L_57 f_102) := by rw [ef_102]; exact hD
            refine lv_iload hx hb d_FB_transfer_96 (lv_at hl 0 rfl) ?_
            have hjk : j ≠ k := fun q => c_7 (by rw [q])
            have hcall : m_transfer (th, yr, nf, no, nt, bd, nb, fl, AI, AN, AB, AL) (nI j) (nI k) c0 = ((nI nt), (0, yr, nf, no, nt + 1, bd, nb, fl, u2 AI 15 nt c0, u2 (u2 AN 13 nt j) 14 nt k, AB, AL)) := (by simp [m_transfer, ixn, bI, ej, hi_j, ek, hi_k, c_7, c_9, hz] <;> (repeat' apply And.intro) <;> rfl)
            have hcs : CS cs (ad 0 0) (0, yr, nf, no, nt + 1, bd, nb, fl, u2 AI 15 nt c0, u2 (u2 AN 13 nt j) 14 nt k, AB, AL) L_57 f_102 := (by rw [eL_13] at hq_q_44; rw [ef_102, ef_90, ef_56, eL_57, ef_45, ef_12, eL_13]; exact CS_transfer hC hR hM hB hZ hlt hq_q_11 hq_q_44 hj hk hjk c0 _)
            refine W.widen (k := 2) (n := 8) (Nat.le_of_ble_eq_true rfl) (Nat.le_of_ble_eq_true rfl) ?_
            exact W.iret (v := (nI nt)) hx hb hr (fun t ht hW => ⟨⟨_, (L_57, f_102), rfl, by rw [hcall]; exact ⟨rfl, hcs⟩, by rw [ht]; exact hP, va_K.moved hW.alike hK, hD⟩, hS.F ht⟩) hS.2.2 d_FB_transfer_98
          · have hz : nt = 100 := by have h9 := (not_congr (nI_ltI (a := nt) (b := 100) (by omega) (by decide))).mp c_10; omega
            refine lv_bipush (v := (-4)) hx hb d_FB_transfer_58 (by decide) ?_
            have hcall : m_transfer (th, yr, nf, no, nt, bd, nb, fl, AI, AN, AB, AL) (nI j) (nI k) c0 = ((-4), (0, yr, nf, no, nt, bd, nb, fl, AI, AN, AB, AL)) := (by simp [m_transfer, ixn, bI, ej, hi_j, ek, hi_k, c_7, c_9, hz] <;> (repeat' apply And.intro) <;> rfl)
            have hcs : CS cs (ad 0 0) (0, yr, nf, no, nt, bd, nb, fl, AI, AN, AB, AL) L f := ⟨n, ad, e0, bl, rx, rfl, hC, hR, hM, hB, hZ⟩
            refine W.widen (k := 2) (n := 8) (Nat.le_of_ble_eq_true rfl) (Nat.le_of_ble_eq_true rfl) ?_
            exact W.iret (v := (-4)) hx hb hr (fun t ht hW => ⟨⟨_, (L, f), rfl, by rw [hcall]; exact ⟨rfl, hcs⟩, by rw [ht]; exact hP, va_K.moved hW.alike hK, hD⟩, hS.F ht⟩) hS.2.2 d_FB_transfer_60
        · refine lv_bipush (v := (-2)) hx hb d_FB_transfer_43 (by decide) ?_
          have hcall : m_transfer (th, yr, nf, no, nt, bd, nb, fl, AI, AN, AB, AL) (nI j) (nI k) c0 = ((-2), (0, yr, nf, no, nt, bd, nb, fl, AI, AN, AB, AL)) := (by simp [m_transfer, ixn, bI, ej, hi_j, ek, hi_k, c_7, c_9] <;> (repeat' apply And.intro) <;> rfl)
          have hcs : CS cs (ad 0 0) (0, yr, nf, no, nt, bd, nb, fl, AI, AN, AB, AL) L f := ⟨n, ad, e0, bl, rx, rfl, hC, hR, hM, hB, hZ⟩
          refine W.widen (k := 2) (n := 8) (Nat.le_of_ble_eq_true rfl) (Nat.le_of_ble_eq_true rfl) ?_
          exact W.iret (v := (-2)) hx hb hr (fun t ht hW => ⟨⟨_, (L, f), rfl, by rw [hcall]; exact ⟨rfl, hcs⟩, by rw [ht]; exact hP, va_K.moved hW.alike hK, hD⟩, hS.F ht⟩) hS.2.2 d_FB_transfer_45
