theorem d_FB_about_0 : decode b_FB_about 0 = .ok (.aload_n 0, 1) := by decide +kernel
theorem d_FB_about_1 : decode b_FB_about 1 = .ok (.iload_n 1, 1) := by decide +kernel
theorem d_FB_about_2 : decode b_FB_about 2 = .ok (.invokevirtual 71, 3) := by decide +kernel
theorem d_FB_about_5 : decode b_FB_about 5 = .ok (.astore_n 3, 1) := by decide +kernel
theorem d_FB_about_6 : decode b_FB_about 6 = .ok (.aload_n 3, 1) := by decide +kernel
theorem d_FB_about_7 : decode b_FB_about 7 = .ok (.ifnonnull 7, 3) := by decide +kernel
theorem d_FB_about_10 : decode b_FB_about 10 = .ok (.ldc2_w 243, 3) := by decide +kernel
theorem d_FB_about_13 : decode b_FB_about 13 = .ok (.lreturn, 1) := by decide +kernel
theorem d_FB_about_14 : decode b_FB_about 14 = .ok (.iload_n 2, 1) := by decide +kernel
theorem d_FB_about_15 : decode b_FB_about 15 = .ok (.tableswitch 49 0 3 #[29, 34, 39, 44], 29) := by decide +kernel
theorem d_FB_about_44 : decode b_FB_about 44 = .ok (.aload_n 3, 1) := by decide +kernel
theorem d_FB_about_45 : decode b_FB_about 45 = .ok (.getfield 80, 3) := by decide +kernel
theorem d_FB_about_48 : decode b_FB_about 48 = .ok (.lreturn, 1) := by decide +kernel
theorem d_FB_about_49 : decode b_FB_about 49 = .ok (.aload_n 3, 1) := by decide +kernel
theorem d_FB_about_50 : decode b_FB_about 50 = .ok (.getfield 172, 3) := by decide +kernel
theorem d_FB_about_53 : decode b_FB_about 53 = .ok (.lreturn, 1) := by decide +kernel
theorem d_FB_about_54 : decode b_FB_about 54 = .ok (.aload_n 3, 1) := by decide +kernel
theorem d_FB_about_55 : decode b_FB_about 55 = .ok (.getfield 245, 3) := by decide +kernel
theorem d_FB_about_58 : decode b_FB_about 58 = .ok (.lreturn, 1) := by decide +kernel
theorem d_FB_about_59 : decode b_FB_about 59 = .ok (.aload_n 3, 1) := by decide +kernel
theorem d_FB_about_60 : decode b_FB_about 60 = .ok (.invokevirtual 92, 3) := by decide +kernel
theorem d_FB_about_63 : decode b_FB_about 63 = .ok (.lreturn, 1) := by decide +kernel
theorem d_FB_about_64 : decode b_FB_about 64 = .ok (.ldc2_w 243, 3) := by decide +kernel
theorem d_FB_about_67 : decode b_FB_about 67 = .ok (.lreturn, 1) := by decide +kernel
set_option maxHeartbeats 4000000 in
set_option maxRecDepth 100000 in
theorem c_FB_about (l : Launch) (dC : Nat → ClassId) (dI : Nat → Nat → Nat) (cs : Nat → ClassId) (o : Nat) (th yr : Int32) (nf no nt : Nat) (bd : Int32) (nb : Nat) (fl : Int32) (AI : Nat → Nat → Int32) (AN : Nat → Nat → Nat) (AB : Nat → Nat → Bool) (AL : Nat → Nat → Int64) (L : List Nat) (f : Nat → va_E) (fd w0 : Int32) (hCS : CS cs o (th, yr, nf, no, nt, bd, nb, fl, AI, AN, AB, AL) L f) : Met l y_FB_about w_FB_about { frames := 2, cells := 0, slots := 0, locals := 46 } (rd_P (dC, dI) classes (ctys cs) (va_pl L f) [.ref o, .int fd, .int w0]) (vp_Sl (fun r => r = (m_about (th, yr, nf, no, nt, bd, nb, fl, AI, AN, AB, AL) fd w0).1)) 0 0 (fun _ => False) := by
  obtain ⟨n, ad, e0, bl, rx, rfl, hC, hR, hM, hB, hZ⟩ := hCS
  obtain ⟨⟨n0, n1, n2, n3, n4, n5⟩, e00, e01, e02, e03, e04, e05, e06, e1, e2, e3, e4, e5, e6⟩ := id hR
  obtain ⟨hnf, hno, hnt, hnb, hfu, hft, hbf, hrw, hce, hdn⟩ := id hM
  have hm00 : ad 0 0 ∈ L := (hC.1 0 0 (by rw [n0]; decide)).1
  have he00 : f (ad 0 0) = .inr (0, [.ref (ad 0 1), .ref (ad 0 2), .ref (ad 0 3), .ref (ad 0 4), .ref (ad 0 5), .int (nI nf), .int (nI no), .int (nI nt), .int yr, .int bd, .int fl]) := (hC.1 0 0 (by rw [n0]; decide)).2.trans e00
  have hm01 : ad 0 1 ∈ L := (hC.1 0 1 (by rw [n0]; decide)).1
  have he01 : f (ad 0 1) = .inl ((cs 0), 30, .inr (.inr (.inr (.inr (fun i => if i < nf then some (ad 1 i) else none))))) := (hC.1 0 1 (by rw [n0]; decide)).2.trans e01
  have hm02 : ad 0 2 ∈ L := (hC.1 0 2 (by rw [n0]; decide)).1
  have he02 : f (ad 0 2) = .inl ((cs 1), 300, .inr (.inr (.inr (.inr (fun i => if i < no then some (ad 2 i) else none))))) := (hC.1 0 2 (by rw [n0]; decide)).2.trans e02
  have hm03 : ad 0 3 ∈ L := (hC.1 0 3 (by rw [n0]; decide)).1
  have he03 : f (ad 0 3) = .inl ((cs 2), 100, .inr (.inr (.inr (.inr (fun i => if i < nt then some (ad 4 i) else none))))) := (hC.1 0 3 (by rw [n0]; decide)).2.trans e03
  have hm04 : ad 0 4 ∈ L := (hC.1 0 4 (by rw [n0]; decide)).1
  have he04 : f (ad 0 4) = .inl ((cs 3), 10, .inr (.inr (.inr (.inr (fun c => if AN 18 c = 0 then none else some (ad 6 (rx c (AN 18 c - 1)))))))) := (hC.1 0 4 (by rw [n0]; decide)).2.trans e04
  have hm05 : ad 0 5 ∈ L := (hC.1 0 5 (by rw [n0]; decide)).1
  have he05 : f (ad 0 5) = .inr (6, [.ref (ad 0 6), .int (nI nb), .long (m_tot AI nb)]) := (hC.1 0 5 (by rw [n0]; decide)).2.trans e05
  have hm06 : ad 0 6 ∈ L := (hC.1 0 6 (by rw [n0]; decide)).1
  have he06 : f (ad 0 6) = .inl ((cs 4), 20, .inr (.inr (.inr (.inr (fun r => if r < nb then some (ad 1 (AN 22 r)) else none))))) := (hC.1 0 6 (by rw [n0]; decide)).2.trans e06
  refine Met.ofW (cc := b_FB_about) (maxL := 4) (ret := (some .long)) (by decide) rfl ?_
  intro p e s m args below meth c s₁ B hml hv
  obtain ⟨rfl, hP, hK, hN⟩ := hv
  have hx := B.exec
  have hb := B.bytes
  have hr := B.returns
  have hts := atoms_spec (ws := w_FB_about) B.pre
  have hG := fun (w : Cond) (h : w ∈ wG) => hts w (List.mem_cons_of_mem _ h)
  have hown : s.vm.findClass R_FB = some m.cls := findClass_of_methodNamed B.named
  have hlocks := B.notSynchronized
  have hl := lv_entry ([.ref (ad 0 0), .int fd, .int w0]) (n := 4) (Nat.le_of_ble_eq_true rfl)
  rw [lg_entry_eq]
  generalize (lg_sl ([.ref (ad 0 0), .int fd, .int w0]) ++ List.replicate (4 - (lg_sl ([.ref (ad 0 0), .int fd, .int w0])).length) Slot.unset).toArray = ls at hl ⊢
  have hl : lv_has ls 4 [(0, .ref (ad 0 0)), (1, .int fd), (2, .int w0)] := hl
  refine lv_aload_n hx hb d_FB_about_0 rfl (lv_at hl 0 rfl) ?_
  refine lv_iload_n hx hb d_FB_about_1 rfl (lv_at hl 1 rfl) ?_
  refine rd_callq (va_runV (As := [.int fd]) (rest := []) ⟨hx, hb, hml, hown, hts⟩ (c_FB_accountAt l dC dI (ctys cs) L f (ad 0 0) (ad 0 1) (nI nf) (nI no) (nI nt) yr bd fl (ad 0 2) (ad 0 3) (ad 0 4) (ad 0 5) (cs 0) (fun i => if i < nf then some (ad 1 i) else none) fd hm00 he00 hm01 he01 rfl) (cwV 1 hts (gd_V k_145 k_147 k_0 k_14 k_148) rfl rfl rfl (by decide +kernel) ⟨Nat.le_of_ble_eq_true rfl, Nat.le_of_ble_eq_true rfl⟩) (fw_preV hK hN hP rfl hm00 he00) rfl rfl hl.1 rfl (lv_room (Nat.le_of_ble_eq_true rfl)) d_FB_about_2 ⟨Nat.zero_le _, Nat.zero_le _⟩) (fun r_1 hr_1 => ?_)
  rcases at_cases hnf (by decide) hr_1 with ⟨hq_fd, rfl⟩ | ⟨j, hj, rfl, rfl⟩
  · refine W.eq (g2 := F0 m 5 ls [.null]) rfl ?_
    refine lv_astore_nN (lv' := [(3, .null), (0, .ref (ad 0 0)), (1, .int fd), (2, .int w0)]) hx hb d_FB_about_5 rfl hl (by decide) rfl (fun ls hl => ?_)
    refine lv_aload_nN hx hb d_FB_about_6 rfl (lv_at hl 0 rfl) ?_
    refine lv_ifnonnullN hx hb d_FB_about_7 ?_
    refine lv_ldc2 (own := R_FB) (v := (-1000000000000000001)) hx hb hown (hG _ k_418) d_FB_about_10 ?_
    exact W.lret (v := (-1000000000000000001)) hx hb hr (fun t ht hW => ⟨_, rfl, (by simp [m_about, m_free, ixn, bI, hq_fd] <;> (repeat' apply And.intro) <;> rfl), ht⟩) (fun q h => by cases h) d_FB_about_13
  · have ej : (nI j).toNatClampNeg = j := nI_clamp (by omega)
    have hi_j : inN (nI j) nf = true := inN_yes (by omega) hj
    refine W.eq (g2 := F0 m 5 ls [.ref (ad 1 j)]) rfl ?_
    have hm_y_2 : ad 1 j ∈ L := (hC.1 1 j (by rw [n1]; exact hj)).1
    have he_y_2 : f (ad 1 j) = .inr (1, [.int (nI j), .int (AI 1 j), .long (AL 2 j), .long (m_enc AI AN no (nI j)), .long (AL 3 j), .long (m_bat AI AN nb (nI j))]) := (hC.1 1 j (by rw [n1]; exact hj)).2.trans (e1 j hj)
    refine lv_astore_n (lv' := [(3, .ref (ad 1 j)), (0, .ref (ad 0 0)), (1, .int (nI j)), (2, .int w0)]) hx hb d_FB_about_5 rfl hl (by decide) rfl (fun ls hl => ?_)
    refine lv_aload_n hx hb d_FB_about_6 rfl (lv_at hl 0 rfl) ?_
    refine lv_ifnonnull (tgt := 14) hx hb d_FB_about_7 (by decide) ?_
    refine lv_iload_n hx hb d_FB_about_14 rfl (lv_at hl 3 rfl) ?_
    by_cases s_3 : w0 = 0
    · refine lv_tableIn (off := 29) (tgt := 44) hx hb d_FB_about_15 (by rw [s_3]; decide) (by rw [s_3]; decide) (by rw [s_3]; decide) (by decide) ?_
      refine lv_aload_n hx hb d_FB_about_44 rfl (lv_at hl 0 rfl) ?_
      refine fw_getN (D := (dC, dI)) (ci := 1) (v := .long (AL 2 j)) (C := R_Ac) (T := F_Ac) (N := 6) hx hb hG iG_Ac hown hK hP hm_y_2 he_y_2 rfl 2 (by decide) (hN.use k_118) (fun _ h9 => h9) rfl d_FB_about_45 ?_
      exact W.lret (v := (AL 2 j)) hx hb hr (fun t ht hW => ⟨_, rfl, (by simp [m_about, m_free, ixn, bI, ej, hi_j, s_3] <;> (repeat' apply And.intro) <;> rfl), ht⟩) (fun q h => by cases h) d_FB_about_48
    · by_cases s_4 : w0 = 1
      · refine lv_tableIn (off := 34) (tgt := 49) hx hb d_FB_about_15 (by rw [s_4]; decide) (by rw [s_4]; decide) (by rw [s_4]; decide) (by decide) ?_
        refine lv_aload_n hx hb d_FB_about_49 rfl (lv_at hl 0 rfl) ?_
        refine fw_getN (D := (dC, dI)) (ci := 1) (v := .long (m_enc AI AN no (nI j))) (C := R_Ac) (T := F_Ac) (N := 6) hx hb hG iG_Ac hown hK hP hm_y_2 he_y_2 rfl 3 (by decide) (hN.use k_123) (fun _ h9 => h9) rfl d_FB_about_50 ?_
        exact W.lret (v := (m_enc AI AN no (nI j))) hx hb hr (fun t ht hW => ⟨_, rfl, (by simp [m_about, m_free, ixn, bI, ej, hi_j, s_3, s_4] <;> (repeat' apply And.intro) <;> rfl), ht⟩) (fun q h => by cases h) d_FB_about_53
      · by_cases s_5 : w0 = 2
        · refine lv_tableIn (off := 39) (tgt := 54) hx hb d_FB_about_15 (by rw [s_5]; decide) (by rw [s_5]; decide) (by rw [s_5]; decide) (by decide) ?_
          refine lv_aload_n hx hb d_FB_about_54 rfl (lv_at hl 0 rfl) ?_
          refine fw_getN (D := (dC, dI)) (ci := 1) (v := .long (AL 3 j)) (C := R_Ac) (T := F_Ac) (N := 6) hx hb hG iG_Ac hown hK hP hm_y_2 he_y_2 rfl 4 (by decide) (hN.use k_126) (fun _ h9 => h9) rfl d_FB_about_55 ?_
          exact W.lret (v := (AL 3 j)) hx hb hr (fun t ht hW => ⟨_, rfl, (by simp [m_about, m_free, ixn, bI, ej, hi_j, s_3, s_4, s_5] <;> (repeat' apply And.intro) <;> rfl), ht⟩) (fun q h => by cases h) d_FB_about_58
        · by_cases s_6 : w0 = 3
          · refine lv_tableIn (off := 44) (tgt := 59) hx hb d_FB_about_15 (by rw [s_6]; decide) (by rw [s_6]; decide) (by rw [s_6]; decide) (by decide) ?_
            refine lv_aload_n hx hb d_FB_about_59 rfl (lv_at hl 0 rfl) ?_
            refine rd_calll (va_runV (As := []) (rest := []) ⟨hx, hb, hml, hown, hts⟩ (c_Ac_free l dC dI (ctys cs) L f (ad 1 j) (nI j) (AI 1 j) (AL 2 j) (m_enc AI AN no (nI j)) (AL 3 j) (m_bat AI AN nb (nI j)) hm_y_2 he_y_2) (cwV 0 hts (gd_V k_222 k_160 k_161 k_18 k_162) rfl rfl rfl (by decide +kernel) ⟨Nat.le_of_ble_eq_true rfl, Nat.le_of_ble_eq_true rfl⟩) (fw_preV hK hN hP rfl hm_y_2 he_y_2) rfl rfl hl.1 rfl (lv_room (Nat.le_of_ble_eq_true rfl)) d_FB_about_60 ⟨Nat.zero_le _, Nat.zero_le _⟩) (fun r_7 hr_7 => ?_)
            subst hr_7
            exact W.lret (v := ((AL 2 j) - (m_enc AI AN no (nI j)) - (AL 3 j))) hx hb hr (fun t ht hW => ⟨_, rfl, (by simp [m_about, m_free, ixn, bI, ej, hi_j, s_3, s_4, s_5, s_6] <;> (repeat' apply And.intro) <;> rfl), ht⟩) (fun q h => by cases h) d_FB_about_63
          · refine lv_tableOut (tgt := 64) hx hb d_FB_about_15 (by have h9 := And.intro trivial trivial; have := lv_neT s_3 (show (0 : Int32).toInt = 0 by decide); have := lv_neT s_4 (show (1 : Int32).toInt = 1 by decide); have := lv_neT s_5 (show (2 : Int32).toInt = 2 by decide); have := lv_neT s_6 (show (3 : Int32).toInt = 3 by decide); omega) (by decide) ?_
            refine lv_ldc2 (own := R_FB) (v := (-1000000000000000001)) hx hb hown (hG _ k_418) d_FB_about_64 ?_
            exact W.lret (v := (-1000000000000000001)) hx hb hr (fun t ht hW => ⟨_, rfl, (by simp [m_about, m_free, ixn, bI, ej, hi_j, s_3, s_4, s_5, s_6] <;> (repeat' apply And.intro) <;> rfl), ht⟩) (fun q h => by cases h) d_FB_about_67

theorem d_FB_told_0 : decode b_FB_told 0 = .ok (.aload_n 0, 1) := by decide +kernel
theorem d_FB_told_1 : decode b_FB_told 1 = .ok (.iload_n 1, 1) := by decide +kernel
theorem d_FB_told_2 : decode b_FB_told 2 = .ok (.invokevirtual 99, 3) := by decide +kernel
theorem d_FB_told_5 : decode b_FB_told 5 = .ok (.astore_n 3, 1) := by decide +kernel
theorem d_FB_told_6 : decode b_FB_told 6 = .ok (.aload_n 3, 1) := by decide +kernel
theorem d_FB_told_7 : decode b_FB_told 7 = .ok (.ifnonnull 7, 3) := by decide +kernel
theorem d_FB_told_10 : decode b_FB_told 10 = .ok (.ldc2_w 243, 3) := by decide +kernel
theorem d_FB_told_13 : decode b_FB_told 13 = .ok (.lreturn, 1) := by decide +kernel
theorem d_FB_told_14 : decode b_FB_told 14 = .ok (.iload_n 2, 1) := by decide +kernel
theorem d_FB_told_15 : decode b_FB_told 15 = .ok (.tableswitch 78 0 5 #[37, 46, 52, 58, 67, 72], 37) := by decide +kernel
theorem d_FB_told_52 : decode b_FB_told 52 = .ok (.aload_n 3, 1) := by decide +kernel
theorem d_FB_told_53 : decode b_FB_told 53 = .ok (.getfield 168, 3) := by decide +kernel
theorem d_FB_told_56 : decode b_FB_told 56 = .ok (.getfield 230, 3) := by decide +kernel
theorem d_FB_told_59 : decode b_FB_told 59 = .ok (.i2l, 1) := by decide +kernel
theorem d_FB_told_60 : decode b_FB_told 60 = .ok (.lreturn, 1) := by decide +kernel
theorem d_FB_told_61 : decode b_FB_told 61 = .ok (.aload_n 3, 1) := by decide +kernel
theorem d_FB_told_62 : decode b_FB_told 62 = .ok (.getfield 165, 3) := by decide +kernel
theorem d_FB_told_65 : decode b_FB_told 65 = .ok (.i2l, 1) := by decide +kernel
theorem d_FB_told_66 : decode b_FB_told 66 = .ok (.lreturn, 1) := by decide +kernel
theorem d_FB_told_67 : decode b_FB_told 67 = .ok (.aload_n 3, 1) := by decide +kernel
theorem d_FB_told_68 : decode b_FB_told 68 = .ok (.getfield 105, 3) := by decide +kernel
theorem d_FB_told_71 : decode b_FB_told 71 = .ok (.i2l, 1) := by decide +kernel
theorem d_FB_told_72 : decode b_FB_told 72 = .ok (.lreturn, 1) := by decide +kernel
theorem d_FB_told_73 : decode b_FB_told 73 = .ok (.aload_n 3, 1) := by decide +kernel
theorem d_FB_told_74 : decode b_FB_told 74 = .ok (.getfield 108, 3) := by decide +kernel
theorem d_FB_told_77 : decode b_FB_told 77 = .ok (.getfield 122, 3) := by decide +kernel
theorem d_FB_told_80 : decode b_FB_told 80 = .ok (.i2l, 1) := by decide +kernel
theorem d_FB_told_81 : decode b_FB_told 81 = .ok (.lreturn, 1) := by decide +kernel
theorem d_FB_told_82 : decode b_FB_told 82 = .ok (.aload_n 3, 1) := by decide +kernel
theorem d_FB_told_83 : decode b_FB_told 83 = .ok (.getfield 248, 3) := by decide +kernel
theorem d_FB_told_86 : decode b_FB_told 86 = .ok (.lreturn, 1) := by decide +kernel
theorem d_FB_told_87 : decode b_FB_told 87 = .ok (.aload_n 3, 1) := by decide +kernel
theorem d_FB_told_88 : decode b_FB_told 88 = .ok (.getfield 251, 3) := by decide +kernel
theorem d_FB_told_91 : decode b_FB_told 91 = .ok (.i2l, 1) := by decide +kernel
theorem d_FB_told_92 : decode b_FB_told 92 = .ok (.lreturn, 1) := by decide +kernel
theorem d_FB_told_93 : decode b_FB_told 93 = .ok (.ldc2_w 243, 3) := by decide +kernel
theorem d_FB_told_96 : decode b_FB_told 96 = .ok (.lreturn, 1) := by decide +kernel
set_option maxHeartbeats 4000000 in
set_option maxRecDepth 100000 in
theorem c_FB_told (l : Launch) (dC : Nat → ClassId) (dI : Nat → Nat → Nat) (cs : Nat → ClassId) (o : Nat) (th yr : Int32) (nf no nt : Nat) (bd : Int32) (nb : Nat) (fl : Int32) (AI : Nat → Nat → Int32) (AN : Nat → Nat → Nat) (AB : Nat → Nat → Bool) (AL : Nat → Nat → Int64) (L : List Nat) (f : Nat → va_E) (i0 w0 : Int32) (hCS : CS cs o (th, yr, nf, no, nt, bd, nb, fl, AI, AN, AB, AL) L f) : Met l y_FB_told w_FB_told { frames := 2, cells := 0, slots := 0, locals := 46 } (rd_P (dC, dI) classes (ctys cs) (va_pl L f) [.ref o, .int i0, .int w0]) (vp_Sl (fun r => r = (m_told (th, yr, nf, no, nt, bd, nb, fl, AI, AN, AB, AL) i0 w0).1)) 0 0 (fun _ => False) := by
  obtain ⟨n, ad, e0, bl, rx, rfl, hC, hR, hM, hB, hZ⟩ := hCS
  obtain ⟨⟨n0, n1, n2, n3, n4, n5⟩, e00, e01, e02, e03, e04, e05, e06, e1, e2, e3, e4, e5, e6⟩ := id hR
  obtain ⟨hnf, hno, hnt, hnb, hfu, hft, hbf, hrw, hce, hdn⟩ := id hM
  have hm00 : ad 0 0 ∈ L := (hC.1 0 0 (by rw [n0]; decide)).1
  have he00 : f (ad 0 0) = .inr (0, [.ref (ad 0 1), .ref (ad 0 2), .ref (ad 0 3), .ref (ad 0 4), .ref (ad 0 5), .int (nI nf), .int (nI no), .int (nI nt), .int yr, .int bd, .int fl]) := (hC.1 0 0 (by rw [n0]; decide)).2.trans e00
  have hm01 : ad 0 1 ∈ L := (hC.1 0 1 (by rw [n0]; decide)).1
  have he01 : f (ad 0 1) = .inl ((cs 0), 30, .inr (.inr (.inr (.inr (fun i => if i < nf then some (ad 1 i) else none))))) := (hC.1 0 1 (by rw [n0]; decide)).2.trans e01
  have hm02 : ad 0 2 ∈ L := (hC.1 0 2 (by rw [n0]; decide)).1
  have he02 : f (ad 0 2) = .inl ((cs 1), 300, .inr (.inr (.inr (.inr (fun i => if i < no then some (ad 2 i) else none))))) := (hC.1 0 2 (by rw [n0]; decide)).2.trans e02
  have hm03 : ad 0 3 ∈ L := (hC.1 0 3 (by rw [n0]; decide)).1
  have he03 : f (ad 0 3) = .inl ((cs 2), 100, .inr (.inr (.inr (.inr (fun i => if i < nt then some (ad 4 i) else none))))) := (hC.1 0 3 (by rw [n0]; decide)).2.trans e03
  have hm04 : ad 0 4 ∈ L := (hC.1 0 4 (by rw [n0]; decide)).1
  have he04 : f (ad 0 4) = .inl ((cs 3), 10, .inr (.inr (.inr (.inr (fun c => if AN 18 c = 0 then none else some (ad 6 (rx c (AN 18 c - 1)))))))) := (hC.1 0 4 (by rw [n0]; decide)).2.trans e04
  have hm05 : ad 0 5 ∈ L := (hC.1 0 5 (by rw [n0]; decide)).1
  have he05 : f (ad 0 5) = .inr (6, [.ref (ad 0 6), .int (nI nb), .long (m_tot AI nb)]) := (hC.1 0 5 (by rw [n0]; decide)).2.trans e05
  have hm06 : ad 0 6 ∈ L := (hC.1 0 6 (by rw [n0]; decide)).1
  have he06 : f (ad 0 6) = .inl ((cs 4), 20, .inr (.inr (.inr (.inr (fun r => if r < nb then some (ad 1 (AN 22 r)) else none))))) := (hC.1 0 6 (by rw [n0]; decide)).2.trans e06
  refine Met.ofW (cc := b_FB_told) (maxL := 4) (ret := (some .long)) (by decide) rfl ?_
  intro p e s m args below meth c s₁ B hml hv
  obtain ⟨rfl, hP, hK, hN⟩ := hv
  have hx := B.exec
  have hb := B.bytes
  have hr := B.returns
  have hts := atoms_spec (ws := w_FB_told) B.pre
  have hG := fun (w : Cond) (h : w ∈ wG) => hts w (List.mem_cons_of_mem _ h)
  have hown : s.vm.findClass R_FB = some m.cls := findClass_of_methodNamed B.named
  have hlocks := B.notSynchronized
  have hl := lv_entry ([.ref (ad 0 0), .int i0, .int w0]) (n := 4) (Nat.le_of_ble_eq_true rfl)
  rw [lg_entry_eq]
  generalize (lg_sl ([.ref (ad 0 0), .int i0, .int w0]) ++ List.replicate (4 - (lg_sl ([.ref (ad 0 0), .int i0, .int w0])).length) Slot.unset).toArray = ls at hl ⊢
  have hl : lv_has ls 4 [(0, .ref (ad 0 0)), (1, .int i0), (2, .int w0)] := hl
  refine lv_aload_n hx hb d_FB_told_0 rfl (lv_at hl 0 rfl) ?_
  refine lv_iload_n hx hb d_FB_told_1 rfl (lv_at hl 1 rfl) ?_
  refine rd_callq (va_runV (As := [.int i0]) (rest := []) ⟨hx, hb, hml, hown, hts⟩ (c_FB_purchaseAt l dC dI (ctys cs) L f (ad 0 0) (ad 0 2) (nI nf) (nI no) (nI nt) yr bd fl (ad 0 1) (ad 0 3) (ad 0 4) (ad 0 5) (cs 1) (fun i => if i < no then some (ad 2 i) else none) i0 hm00 he00 hm02 he02 rfl) (cwV 1 hts (gd_V k_231 k_233 k_1 k_14 k_234) rfl rfl rfl (by decide +kernel) ⟨Nat.le_of_ble_eq_true rfl, Nat.le_of_ble_eq_true rfl⟩) (fw_preV hK hN hP rfl hm00 he00) rfl rfl hl.1 rfl (lv_room (Nat.le_of_ble_eq_true rfl)) d_FB_told_2 ⟨Nat.zero_le _, Nat.zero_le _⟩) (fun r_1 hr_1 => ?_)
  rcases at_cases hno (by decide) hr_1 with ⟨hq_i0, rfl⟩ | ⟨j, hj, rfl, rfl⟩
  · refine W.eq (g2 := F0 m 5 ls [.null]) rfl ?_
    refine lv_astore_nN (lv' := [(3, .null), (0, .ref (ad 0 0)), (1, .int i0), (2, .int w0)]) hx hb d_FB_told_5 rfl hl (by decide) rfl (fun ls hl => ?_)
    refine lv_aload_nN hx hb d_FB_told_6 rfl (lv_at hl 0 rfl) ?_
    refine lv_ifnonnullN hx hb d_FB_told_7 ?_
    refine lv_ldc2 (own := R_FB) (v := (-1000000000000000001)) hx hb hown (hG _ k_418) d_FB_told_10 ?_
    exact W.lret (v := (-1000000000000000001)) hx hb hr (fun t ht hW => ⟨_, rfl, (by simp [m_told, ixn, bI, hq_i0] <;> (repeat' apply And.intro) <;> rfl), ht⟩) (fun q h => by cases h) d_FB_told_13
  · have ej : (nI j).toNatClampNeg = j := nI_clamp (by omega)
    have hi_j : inN (nI j) no = true := inN_yes (by omega) hj
    refine W.eq (g2 := F0 m 5 ls [.ref (ad 2 j)]) rfl ?_
    have hm_y_2 : ad 2 j ∈ L := (hC.1 2 j (by rw [n2]; exact hj)).1
    have he_y_2 : f (ad 2 j) = .inr (2, [.ref (ad 1 (AN 4 j)), .int (AI 5 j), .int (bI (AB 6 j)), .ref (ad 3 j), .int (AI 7 j), .int (AI 11 j), .int (AI 12 j), .long (AL 10 j)]) := (hC.1 2 j (by rw [n2]; exact hj)).2.trans (e2 j hj)
    have hm_y_3 : ad 3 j ∈ L := (hC.1 3 j (by rw [n3]; exact hj)).1
    have he_y_3 : f (ad 3 j) = .inr (4, [.long (bl 0 j), .long (bl 1 j), .int (AI 9 j)]) := (hC.1 3 j (by rw [n3]; exact hj)).2.trans (e3 j hj)
    have hm_y_4 : ad 1 (AN 4 j) ∈ L := (hC.1 1 (AN 4 j) (by rw [n1]; exact (hfu j hj))).1
    have he_y_4 : f (ad 1 (AN 4 j)) = .inr (1, [.int (nI (AN 4 j)), .int (AI 1 (AN 4 j)), .long (AL 2 (AN 4 j)), .long (m_enc AI AN no (nI (AN 4 j))), .long (AL 3 (AN 4 j)), .long (m_bat AI AN nb (nI (AN 4 j)))]) := (hC.1 1 (AN 4 j) (by rw [n1]; exact (hfu j hj))).2.trans (e1 (AN 4 j) (hfu j hj))
    refine lv_astore_n (lv' := [(3, .ref (ad 2 j)), (0, .ref (ad 0 0)), (1, .int (nI j)), (2, .int w0)]) hx hb d_FB_told_5 rfl hl (by decide) rfl (fun ls hl => ?_)
    refine lv_aload_n hx hb d_FB_told_6 rfl (lv_at hl 0 rfl) ?_
    refine lv_ifnonnull (tgt := 14) hx hb d_FB_told_7 (by decide) ?_
    refine lv_iload_n hx hb d_FB_told_14 rfl (lv_at hl 3 rfl) ?_
    by_cases s_5 : w0 = 0
    · refine lv_tableIn (off := 37) (tgt := 52) hx hb d_FB_told_15 (by rw [s_5]; decide) (by rw [s_5]; decide) (by rw [s_5]; decide) (by decide) ?_
      refine lv_aload_n hx hb d_FB_told_52 rfl (lv_at hl 0 rfl) ?_
      refine fw_getN (D := (dC, dI)) (ci := 2) (v := .ref (ad 1 (AN 4 j))) (C := R_Pu) (T := F_Pu) (N := 8) hx hb hG iG_Pu hown hK hP hm_y_2 he_y_2 rfl 0 (by decide) (hN.use k_192) (fun _ h9 => h9) rfl d_FB_told_53 ?_
      refine fw_getN (D := (dC, dI)) (ci := 1) (v := .int (nI (AN 4 j))) (C := R_Ac) (T := F_Ac) (N := 6) hx hb hG iG_Ac hown hK hP hm_y_4 he_y_4 rfl 0 (by decide) (hN.use k_115) (fun _ h9 => h9) rfl d_FB_told_56 ?_
      refine lv_i2l hx hb d_FB_told_59 rfl ?_
      exact W.lret (v := ((nI (AN 4 j)).toInt64)) hx hb hr (fun t ht hW => ⟨_, rfl, (by simp [m_told, ixn, bI, ej, hi_j, s_5] <;> (repeat' apply And.intro) <;> rfl), ht⟩) (fun q h => by cases h) d_FB_told_60
    · by_cases s_6 : w0 = 1
      · refine lv_tableIn (off := 46) (tgt := 61) hx hb d_FB_told_15 (by rw [s_6]; decide) (by rw [s_6]; decide) (by rw [s_6]; decide) (by decide) ?_
        refine lv_aload_n hx hb d_FB_told_61 rfl (lv_at hl 0 rfl) ?_
        refine fw_getN (D := (dC, dI)) (ci := 2) (v := .int (AI 5 j)) (C := R_Pu) (T := F_Pu) (N := 8) hx hb hG iG_Pu hown hK hP hm_y_2 he_y_2 rfl 1 (by decide) (hN.use k_194) (fun _ h9 => h9) rfl d_FB_told_62 ?_
        refine lv_i2l hx hb d_FB_told_65 rfl ?_
        exact W.lret (v := ((AI 5 j).toInt64)) hx hb hr (fun t ht hW => ⟨_, rfl, (by simp [m_told, ixn, bI, ej, hi_j, s_5, s_6] <;> (repeat' apply And.intro) <;> rfl), ht⟩) (fun q h => by cases h) d_FB_told_66
      · by_cases s_7 : w0 = 2
        · refine lv_tableIn (off := 52) (tgt := 67) hx hb d_FB_told_15 (by rw [s_7]; decide) (by rw [s_7]; decide) (by rw [s_7]; decide) (by decide) ?_
          refine lv_aload_n hx hb d_FB_told_67 rfl (lv_at hl 0 rfl) ?_
          refine fw_getN (D := (dC, dI)) (ci := 2) (v := .int (AI 7 j)) (C := R_Pu) (T := F_Pu) (N := 8) hx hb hG iG_Pu hown hK hP hm_y_2 he_y_2 rfl 4 (by decide) (hN.use k_199) (fun _ h9 => h9) rfl d_FB_told_68 ?_
          refine lv_i2l hx hb d_FB_told_71 rfl ?_
          exact W.lret (v := ((AI 7 j).toInt64)) hx hb hr (fun t ht hW => ⟨_, rfl, (by simp [m_told, ixn, bI, ej, hi_j, s_5, s_6, s_7] <;> (repeat' apply And.intro) <;> rfl), ht⟩) (fun q h => by cases h) d_FB_told_72
        · by_cases s_8 : w0 = 3
          · refine lv_tableIn (off := 58) (tgt := 73) hx hb d_FB_told_15 (by rw [s_8]; decide) (by rw [s_8]; decide) (by rw [s_8]; decide) (by decide) ?_
            refine lv_aload_n hx hb d_FB_told_73 rfl (lv_at hl 0 rfl) ?_
            refine fw_getN (D := (dC, dI)) (ci := 2) (v := .ref (ad 3 j)) (C := R_Pu) (T := F_Pu) (N := 8) hx hb hG iG_Pu hown hK hP hm_y_2 he_y_2 rfl 3 (by decide) (hN.use k_197) (fun _ h9 => h9) rfl d_FB_told_74 ?_
            refine fw_getN (D := (dC, dI)) (ci := 4) (v := .int (AI 9 j)) (C := R_Ap) (T := F_Ap) (N := 3) hx hb hG iG_Ap hown hK hP hm_y_3 he_y_3 rfl 2 (by decide) (hN.use k_183) (fun _ h9 => h9) rfl d_FB_told_77 ?_
            refine lv_i2l hx hb d_FB_told_80 rfl ?_
            exact W.lret (v := ((AI 9 j).toInt64)) hx hb hr (fun t ht hW => ⟨_, rfl, (by simp [m_told, ixn, bI, ej, hi_j, s_5, s_6, s_7, s_8] <;> (repeat' apply And.intro) <;> rfl), ht⟩) (fun q h => by cases h) d_FB_told_81
          · by_cases s_9 : w0 = 4
            · refine lv_tableIn (off := 67) (tgt := 82) hx hb d_FB_told_15 (by rw [s_9]; decide) (by rw [s_9]; decide) (by rw [s_9]; decide) (by decide) ?_
              refine lv_aload_n hx hb d_FB_told_82 rfl (lv_at hl 0 rfl) ?_
              refine fw_getN (D := (dC, dI)) (ci := 2) (v := .long (AL 10 j)) (C := R_Pu) (T := F_Pu) (N := 8) hx hb hG iG_Pu hown hK hP hm_y_2 he_y_2 rfl 7 (by decide) (hN.use k_204) (fun _ h9 => h9) rfl d_FB_told_83 ?_
              exact W.lret (v := (AL 10 j)) hx hb hr (fun t ht hW => ⟨_, rfl, (by simp [m_told, ixn, bI, ej, hi_j, s_5, s_6, s_7, s_8, s_9] <;> (repeat' apply And.intro) <;> rfl), ht⟩) (fun q h => by cases h) d_FB_told_86
            · by_cases s_10 : w0 = 5
              · refine lv_tableIn (off := 72) (tgt := 87) hx hb d_FB_told_15 (by rw [s_10]; decide) (by rw [s_10]; decide) (by rw [s_10]; decide) (by decide) ?_
                refine lv_aload_n hx hb d_FB_told_87 rfl (lv_at hl 0 rfl) ?_
                refine fw_getN (D := (dC, dI)) (ci := 2) (v := .int (AI 11 j)) (C := R_Pu) (T := F_Pu) (N := 8) hx hb hG iG_Pu hown hK hP hm_y_2 he_y_2 rfl 5 (by decide) (hN.use k_201) (fun _ h9 => h9) rfl d_FB_told_88 ?_
                refine lv_i2l hx hb d_FB_told_91 rfl ?_
                exact W.lret (v := ((AI 11 j).toInt64)) hx hb hr (fun t ht hW => ⟨_, rfl, (by simp [m_told, ixn, bI, ej, hi_j, s_5, s_6, s_7, s_8, s_9, s_10] <;> (repeat' apply And.intro) <;> rfl), ht⟩) (fun q h => by cases h) d_FB_told_92
              · refine lv_tableOut (tgt := 93) hx hb d_FB_told_15 (by have h9 := And.intro trivial trivial; have := lv_neT s_5 (show (0 : Int32).toInt = 0 by decide); have := lv_neT s_6 (show (1 : Int32).toInt = 1 by decide); have := lv_neT s_7 (show (2 : Int32).toInt = 2 by decide); have := lv_neT s_8 (show (3 : Int32).toInt = 3 by decide); have := lv_neT s_9 (show (4 : Int32).toInt = 4 by decide); have := lv_neT s_10 (show (5 : Int32).toInt = 5 by decide); omega) (by decide) ?_
                refine lv_ldc2 (own := R_FB) (v := (-1000000000000000001)) hx hb hown (hG _ k_418) d_FB_told_93 ?_
                exact W.lret (v := (-1000000000000000001)) hx hb hr (fun t ht hW => ⟨_, rfl, (by simp [m_told, ixn, bI, ej, hi_j, s_5, s_6, s_7, s_8, s_9, s_10] <;> (repeat' apply And.intro) <;> rfl), ht⟩) (fun q h => by cases h) d_FB_told_96
