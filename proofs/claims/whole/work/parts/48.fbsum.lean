theorem sum_min {g : Nat → Int64} {i n : Nat} (h : i < n) : sumL g (min i n) + g i = sumL g (min (i + 1) n) := by
  rw [show min (i + 1) n = min i n + 1 by omega, show min i n = i by omega]
  rfl

theorem d_FB_givenToAll_0 : decode b_FB_givenToAll 0 = .ok (.lconst 0, 1) := by decide +kernel
theorem d_FB_givenToAll_1 : decode b_FB_givenToAll 1 = .ok (.lstore_n 1, 1) := by decide +kernel
theorem d_FB_givenToAll_2 : decode b_FB_givenToAll 2 = .ok (.aload_n 0, 1) := by decide +kernel
theorem d_FB_givenToAll_3 : decode b_FB_givenToAll 3 = .ok (.getfield 11, 3) := by decide +kernel
theorem d_FB_givenToAll_6 : decode b_FB_givenToAll 6 = .ok (.astore_n 3, 1) := by decide +kernel
theorem d_FB_givenToAll_7 : decode b_FB_givenToAll 7 = .ok (.aload_n 3, 1) := by decide +kernel
theorem d_FB_givenToAll_8 : decode b_FB_givenToAll 8 = .ok (.arraylength, 1) := by decide +kernel
theorem d_FB_givenToAll_9 : decode b_FB_givenToAll 9 = .ok (.istore 4, 2) := by decide +kernel
theorem d_FB_givenToAll_11 : decode b_FB_givenToAll 11 = .ok (.iconst 0, 1) := by decide +kernel
theorem d_FB_givenToAll_12 : decode b_FB_givenToAll 12 = .ok (.istore 5, 2) := by decide +kernel
theorem d_FB_givenToAll_14 : decode b_FB_givenToAll 14 = .ok (.iload 5, 2) := by decide +kernel
theorem d_FB_givenToAll_16 : decode b_FB_givenToAll 16 = .ok (.iload 4, 2) := by decide +kernel
theorem d_FB_givenToAll_18 : decode b_FB_givenToAll 18 = .ok (.if_icmp .ge 28, 3) := by decide +kernel
theorem d_FB_givenToAll_21 : decode b_FB_givenToAll 21 = .ok (.aload_n 3, 1) := by decide +kernel
theorem d_FB_givenToAll_22 : decode b_FB_givenToAll 22 = .ok (.iload 5, 2) := by decide +kernel
theorem d_FB_givenToAll_24 : decode b_FB_givenToAll 24 = .ok (.aaload, 1) := by decide +kernel
theorem d_FB_givenToAll_25 : decode b_FB_givenToAll 25 = .ok (.astore 6, 2) := by decide +kernel
theorem d_FB_givenToAll_27 : decode b_FB_givenToAll 27 = .ok (.aload 6, 2) := by decide +kernel
theorem d_FB_givenToAll_29 : decode b_FB_givenToAll 29 = .ok (.ifnull 11, 3) := by decide +kernel
theorem d_FB_givenToAll_32 : decode b_FB_givenToAll 32 = .ok (.lload_n 1, 1) := by decide +kernel
theorem d_FB_givenToAll_33 : decode b_FB_givenToAll 33 = .ok (.aload 6, 2) := by decide +kernel
theorem d_FB_givenToAll_35 : decode b_FB_givenToAll 35 = .ok (.getfield 80, 3) := by decide +kernel
theorem d_FB_givenToAll_38 : decode b_FB_givenToAll 38 = .ok (.ladd, 1) := by decide +kernel
theorem d_FB_givenToAll_39 : decode b_FB_givenToAll 39 = .ok (.lstore_n 1, 1) := by decide +kernel
theorem d_FB_givenToAll_40 : decode b_FB_givenToAll 40 = .ok (.iinc 5 1, 3) := by decide +kernel
theorem d_FB_givenToAll_43 : decode b_FB_givenToAll 43 = .ok (.goto (-29), 3) := by decide +kernel
theorem d_FB_givenToAll_46 : decode b_FB_givenToAll 46 = .ok (.lload_n 1, 1) := by decide +kernel
theorem d_FB_givenToAll_47 : decode b_FB_givenToAll 47 = .ok (.lreturn, 1) := by decide +kernel
set_option maxHeartbeats 4000000 in
set_option maxRecDepth 100000 in
theorem lp_FB_given {p : Program} {l : Launch} {e : Env} {s : State} {m : MethodId} {args : Array Value} {below : List Frame} {meth : Method} {c : Code} {Q : State → Prop} {H : Heap} {locs : List Loc} {dC : Nat → ClassId} {dI : Nat → Nat → Nat} {cs : Nat → ClassId} {th yr : Int32} {nf no nt : Nat} {bd : Int32} {nb : Nat} {fl : Int32} {AI : Nat → Nat → Int32} {AN : Nat → Nat → Nat} {AB : Nat → Nat → Bool} {AL : Nat → Nat → Int64} {L : List Nat} {f : Nat → va_E} {ad : Nat → Nat → Nat} {rx : Nat → Nat → Nat} (hx : p.tables.exec = Jvm.exec) (hb : c.code = b_FB_givenToAll) (hml : c.maxLocals = 7) (hown : s.vm.findClass R_FB = some m.cls) (hts : ∀ w ∈ w_FB_givenToAll, w.before args s = true) (hK : va_K (dC, dI) classes (ctys cs) s) (hN : NK s) (hP : va_P (dC, dI) classes (va_pl L f) H) (hnf : nf ≤ 30) (hm01 : ad 0 1 ∈ L) (he01 : f (ad 0 1) = .inl ((cs 0), 30, .inr (.inr (.inr (.inr (fun i => if i < nf then some (ad 1 i) else none)))))) (hac : ∀ j, j < nf → ad 1 j ∈ L ∧ f (ad 1 j) = .inr (1, [.int (nI j), .int (AI 1 j), .long (AL 2 j), .long (m_enc AI AN no (nI j)), .long (AL 3 j), .long (m_bat AI AN nb (nI j))]))
    (exit : ∀ ls : Array Slot, lv_has ls 7 [(5, .int (nI 30)), (4, .int (nI 30)), (3, .ref (ad 0 1)), (1, .long (sumL (AL 2) (min 30 nf)))] → W p l e { frames := 0, cells := 0, slots := 0, locals := 0 } s m args below meth c H locs 0 0 Q (F0 m 46 ls [])) :
    ∀ k9 i : Nat, i ≤ 30 → 30 + 1 ≤ i + k9 → ∀ ls : Array Slot, lv_has ls 7 [(5, .int (nI i)), (4, .int (nI 30)), (3, .ref (ad 0 1)), (1, .long (sumL (AL 2) (min i nf)))] → W p l e { frames := 0, cells := 0, slots := 0, locals := 0 } s m args below meth c H locs 0 0 Q (F0 m 14 ls []) := by
  have hG := fun (w : Cond) (h : w ∈ wG) => hts w (List.mem_cons_of_mem _ h)
  intro k9
  induction k9 with
  | zero =>
    intro i h1 h2
    omega
  | succ k9 ih =>
    intro i hi hin ls hl
    refine lv_iload hx hb d_FB_givenToAll_14 (lv_at hl 0 rfl) ?_
    refine lv_iload hx hb d_FB_givenToAll_16 (lv_at hl 1 rfl) ?_
    refine lv_icmp_ge (tgt := 46) hx hb d_FB_givenToAll_18 (by decide) (fun c_1 => ?_) (fun c_1 => ?_)
    · obtain rfl : i = 30 := by have := (nI_leI (by omega) (by omega)).mp c_1; omega
      exact exit ls (lv_sub hl [0, 1, 2, 3] rfl)
    · have hlt : i < 30 := by have h9 := c_1; rw [nI_leI (by omega) (by omega)] at h9; omega
      refine lv_aload_n hx hb d_FB_givenToAll_21 rfl (lv_at hl 2 rfl) ?_
      refine lv_iload hx hb d_FB_givenToAll_22 (lv_at hl 0 rfl) ?_
      refine fw_ald (D := (dC, dI)) (C := "FundBook$Account") (n := 30) (g := (fun i => if i < nf then some (ad 1 i) else none)) hx hb hK hP hm01 0 he01 rfl (vp_in_nI (by omega) (by omega)) d_FB_givenToAll_24 ?_
      rw [nI_clamp (by omega)]
      by_cases hj : i < nf
      · refine W.eq (g2 := F0 m 25 ls [.ref (ad 1 i)]) (congrArg (fun z => F0 m 25 ls [va_rf z]) (if_pos hj)) ?_
        obtain ⟨hm_a, he_a⟩ := hac i hj
        refine lv_astore (lv' := [(6, .ref (ad 1 i)), (5, .int (nI i)), (4, .int (nI 30)), (3, .ref (ad 0 1)), (1, .long (sumL (AL 2) (min i nf)))]) hx hb d_FB_givenToAll_25 hl (by decide) rfl (fun ls hl => ?_)
        refine lv_aload hx hb d_FB_givenToAll_27 (lv_at hl 0 rfl) ?_
        refine lv_ifnull hx hb d_FB_givenToAll_29 ?_
        refine lv_lload_n hx hb d_FB_givenToAll_32 rfl (lv_at hl 4 rfl) ?_
        refine lv_aload hx hb d_FB_givenToAll_33 (lv_at hl 0 rfl) ?_
        refine fw_getN (D := (dC, dI)) (ci := 1) (v := .long (AL 2 i)) (C := R_Ac) (T := F_Ac) (N := 6) hx hb hG iG_Ac hown hK hP hm_a he_a rfl 2 (by decide) (hN.use k_118) (fun _ h9 => h9) rfl d_FB_givenToAll_35 ?_
        refine lv_ladd hx hb d_FB_givenToAll_38 ?_
        refine lv_topL (y := (sumL (AL 2) (min (i + 1) nf))) (sum_min hj) ?_
        refine lv_lstore_n (lv' := [(1, .long (sumL (AL 2) (min (i + 1) nf))), (6, .ref (ad 1 i)), (5, .int (nI i)), (4, .int (nI 30)), (3, .ref (ad 0 1))]) hx hb d_FB_givenToAll_39 rfl hl (by decide) rfl (fun ls hl => ?_)
        refine lv_iinc (v := nI (i + 1)) (lv' := [(5, .int (nI (i + 1))), (1, .long (sumL (AL 2) (min (i + 1) nf))), (6, .ref (ad 1 i)), (4, .int (nI 30)), (3, .ref (ad 0 1))]) hx hb d_FB_givenToAll_40 hl (k := 2) rfl (nI_1 i) (by decide) rfl (fun ls hl => ?_)
        refine lv_goto (tgt := 14) hx hb d_FB_givenToAll_43 (by decide) ?_
        exact ih (i + 1) (by omega) (by omega) ls (lv_sub hl [0, 3, 4, 1] rfl)
      · refine W.eq (g2 := F0 m 25 ls [.null]) (congrArg (fun z => F0 m 25 ls [va_rf z]) (if_neg hj)) ?_
        refine lv_astoreN (lv' := [(6, .null), (5, .int (nI i)), (4, .int (nI 30)), (3, .ref (ad 0 1)), (1, .long (sumL (AL 2) (min i nf)))]) hx hb d_FB_givenToAll_25 hl (by decide) rfl (fun ls hl => ?_)
        refine lv_aloadN hx hb d_FB_givenToAll_27 (lv_at hl 0 rfl) ?_
        refine lv_ifnullN (tgt := 40) hx hb d_FB_givenToAll_29 (by decide) ?_
        refine lv_iinc (v := nI (i + 1)) (lv' := [(5, .int (nI (i + 1))), (6, .null), (4, .int (nI 30)), (3, .ref (ad 0 1)), (1, .long (sumL (AL 2) (min i nf)))]) hx hb d_FB_givenToAll_40 hl (k := 1) rfl (nI_1 i) (by decide) rfl (fun ls hl => ?_)
        refine lv_goto (tgt := 14) hx hb d_FB_givenToAll_43 (by decide) ?_
        exact ih (i + 1) (by omega) (by omega) ls (by rw [show min (i + 1) nf = min i nf by omega]; exact lv_sub hl [0, 2, 3, 4] rfl)
set_option maxHeartbeats 4000000 in
set_option maxRecDepth 100000 in
theorem c_FB_givenToAll (l : Launch) (dC : Nat → ClassId) (dI : Nat → Nat → Nat) (cs : Nat → ClassId) (th yr : Int32) (nf no nt : Nat) (bd : Int32) (nb : Nat) (fl : Int32) (AI : Nat → Nat → Int32) (AN : Nat → Nat → Nat) (AB : Nat → Nat → Bool) (AL : Nat → Nat → Int64) (L : List Nat) (f : Nat → va_E) (n : Nat → Nat) (ad : Nat → Nat → Nat) (e0 : Nat → Nat → va_E) (bl : Nat → Nat → Int64) (rx : Nat → Nat → Nat) (hC : CP n ad e0 L f) (hR : SR n ad e0 cs bl rx yr nf no nt bd nb fl AI AN AB AL) (hM : InvM nf no nt nb AI AN) (hB : InvB no nt AI AB bl) (hZ : InvS nf no nt yr AI AB AL) : Met l y_FB_givenToAll w_FB_givenToAll { frames := 0, cells := 0, slots := 0, locals := 0 } (rd_P (dC, dI) classes (ctys cs) (va_pl L f) [.ref (ad 0 0)]) (vp_Sl (fun r => r = sumL (AL 2) nf)) 0 0 (fun _ => False) := by
  obtain ⟨⟨n0, n1, n2, n3, n4, n5⟩, e00, e01, e02, e03, e04, e05, e06, e1, e2, e3, e4, e5, e6⟩ := id hR
  obtain ⟨hnf, hno, hnt, hnb, hfu, hft, hbf, hrw, hce, hdn⟩ := id hM
  have hm00 : ad 0 0 ∈ L := (hC.1 0 0 (by rw [n0]; decide)).1
  have he00 : f (ad 0 0) = .inr (0, [.ref (ad 0 1), .ref (ad 0 2), .ref (ad 0 3), .ref (ad 0 4), .ref (ad 0 5), .int (nI nf), .int (nI no), .int (nI nt), .int yr, .int bd, .int fl]) := (hC.1 0 0 (by rw [n0]; decide)).2.trans e00
  have hm01 : ad 0 1 ∈ L := (hC.1 0 1 (by rw [n0]; decide)).1
  have he01 : f (ad 0 1) = .inl ((cs 0), 30, .inr (.inr (.inr (.inr (fun i => if i < nf then some (ad 1 i) else none))))) := (hC.1 0 1 (by rw [n0]; decide)).2.trans e01
  have hm02 : ad 0 2 ∈ L := (hC.1 0 2 (by rw [n0]; decide)).1
  have he02 : f (ad 0 2) = .inl ((cs 1), 300, .inr (.inr (.inr (.inr (fun i => if i < no then some (ad 2 i) else none))))) := (hC.1 0 2 (by rw [n0]; decide)).2.trans e02
  have hm03 : ad 0 3 ∈ L := (hC.1 0 3 (by rw [n0]; decide)).1
  have he03 : f (ad 0 3) = .inl ((cs 2), 100, .inr (.inr (.inr (.inr (fun i => if i < nt then some (ad 4 i) else none))))) := (hC.1 0 3 (by rw [n0]; decide)).2.trans e03
  have hm04 : ad 0 4 ∈ L := (hC.1 0 4 (by rw [n0]; decide)).1
  have he04 : f (ad 0 4) = .inl ((cs 3), 10, .inr (.inr (.inr (.inr (fun c => if AN 18 c = 0 then none else some (ad 6 (rx c (AN 18 c - 1)))))))) := (hC.1 0 4 (by rw [n0]; decide)).2.trans e04
  have hm05 : ad 0 5 ∈ L := (hC.1 0 5 (by rw [n0]; decide)).1
  have he05 : f (ad 0 5) = .inr (6, [.ref (ad 0 6), .int (nI nb), .long (m_tot AI nb)]) := (hC.1 0 5 (by rw [n0]; decide)).2.trans e05
  have hm06 : ad 0 6 ∈ L := (hC.1 0 6 (by rw [n0]; decide)).1
  have he06 : f (ad 0 6) = .inl ((cs 4), 20, .inr (.inr (.inr (.inr (fun r => if r < nb then some (ad 1 (AN 22 r)) else none))))) := (hC.1 0 6 (by rw [n0]; decide)).2.trans e06
  refine Met.ofW (cc := b_FB_givenToAll) (maxL := 7) (ret := (some .long)) (by decide) rfl ?_
  intro p e s m args below meth c s₁ B hml hv
  obtain ⟨rfl, hP, hK, hN⟩ := hv
  have hx := B.exec
  have hb := B.bytes
  have hr := B.returns
  have hts := atoms_spec (ws := w_FB_givenToAll) B.pre
  have hG := fun (w : Cond) (h : w ∈ wG) => hts w (List.mem_cons_of_mem _ h)
  have hown : s.vm.findClass R_FB = some m.cls := findClass_of_methodNamed B.named
  have hlocks := B.notSynchronized
  have hl := lv_entry ([.ref (ad 0 0)]) (n := 7) (Nat.le_of_ble_eq_true rfl)
  rw [lg_entry_eq]
  generalize (lg_sl ([.ref (ad 0 0)]) ++ List.replicate (7 - (lg_sl ([.ref (ad 0 0)])).length) Slot.unset).toArray = ls at hl ⊢
  have hl : lv_has ls 7 [(0, .ref (ad 0 0))] := hl
  refine lv_lconst (v := 0) hx hb d_FB_givenToAll_0 (by decide) ?_
  refine lv_lstore_n (lv' := [(1, .long 0), (0, .ref (ad 0 0))]) hx hb d_FB_givenToAll_1 rfl hl (by decide) rfl (fun ls hl => ?_)
  refine lv_aload_n hx hb d_FB_givenToAll_2 rfl (lv_at hl 1 rfl) ?_
  refine fw_get (D := (dC, dI)) (ci := 0) (v := .ref (ad 0 1)) (C := R_FB) (T := F_FB) (N := 11) hx hb hG iG_FB hown hK hP hm00 he00 rfl 0 (by decide) (hG _ k_67) (fun _ h9 => h9) rfl d_FB_givenToAll_3 ?_
  refine lv_astore_n (lv' := [(3, .ref (ad 0 1)), (1, .long 0), (0, .ref (ad 0 0))]) hx hb d_FB_givenToAll_6 rfl hl (by decide) rfl (fun ls hl => ?_)
  refine lv_aload_n hx hb d_FB_givenToAll_7 rfl (lv_at hl 0 rfl) ?_
  refine fw_alen (D := (dC, dI)) (v := nI 30) hx hb hK hP hm01 0 he01 rfl rfl d_FB_givenToAll_8 ?_
  refine lv_istore (lv' := [(4, .int (nI 30)), (3, .ref (ad 0 1)), (1, .long 0), (0, .ref (ad 0 0))]) hx hb d_FB_givenToAll_9 hl (by decide) rfl (fun ls hl => ?_)
  refine lv_iconst (v := 0) hx hb d_FB_givenToAll_11 (by decide) ?_
  refine lv_istore (lv' := [(5, .int 0), (4, .int (nI 30)), (3, .ref (ad 0 1)), (1, .long 0), (0, .ref (ad 0 0))]) hx hb d_FB_givenToAll_12 hl (by decide) rfl (fun ls hl => ?_)
  refine lp_FB_given (th := th) (yr := yr) (nf := nf) (no := no) (nt := nt) (bd := bd) (nb := nb) (fl := fl) (AI := AI) (AN := AN) (AB := AB) (AL := AL) (ad := ad) (rx := rx) hx hb hml hown hts hK hN hP hnf hm01 he01 (fun j hj => ⟨(hC.1 1 j (by rw [n1]; exact hj)).1, (hC.1 1 j (by rw [n1]; exact hj)).2.trans (e1 j hj)⟩) (fun ls hl => ?_) 31 0 (by omega) (by omega) ls ?_
  · rw [show min 30 nf = nf by omega] at hl
    refine lv_lload_n hx hb d_FB_givenToAll_46 rfl (lv_at hl 3 rfl) ?_
    exact W.lret (v := (sumL (AL 2) nf)) hx hb hr (fun t ht hW => ⟨_, rfl, rfl, ht⟩) (fun q h => by cases h) d_FB_givenToAll_47
  · rw [show min 0 nf = 0 by omega]
    exact lv_sub hl [0, 1, 2, 3] rfl

theorem d_FB_sum_0 : decode b_FB_sum 0 = .ok (.iload_n 1, 1) := by decide +kernel
theorem d_FB_sum_1 : decode b_FB_sum 1 = .ok (.tableswitch 54 0 3 #[31, 36, 42, 48], 31) := by decide +kernel
theorem d_FB_sum_32 : decode b_FB_sum 32 = .ok (.aload_n 0, 1) := by decide +kernel
theorem d_FB_sum_33 : decode b_FB_sum 33 = .ok (.invokevirtual 254, 3) := by decide +kernel
theorem d_FB_sum_36 : decode b_FB_sum 36 = .ok (.lreturn, 1) := by decide +kernel
theorem d_FB_sum_37 : decode b_FB_sum 37 = .ok (.aload_n 0, 1) := by decide +kernel
theorem d_FB_sum_38 : decode b_FB_sum 38 = .ok (.getfield 56, 3) := by decide +kernel
theorem d_FB_sum_41 : decode b_FB_sum 41 = .ok (.i2l, 1) := by decide +kernel
theorem d_FB_sum_42 : decode b_FB_sum 42 = .ok (.lreturn, 1) := by decide +kernel
theorem d_FB_sum_43 : decode b_FB_sum 43 = .ok (.aload_n 0, 1) := by decide +kernel
theorem d_FB_sum_44 : decode b_FB_sum 44 = .ok (.getfield 86, 3) := by decide +kernel
theorem d_FB_sum_47 : decode b_FB_sum 47 = .ok (.i2l, 1) := by decide +kernel
theorem d_FB_sum_48 : decode b_FB_sum 48 = .ok (.lreturn, 1) := by decide +kernel
theorem d_FB_sum_49 : decode b_FB_sum 49 = .ok (.aload_n 0, 1) := by decide +kernel
theorem d_FB_sum_50 : decode b_FB_sum 50 = .ok (.getfield 188, 3) := by decide +kernel
theorem d_FB_sum_53 : decode b_FB_sum 53 = .ok (.i2l, 1) := by decide +kernel
theorem d_FB_sum_54 : decode b_FB_sum 54 = .ok (.lreturn, 1) := by decide +kernel
theorem d_FB_sum_55 : decode b_FB_sum 55 = .ok (.ldc2_w 125, 3) := by decide +kernel
theorem d_FB_sum_58 : decode b_FB_sum 58 = .ok (.lreturn, 1) := by decide +kernel
set_option maxHeartbeats 4000000 in
set_option maxRecDepth 100000 in
theorem c_FB_sum (l : Launch) (dC : Nat → ClassId) (dI : Nat → Nat → Nat) (cs : Nat → ClassId) (o : Nat) (th yr : Int32) (nf no nt : Nat) (bd : Int32) (nb : Nat) (fl : Int32) (AI : Nat → Nat → Int32) (AN : Nat → Nat → Nat) (AB : Nat → Nat → Bool) (AL : Nat → Nat → Int64) (L : List Nat) (f : Nat → va_E) (w0 : Int32) (hCS : CS cs o (th, yr, nf, no, nt, bd, nb, fl, AI, AN, AB, AL) L f) : Met l y_FB_sum w_FB_sum { frames := 1, cells := 0, slots := 0, locals := 26 } (rd_P (dC, dI) classes (ctys cs) (va_pl L f) [.ref o, .int w0]) (vp_Sl (fun r => r = (m_sum (th, yr, nf, no, nt, bd, nb, fl, AI, AN, AB, AL) w0).1)) 0 0 (fun _ => False) := by
  obtain ⟨n, ad, e0, bl, rx, rfl, hC, hR, hM, hB, hZ⟩ := hCS
  obtain ⟨⟨n0, n1, n2, n3, n4, n5⟩, e00, e01, e02, e03, e04, e05, e06, e1, e2, e3, e4, e5, e6⟩ := id hR
  obtain ⟨hnf, hno, hnt, hnb, hfu, hft, hbf, hrw, hce, hdn⟩ := id hM
  have hm00 : ad 0 0 ∈ L := (hC.1 0 0 (by rw [n0]; decide)).1
  have he00 : f (ad 0 0) = .inr (0, [.ref (ad 0 1), .ref (ad 0 2), .ref (ad 0 3), .ref (ad 0 4), .ref (ad 0 5), .int (nI nf), .int (nI no), .int (nI nt), .int yr, .int bd, .int fl]) := (hC.1 0 0 (by rw [n0]; decide)).2.trans e00
  have hm01 : ad 0 1 ∈ L := (hC.1 0 1 (by rw [n0]; decide)).1
  have he01 : f (ad 0 1) = .inl ((cs 0), 30, .inr (.inr (.inr (.inr (fun i => if i < nf then some (ad 1 i) else none))))) := (hC.1 0 1 (by rw [n0]; decide)).2.trans e01
  have hm02 : ad 0 2 ∈ L := (hC.1 0 2 (by rw [n0]; decide)).1
  have he02 : f (ad 0 2) = .inl ((cs 1), 300, .inr (.inr (.inr (.inr (fun i => if i < no then some (ad 2 i) else none))))) := (hC.1 0 2 (by rw [n0]; decide)).2.trans e02
  have hm03 : ad 0 3 ∈ L := (hC.1 0 3 (by rw [n0]; decide)).1
  have he03 : f (ad 0 3) = .inl ((cs 2), 100, .inr (.inr (.inr (.inr (fun i => if i < nt then some (ad 4 i) else none))))) := (hC.1 0 3 (by rw [n0]; decide)).2.trans e03
  have hm04 : ad 0 4 ∈ L := (hC.1 0 4 (by rw [n0]; decide)).1
  have he04 : f (ad 0 4) = .inl ((cs 3), 10, .inr (.inr (.inr (.inr (fun c => if AN 18 c = 0 then none else some (ad 6 (rx c (AN 18 c - 1)))))))) := (hC.1 0 4 (by rw [n0]; decide)).2.trans e04
  have hm05 : ad 0 5 ∈ L := (hC.1 0 5 (by rw [n0]; decide)).1
  have he05 : f (ad 0 5) = .inr (6, [.ref (ad 0 6), .int (nI nb), .long (m_tot AI nb)]) := (hC.1 0 5 (by rw [n0]; decide)).2.trans e05
  have hm06 : ad 0 6 ∈ L := (hC.1 0 6 (by rw [n0]; decide)).1
  have he06 : f (ad 0 6) = .inl ((cs 4), 20, .inr (.inr (.inr (.inr (fun r => if r < nb then some (ad 1 (AN 22 r)) else none))))) := (hC.1 0 6 (by rw [n0]; decide)).2.trans e06
  refine Met.ofW (cc := b_FB_sum) (maxL := 2) (ret := (some .long)) (by decide) rfl ?_
  intro p e s m args below meth c s₁ B hml hv
  obtain ⟨rfl, hP, hK, hN⟩ := hv
  have hx := B.exec
  have hb := B.bytes
  have hr := B.returns
  have hts := atoms_spec (ws := w_FB_sum) B.pre
  have hG := fun (w : Cond) (h : w ∈ wG) => hts w (List.mem_cons_of_mem _ h)
  have hown : s.vm.findClass R_FB = some m.cls := findClass_of_methodNamed B.named
  have hlocks := B.notSynchronized
  have hl := lv_entry ([.ref (ad 0 0), .int w0]) (n := 2) (Nat.le_of_ble_eq_true rfl)
  rw [lg_entry_eq]
  generalize (lg_sl ([.ref (ad 0 0), .int w0]) ++ List.replicate (2 - (lg_sl ([.ref (ad 0 0), .int w0])).length) Slot.unset).toArray = ls at hl ⊢
  have hl : lv_has ls 2 [(0, .ref (ad 0 0)), (1, .int w0)] := hl
  refine lv_iload_n hx hb d_FB_sum_0 rfl (lv_at hl 1 rfl) ?_
  by_cases s_1 : w0 = 0
  · refine lv_tableIn (off := 31) (tgt := 32) hx hb d_FB_sum_1 (by rw [s_1]; decide) (by rw [s_1]; decide) (by rw [s_1]; decide) (by decide) ?_
    refine lv_aload_n hx hb d_FB_sum_32 rfl (lv_at hl 0 rfl) ?_
    refine rd_calll (va_runV (As := []) (rest := []) ⟨hx, hb, hml, hown, hts⟩ (c_FB_givenToAll l dC dI cs th yr nf no nt bd nb fl AI AN AB AL L f n ad e0 bl rx  hC hR hM hB hZ) (cwV 0 hts (gd_V k_427 k_429 k_5 k_14 k_430) rfl rfl rfl (by decide +kernel) ⟨Nat.le_of_ble_eq_true rfl, Nat.le_of_ble_eq_true rfl⟩) (fw_preV hK hN hP rfl hm00 he00) rfl rfl hl.1 rfl (lv_room (Nat.le_of_ble_eq_true rfl)) d_FB_sum_33 ⟨Nat.zero_le _, Nat.zero_le _⟩) (fun r_2 hr_2 => ?_)
    subst hr_2
    exact W.lret (v := (sumL (AL 2) nf)) hx hb hr (fun t ht hW => ⟨_, rfl, (by simp [m_sum, s_1]), ht⟩) (fun q h => by cases h) d_FB_sum_36
  · by_cases s_3 : w0 = 1
    · refine lv_tableIn (off := 36) (tgt := 37) hx hb d_FB_sum_1 (by rw [s_3]; decide) (by rw [s_3]; decide) (by rw [s_3]; decide) (by decide) ?_
      refine lv_aload_n hx hb d_FB_sum_37 rfl (lv_at hl 0 rfl) ?_
      refine fw_get (D := (dC, dI)) (ci := 0) (v := .int yr) (C := R_FB) (T := F_FB) (N := 11) hx hb hG iG_FB hown hK hP hm00 he00 rfl 8 (by decide) (hG _ k_75) (fun _ h9 => h9) rfl d_FB_sum_38 ?_
      refine lv_i2l hx hb d_FB_sum_41 rfl ?_
      exact W.lret (v := (yr.toInt64)) hx hb hr (fun t ht hW => ⟨_, rfl, (by simp [m_sum, s_1, s_3]), ht⟩) (fun q h => by cases h) d_FB_sum_42
    · by_cases s_4 : w0 = 2
      · refine lv_tableIn (off := 42) (tgt := 43) hx hb d_FB_sum_1 (by rw [s_4]; decide) (by rw [s_4]; decide) (by rw [s_4]; decide) (by decide) ?_
        refine lv_aload_n hx hb d_FB_sum_43 rfl (lv_at hl 0 rfl) ?_
        refine fw_get (D := (dC, dI)) (ci := 0) (v := .int (nI no)) (C := R_FB) (T := F_FB) (N := 11) hx hb hG iG_FB hown hK hP hm00 he00 rfl 6 (by decide) (hG _ k_73) (fun _ h9 => h9) rfl d_FB_sum_44 ?_
        refine lv_i2l hx hb d_FB_sum_47 rfl ?_
        exact W.lret (v := ((nI no).toInt64)) hx hb hr (fun t ht hW => ⟨_, rfl, (by simp [m_sum, s_1, s_3, s_4]), ht⟩) (fun q h => by cases h) d_FB_sum_48
      · by_cases s_5 : w0 = 3
        · refine lv_tableIn (off := 48) (tgt := 49) hx hb d_FB_sum_1 (by rw [s_5]; decide) (by rw [s_5]; decide) (by rw [s_5]; decide) (by decide) ?_
          refine lv_aload_n hx hb d_FB_sum_49 rfl (lv_at hl 0 rfl) ?_
          refine fw_get (D := (dC, dI)) (ci := 0) (v := .int (nI nt)) (C := R_FB) (T := F_FB) (N := 11) hx hb hG iG_FB hown hK hP hm00 he00 rfl 7 (by decide) (hG _ k_74) (fun _ h9 => h9) rfl d_FB_sum_50 ?_
          refine lv_i2l hx hb d_FB_sum_53 rfl ?_
          exact W.lret (v := ((nI nt).toInt64)) hx hb hr (fun t ht hW => ⟨_, rfl, (by simp [m_sum, s_1, s_3, s_4, s_5]), ht⟩) (fun q h => by cases h) d_FB_sum_54
        · refine lv_tableOut (tgt := 55) hx hb d_FB_sum_1 (by have h9 := And.intro trivial trivial; have := lv_neT s_1 (show (0 : Int32).toInt = 0 by decide); have := lv_neT s_3 (show (1 : Int32).toInt = 1 by decide); have := lv_neT s_4 (show (2 : Int32).toInt = 2 by decide); have := lv_neT s_5 (show (3 : Int32).toInt = 3 by decide); omega) (by decide) ?_
          refine lv_ldc2 (own := R_FB) (v := (-1)) hx hb hown (hG _ k_251) d_FB_sum_55 ?_
          exact W.lret (v := (-1)) hx hb hr (fun t ht hW => ⟨_, rfl, (by simp [m_sum, s_1, s_3, s_4, s_5]), ht⟩) (fun q h => by cases h) d_FB_sum_58
