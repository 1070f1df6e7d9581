theorem ne0_64 {x : Int32} (h : 1 ≤ x.toInt) : ¬ x.toInt64 = 0 := by
  intro q
  have := congrArg Int64.toInt q
  rw [Int32.toInt_toInt64] at this
  have h0 : (0 : Int64).toInt = 0 := rfl
  omega
theorem lst_lt {P : Nat → Bool} {n r : Nat} (h : lst_ P n = some r) : r < n := by
  induction n with
  | zero => simp [lst_] at h
  | succ n ih =>
    simp only [lst_] at h
    split at h
    · cases h; omega
    · have := ih h; omega
theorem nI_le100 {i : Nat} (h : i ≤ 100) : (100 : Int32) ≤ nI i ↔ 100 ≤ i := nI_leI (a := 100) (by decide) (by omega)

theorem d_Mo_rowOn_0 : decode b_Mo_rowOn 0 = .ok (.iconst (-1), 1) := by decide +kernel
theorem d_Mo_rowOn_1 : decode b_Mo_rowOn 1 = .ok (.istore_n 3, 1) := by decide +kernel
theorem d_Mo_rowOn_2 : decode b_Mo_rowOn 2 = .ok (.iconst 0, 1) := by decide +kernel
theorem d_Mo_rowOn_3 : decode b_Mo_rowOn 3 = .ok (.istore 4, 2) := by decide +kernel
theorem d_Mo_rowOn_5 : decode b_Mo_rowOn 5 = .ok (.iload 4, 2) := by decide +kernel
theorem d_Mo_rowOn_7 : decode b_Mo_rowOn 7 = .ok (.aload_n 0, 1) := by decide +kernel
theorem d_Mo_rowOn_8 : decode b_Mo_rowOn 8 = .ok (.getfield 67, 3) := by decide +kernel
theorem d_Mo_rowOn_11 : decode b_Mo_rowOn 11 = .ok (.iload_n 1, 1) := by decide +kernel
theorem d_Mo_rowOn_12 : decode b_Mo_rowOn 12 = .ok (.iaload, 1) := by decide +kernel
theorem d_Mo_rowOn_13 : decode b_Mo_rowOn 13 = .ok (.if_icmp .ge 37, 3) := by decide +kernel
theorem d_Mo_rowOn_16 : decode b_Mo_rowOn 16 = .ok (.aload_n 0, 1) := by decide +kernel
theorem d_Mo_rowOn_17 : decode b_Mo_rowOn 17 = .ok (.getfield 70, 3) := by decide +kernel
theorem d_Mo_rowOn_20 : decode b_Mo_rowOn 20 = .ok (.bipush 10, 2) := by decide +kernel
theorem d_Mo_rowOn_22 : decode b_Mo_rowOn 22 = .ok (.iload_n 1, 1) := by decide +kernel
theorem d_Mo_rowOn_23 : decode b_Mo_rowOn 23 = .ok (.imul, 1) := by decide +kernel
theorem d_Mo_rowOn_24 : decode b_Mo_rowOn 24 = .ok (.iload 4, 2) := by decide +kernel
theorem d_Mo_rowOn_26 : decode b_Mo_rowOn 26 = .ok (.iadd, 1) := by decide +kernel
theorem d_Mo_rowOn_27 : decode b_Mo_rowOn 27 = .ok (.iaload, 1) := by decide +kernel
theorem d_Mo_rowOn_28 : decode b_Mo_rowOn 28 = .ok (.iload_n 2, 1) := by decide +kernel
theorem d_Mo_rowOn_29 : decode b_Mo_rowOn 29 = .ok (.if_icmp .gt 13, 3) := by decide +kernel
theorem d_Mo_rowOn_32 : decode b_Mo_rowOn 32 = .ok (.bipush 10, 2) := by decide +kernel
theorem d_Mo_rowOn_34 : decode b_Mo_rowOn 34 = .ok (.iload_n 1, 1) := by decide +kernel
theorem d_Mo_rowOn_35 : decode b_Mo_rowOn 35 = .ok (.imul, 1) := by decide +kernel
theorem d_Mo_rowOn_36 : decode b_Mo_rowOn 36 = .ok (.iload 4, 2) := by decide +kernel
theorem d_Mo_rowOn_38 : decode b_Mo_rowOn 38 = .ok (.iadd, 1) := by decide +kernel
theorem d_Mo_rowOn_39 : decode b_Mo_rowOn 39 = .ok (.goto 4, 3) := by decide +kernel
theorem d_Mo_rowOn_42 : decode b_Mo_rowOn 42 = .ok (.iload_n 3, 1) := by decide +kernel
theorem d_Mo_rowOn_43 : decode b_Mo_rowOn 43 = .ok (.istore_n 3, 1) := by decide +kernel
theorem d_Mo_rowOn_44 : decode b_Mo_rowOn 44 = .ok (.iinc 4 1, 3) := by decide +kernel
theorem d_Mo_rowOn_47 : decode b_Mo_rowOn 47 = .ok (.goto (-42), 3) := by decide +kernel
theorem d_Mo_rowOn_50 : decode b_Mo_rowOn 50 = .ok (.iload_n 3, 1) := by decide +kernel
theorem d_Mo_rowOn_51 : decode b_Mo_rowOn 51 = .ok (.ireturn, 1) := by decide +kernel
set_option maxHeartbeats 4000000 in
set_option maxRecDepth 100000 in
theorem lp_Mo_rowOn {p : Program} {l : Launch} {e : Env} {s : State} {m : MethodId} {args : Array Value} {below : List Frame} {meth : Method} {c : Code} {Q : State → Prop} {R : Room} {H : Heap} {locs : List Loc} {cells slots : Nat} {dC : Nat → ClassId} {dI : Nat → Nat → Nat} {ad : Nat → Nat} {cA : Nat → ClassId} {th yr : Int32} {nf no nt : Nat} {bd : Int32} {nb : Nat} {fl : Int32} {AI : Nat → Nat → Int32} {AN : Nat → Nat → Nat} {AB : Nat → Nat → Bool} {AL : Nat → Nat → Int64} (hx : p.tables.exec = Jvm.exec) (hb : c.code = b_Mo_rowOn) (hml : c.maxLocals = 5) (hown : s.vm.findClass R_Mo = some m.cls) (hts : ∀ w ∈ w_Mo_rowOn, w.before args s = true) (hK : va_K (dC, dI) classes (mtys cA) s) (hP : va_P (dC, dI) classes (mw ad cA th yr nf no nt bd nb fl AI AN AB AL) H) (k : Nat) (hk : k < 10) (hrk : AN 18 k ≤ 10) (on : Int32)
    (exit : ∀ ls : Array Slot, lv_has ls 5 [(4, .int (nI (AN 18 k))), (3, .int (oI ((lst_ (fun r => decide (AI 19 (10 * k + r) ≤ on)) (AN 18 k)).map (fun r => 10 * k + r)))), (0, .ref (ad 0)), (1, .int (nI k)), (2, .int on)] → W p l e R s m args below meth c H locs cells slots Q (F0 m 50 ls [])) :
    ∀ n i : Nat, i ≤ AN 18 k → AN 18 k + 1 ≤ i + n → ∀ ls : Array Slot, lv_has ls 5 [(4, .int (nI i)), (3, .int (oI ((lst_ (fun r => decide (AI 19 (10 * k + r) ≤ on)) i).map (fun r => 10 * k + r)))), (0, .ref (ad 0)), (1, .int (nI k)), (2, .int on)] → W p l e R s m args below meth c H locs cells slots Q (F0 m 5 ls []) := by
  have hG := fun (w : Cond) (h : w ∈ wG) => hts w (List.mem_cons_of_mem _ h)
  intro n
  induction n with
  | zero =>
    intro i h1 h2
    omega
  | succ n ih =>
    intro i hi hin ls hl
    refine lv_iload hx hb d_Mo_rowOn_5 (lv_at hl 0 rfl) ?_
    refine lv_aload_n hx hb d_Mo_rowOn_7 rfl (lv_at hl 2 rfl) ?_
    refine va_get (D := (dC, dI)) (ci := 7) (v := .ref (ad 18)) (C := R_Mo) (T := F_Mo) (N := 31) hx hb hG iG_Mo hown hK hP 0 rfl rfl 23 (by decide) (hG _ k_546) (fun _ h9 => h9) rfl d_Mo_rowOn_8 ?_
    refine lv_iload_n hx hb d_Mo_rowOn_11 rfl (lv_at hl 3 rfl) ?_
    refine rn_iald (n := 10) (j := k) (g := AN 18) hx hb hK hP 18 17 rfl rfl (by omega) (by decide) d_Mo_rowOn_12 ?_
    refine lv_icmp_ge (tgt := 50) hx hb d_Mo_rowOn_13 (by decide) (fun c_1 => ?_) (fun c_1 => ?_)
    · obtain rfl : i = AN 18 k := by have := (nI_leI (by omega) (by omega)).mp c_1; omega
      exact exit ls (lv_sub hl [0, 1, 2, 3, 4] rfl)
    · have hlt : i < AN 18 k := by have h9 := c_1; rw [nI_leI (by omega) (by omega)] at h9; omega
      refine lv_aload_n hx hb d_Mo_rowOn_16 rfl (lv_at hl 2 rfl) ?_
      refine va_get (D := (dC, dI)) (ci := 7) (v := .ref (ad 19)) (C := R_Mo) (T := F_Mo) (N := 31) hx hb hG iG_Mo hown hK hP 0 rfl rfl 24 (by decide) (hG _ k_547) (fun _ h9 => h9) rfl d_Mo_rowOn_17 ?_
      refine lv_bipush (v := 10) hx hb d_Mo_rowOn_20 (by decide) ?_
      refine lv_iload_n hx hb d_Mo_rowOn_22 rfl (lv_at hl 3 rfl) ?_
      refine lv_imul hx hb d_Mo_rowOn_23 ?_
      refine lv_topI (y := nI (10 * k)) (pk_mul 10 k) ?_
      refine lv_iload hx hb d_Mo_rowOn_24 (lv_at hl 0 rfl) ?_
      refine lv_iadd hx hb d_Mo_rowOn_26 ?_
      refine lv_topI (y := nI ((10 * k) + i)) (nI_add (10 * k) i) ?_
      refine ra_iald (n := 100) (j := ((10 * k) + i)) (f := AI 19) hx hb hK hP 19 18 rfl rfl (by omega) (by decide) d_Mo_rowOn_27 ?_
      refine lv_iload_n hx hb d_Mo_rowOn_28 rfl (lv_at hl 4 rfl) ?_
      refine lv_icmp_gt (tgt := 42) hx hb d_Mo_rowOn_29 (by decide) (fun c_2 => ?_) (fun c_2 => ?_)
      · rw [← Int32.not_le] at c_2
        refine lv_iload_n hx hb d_Mo_rowOn_42 rfl (lv_at hl 1 rfl) ?_
        refine lv_topI (y := oI ((lst_ (fun r => decide (AI 19 (10 * k + r) ≤ on)) (i + 1)).map (fun r => 10 * k + r))) (by simp [lst_, oI, c_2]) ?_
        refine lv_istore_n (lv' := [(3, .int (oI ((lst_ (fun r => decide (AI 19 (10 * k + r) ≤ on)) (i + 1)).map (fun r => 10 * k + r)))), (4, .int (nI i)), (0, .ref (ad 0)), (1, .int (nI k)), (2, .int on)]) hx hb d_Mo_rowOn_43 rfl hl (by decide) rfl (fun ls hl => ?_)
        refine lv_iinc (v := nI (i + 1)) (lv' := [(4, .int (nI (i + 1))), (3, .int (oI ((lst_ (fun r => decide (AI 19 (10 * k + r) ≤ on)) (i + 1)).map (fun r => 10 * k + r)))), (0, .ref (ad 0)), (1, .int (nI k)), (2, .int on)]) hx hb d_Mo_rowOn_44 hl (k := 1) rfl (nI_1 i) (by decide) rfl (fun ls hl => ?_)
        refine lv_goto (tgt := 5) hx hb d_Mo_rowOn_47 (by decide) ?_
        exact ih (i + 1) (by omega) (by omega) ls (lv_sub hl [0, 1, 2, 3, 4] rfl)
      · rw [Int32.not_lt] at c_2
        refine lv_bipush (v := 10) hx hb d_Mo_rowOn_32 (by decide) ?_
        refine lv_iload_n hx hb d_Mo_rowOn_34 rfl (lv_at hl 3 rfl) ?_
        refine lv_imul hx hb d_Mo_rowOn_35 ?_
        refine lv_topI (y := nI (10 * k)) (pk_mul 10 k) ?_
        refine lv_iload hx hb d_Mo_rowOn_36 (lv_at hl 0 rfl) ?_
        refine lv_iadd hx hb d_Mo_rowOn_38 ?_
        refine lv_topI (y := nI ((10 * k) + i)) (nI_add (10 * k) i) ?_
        refine lv_goto (tgt := 43) hx hb d_Mo_rowOn_39 (by decide) ?_
        refine lv_topI (y := oI ((lst_ (fun r => decide (AI 19 (10 * k + r) ≤ on)) (i + 1)).map (fun r => 10 * k + r))) (by simp [lst_, oI, c_2]) ?_
        refine lv_istore_n (lv' := [(3, .int (oI ((lst_ (fun r => decide (AI 19 (10 * k + r) ≤ on)) (i + 1)).map (fun r => 10 * k + r)))), (4, .int (nI i)), (0, .ref (ad 0)), (1, .int (nI k)), (2, .int on)]) hx hb d_Mo_rowOn_43 rfl hl (by decide) rfl (fun ls hl => ?_)
        refine lv_iinc (v := nI (i + 1)) (lv' := [(4, .int (nI (i + 1))), (3, .int (oI ((lst_ (fun r => decide (AI 19 (10 * k + r) ≤ on)) (i + 1)).map (fun r => 10 * k + r)))), (0, .ref (ad 0)), (1, .int (nI k)), (2, .int on)]) hx hb d_Mo_rowOn_44 hl (k := 1) rfl (nI_1 i) (by decide) rfl (fun ls hl => ?_)
        refine lv_goto (tgt := 5) hx hb d_Mo_rowOn_47 (by decide) ?_
        exact ih (i + 1) (by omega) (by omega) ls (lv_sub hl [0, 1, 2, 3, 4] rfl)
set_option maxHeartbeats 4000000 in
set_option maxRecDepth 100000 in
theorem c_Mo_rowOn (l : Launch) (dC : Nat → ClassId) (dI : Nat → Nat → Nat) (ad : Nat → Nat) (cA : Nat → ClassId) (th yr : Int32) (nf no nt : Nat) (bd : Int32) (nb : Nat) (fl : Int32) (AI : Nat → Nat → Int32) (AN : Nat → Nat → Nat) (AB : Nat → Nat → Bool) (AL : Nat → Nat → Int64) (k : Nat) (on : Int32) (hk : k < 10) (hrk : AN 18 k ≤ 10) : Met l y_Mo_rowOn w_Mo_rowOn { frames := 0, cells := 0, slots := 0, locals := 0 } (rd_P (dC, dI) classes (mtys cA) (mw ad cA th yr nf no nt bd nb fl AI AN AB AL) [.ref (ad 0), .int (nI k), .int on]) (vp_Si (fun r => r = oI ((m_rowOn AI AN k on).map (fun r => 10 * k + r)))) 0 0 (fun _ => False) := by
  refine Met.ofW (cc := b_Mo_rowOn) (maxL := 5) (ret := (some .int)) (by decide) rfl ?_
  intro p e s m args below meth c s₁ B hml hv
  obtain ⟨rfl, hP, hK, hN⟩ := hv
  have hx := B.exec
  have hb := B.bytes
  have hr := B.returns
  have hts := atoms_spec (ws := w_Mo_rowOn) B.pre
  have hG := fun (w : Cond) (h : w ∈ wG) => hts w (List.mem_cons_of_mem _ h)
  have hown : s.vm.findClass R_Mo = some m.cls := findClass_of_methodNamed B.named
  have hlocks := B.notSynchronized
  have hl := lv_entry ([.ref (ad 0), .int (nI k), .int on]) (n := 5) (Nat.le_of_ble_eq_true rfl)
  rw [lg_entry_eq]
  generalize (lg_sl ([.ref (ad 0), .int (nI k), .int on]) ++ List.replicate (5 - (lg_sl ([.ref (ad 0), .int (nI k), .int on])).length) Slot.unset).toArray = ls at hl ⊢
  have hl : lv_has ls 5 [(0, .ref (ad 0)), (1, .int (nI k)), (2, .int on)] := hl
  refine lv_iconst (v := (-1)) hx hb d_Mo_rowOn_0 (by decide) ?_
  refine lv_istore_n (lv' := [(3, .int (-1)), (0, .ref (ad 0)), (1, .int (nI k)), (2, .int on)]) hx hb d_Mo_rowOn_1 rfl hl (by decide) rfl (fun ls hl => ?_)
  refine lv_iconst (v := 0) hx hb d_Mo_rowOn_2 (by decide) ?_
  refine lv_istore (lv' := [(4, .int 0), (3, .int (-1)), (0, .ref (ad 0)), (1, .int (nI k)), (2, .int on)]) hx hb d_Mo_rowOn_3 hl (by decide) rfl (fun ls hl => ?_)
  refine lp_Mo_rowOn hx hb hml hown hts hK hP k hk hrk on (fun ls hl => ?_) (AN 18 k + 1) 0 (by omega) (by omega) ls (lv_sub hl [0, 1, 2, 3, 4] rfl)
  refine lv_iload_n hx hb d_Mo_rowOn_50 rfl (lv_at hl 1 rfl) ?_
  exact W.iret (v := (oI ((lst_ (fun r => decide (AI 19 (10 * k + r) ≤ on)) (AN 18 k)).map (fun r => 10 * k + r)))) hx hb hr (fun t ht hW => ⟨_, rfl, rfl, ht⟩) (fun q h => by cases h) d_Mo_rowOn_51

theorem d_Mo_currency_0 : decode b_Mo_currency 0 = .ok (.aload_n 0, 1) := by decide +kernel
theorem d_Mo_currency_1 : decode b_Mo_currency 1 = .ok (.iconst 0, 1) := by decide +kernel
theorem d_Mo_currency_2 : decode b_Mo_currency 2 = .ok (.putfield 91, 3) := by decide +kernel
theorem d_Mo_currency_5 : decode b_Mo_currency 5 = .ok (.iload_n 1, 1) := by decide +kernel
theorem d_Mo_currency_6 : decode b_Mo_currency 6 = .ok (.i2l, 1) := by decide +kernel
theorem d_Mo_currency_7 : decode b_Mo_currency 7 = .ok (.lconst 0, 1) := by decide +kernel
theorem d_Mo_currency_8 : decode b_Mo_currency 8 = .ok (.ldc2_w 137, 3) := by decide +kernel
theorem d_Mo_currency_11 : decode b_Mo_currency 11 = .ok (.invokestatic 97, 3) := by decide +kernel
theorem d_Mo_currency_14 : decode b_Mo_currency 14 = .ok (.ifCond .ne 5, 3) := by decide +kernel
theorem d_Mo_currency_17 : decode b_Mo_currency 17 = .ok (.iconst (-1), 1) := by decide +kernel
theorem d_Mo_currency_18 : decode b_Mo_currency 18 = .ok (.ireturn, 1) := by decide +kernel
theorem d_Mo_currency_19 : decode b_Mo_currency 19 = .ok (.iload_n 2, 1) := by decide +kernel
theorem d_Mo_currency_20 : decode b_Mo_currency 20 = .ok (.i2l, 1) := by decide +kernel
theorem d_Mo_currency_21 : decode b_Mo_currency 21 = .ok (.lconst 0, 1) := by decide +kernel
theorem d_Mo_currency_22 : decode b_Mo_currency 22 = .ok (.ldc2_w 139, 3) := by decide +kernel
theorem d_Mo_currency_25 : decode b_Mo_currency 25 = .ok (.invokestatic 97, 3) := by decide +kernel
theorem d_Mo_currency_28 : decode b_Mo_currency 28 = .ok (.ifCond .eq 28, 3) := by decide +kernel
theorem d_Mo_currency_31 : decode b_Mo_currency 31 = .ok (.iload_n 3, 1) := by decide +kernel
theorem d_Mo_currency_32 : decode b_Mo_currency 32 = .ok (.i2l, 1) := by decide +kernel
theorem d_Mo_currency_33 : decode b_Mo_currency 33 = .ok (.lconst 1, 1) := by decide +kernel
theorem d_Mo_currency_34 : decode b_Mo_currency 34 = .ok (.ldc2_w 157, 3) := by decide +kernel
theorem d_Mo_currency_37 : decode b_Mo_currency 37 = .ok (.invokestatic 97, 3) := by decide +kernel
theorem d_Mo_currency_40 : decode b_Mo_currency 40 = .ok (.ifCond .eq 16, 3) := by decide +kernel
theorem d_Mo_currency_43 : decode b_Mo_currency 43 = .ok (.iload 4, 2) := by decide +kernel
theorem d_Mo_currency_45 : decode b_Mo_currency 45 = .ok (.i2l, 1) := by decide +kernel
theorem d_Mo_currency_46 : decode b_Mo_currency 46 = .ok (.lconst 1, 1) := by decide +kernel
theorem d_Mo_currency_47 : decode b_Mo_currency 47 = .ok (.ldc2_w 157, 3) := by decide +kernel
theorem d_Mo_currency_50 : decode b_Mo_currency 50 = .ok (.invokestatic 97, 3) := by decide +kernel
theorem d_Mo_currency_53 : decode b_Mo_currency 53 = .ok (.ifCond .ne 6, 3) := by decide +kernel
theorem d_Mo_currency_56 : decode b_Mo_currency 56 = .ok (.bipush (-2), 2) := by decide +kernel
theorem d_Mo_currency_58 : decode b_Mo_currency 58 = .ok (.ireturn, 1) := by decide +kernel
theorem d_Mo_currency_59 : decode b_Mo_currency 59 = .ok (.aload_n 0, 1) := by decide +kernel
theorem d_Mo_currency_60 : decode b_Mo_currency 60 = .ok (.getfield 67, 3) := by decide +kernel
theorem d_Mo_currency_63 : decode b_Mo_currency 63 = .ok (.iload_n 1, 1) := by decide +kernel
theorem d_Mo_currency_64 : decode b_Mo_currency 64 = .ok (.iaload, 1) := by decide +kernel
theorem d_Mo_currency_65 : decode b_Mo_currency 65 = .ok (.istore 5, 2) := by decide +kernel
theorem d_Mo_currency_67 : decode b_Mo_currency 67 = .ok (.iload 5, 2) := by decide +kernel
theorem d_Mo_currency_69 : decode b_Mo_currency 69 = .ok (.ifCond .le 24, 3) := by decide +kernel
theorem d_Mo_currency_72 : decode b_Mo_currency 72 = .ok (.aload_n 0, 1) := by decide +kernel
theorem d_Mo_currency_73 : decode b_Mo_currency 73 = .ok (.getfield 70, 3) := by decide +kernel
theorem d_Mo_currency_76 : decode b_Mo_currency 76 = .ok (.bipush 10, 2) := by decide +kernel
theorem d_Mo_currency_78 : decode b_Mo_currency 78 = .ok (.iload_n 1, 1) := by decide +kernel
theorem d_Mo_currency_79 : decode b_Mo_currency 79 = .ok (.imul, 1) := by decide +kernel
theorem d_Mo_currency_80 : decode b_Mo_currency 80 = .ok (.iload 5, 2) := by decide +kernel
theorem d_Mo_currency_82 : decode b_Mo_currency 82 = .ok (.iadd, 1) := by decide +kernel
theorem d_Mo_currency_83 : decode b_Mo_currency 83 = .ok (.iconst 1, 1) := by decide +kernel
theorem d_Mo_currency_84 : decode b_Mo_currency 84 = .ok (.isub, 1) := by decide +kernel
theorem d_Mo_currency_85 : decode b_Mo_currency 85 = .ok (.iaload, 1) := by decide +kernel
theorem d_Mo_currency_86 : decode b_Mo_currency 86 = .ok (.iload_n 2, 1) := by decide +kernel
theorem d_Mo_currency_87 : decode b_Mo_currency 87 = .ok (.if_icmp .lt 6, 3) := by decide +kernel
theorem d_Mo_currency_90 : decode b_Mo_currency 90 = .ok (.bipush (-3), 2) := by decide +kernel
theorem d_Mo_currency_92 : decode b_Mo_currency 92 = .ok (.ireturn, 1) := by decide +kernel
theorem d_Mo_currency_93 : decode b_Mo_currency 93 = .ok (.iload 5, 2) := by decide +kernel
theorem d_Mo_currency_95 : decode b_Mo_currency 95 = .ok (.bipush 10, 2) := by decide +kernel
theorem d_Mo_currency_97 : decode b_Mo_currency 97 = .ok (.if_icmp .ne 6, 3) := by decide +kernel
theorem d_Mo_currency_100 : decode b_Mo_currency 100 = .ok (.bipush (-4), 2) := by decide +kernel
theorem d_Mo_currency_102 : decode b_Mo_currency 102 = .ok (.ireturn, 1) := by decide +kernel
theorem d_Mo_currency_103 : decode b_Mo_currency 103 = .ok (.aload_n 0, 1) := by decide +kernel
theorem d_Mo_currency_104 : decode b_Mo_currency 104 = .ok (.getfield 70, 3) := by decide +kernel
theorem d_Mo_currency_107 : decode b_Mo_currency 107 = .ok (.bipush 10, 2) := by decide +kernel
theorem d_Mo_currency_109 : decode b_Mo_currency 109 = .ok (.iload_n 1, 1) := by decide +kernel
theorem d_Mo_currency_110 : decode b_Mo_currency 110 = .ok (.imul, 1) := by decide +kernel
theorem d_Mo_currency_111 : decode b_Mo_currency 111 = .ok (.iload 5, 2) := by decide +kernel
theorem d_Mo_currency_113 : decode b_Mo_currency 113 = .ok (.iadd, 1) := by decide +kernel
theorem d_Mo_currency_114 : decode b_Mo_currency 114 = .ok (.iload_n 2, 1) := by decide +kernel
theorem d_Mo_currency_115 : decode b_Mo_currency 115 = .ok (.iastore, 1) := by decide +kernel
theorem d_Mo_currency_116 : decode b_Mo_currency 116 = .ok (.aload_n 0, 1) := by decide +kernel
theorem d_Mo_currency_117 : decode b_Mo_currency 117 = .ok (.getfield 73, 3) := by decide +kernel
theorem d_Mo_currency_120 : decode b_Mo_currency 120 = .ok (.bipush 10, 2) := by decide +kernel
theorem d_Mo_currency_122 : decode b_Mo_currency 122 = .ok (.iload_n 1, 1) := by decide +kernel
theorem d_Mo_currency_123 : decode b_Mo_currency 123 = .ok (.imul, 1) := by decide +kernel
theorem d_Mo_currency_124 : decode b_Mo_currency 124 = .ok (.iload 5, 2) := by decide +kernel
theorem d_Mo_currency_126 : decode b_Mo_currency 126 = .ok (.iadd, 1) := by decide +kernel
theorem d_Mo_currency_127 : decode b_Mo_currency 127 = .ok (.iload_n 3, 1) := by decide +kernel
theorem d_Mo_currency_128 : decode b_Mo_currency 128 = .ok (.iastore, 1) := by decide +kernel
theorem d_Mo_currency_129 : decode b_Mo_currency 129 = .ok (.aload_n 0, 1) := by decide +kernel
theorem d_Mo_currency_130 : decode b_Mo_currency 130 = .ok (.getfield 76, 3) := by decide +kernel
theorem d_Mo_currency_133 : decode b_Mo_currency 133 = .ok (.bipush 10, 2) := by decide +kernel
theorem d_Mo_currency_135 : decode b_Mo_currency 135 = .ok (.iload_n 1, 1) := by decide +kernel
theorem d_Mo_currency_136 : decode b_Mo_currency 136 = .ok (.imul, 1) := by decide +kernel
theorem d_Mo_currency_137 : decode b_Mo_currency 137 = .ok (.iload 5, 2) := by decide +kernel
theorem d_Mo_currency_139 : decode b_Mo_currency 139 = .ok (.iadd, 1) := by decide +kernel
theorem d_Mo_currency_140 : decode b_Mo_currency 140 = .ok (.iload 4, 2) := by decide +kernel
theorem d_Mo_currency_142 : decode b_Mo_currency 142 = .ok (.iastore, 1) := by decide +kernel
theorem d_Mo_currency_143 : decode b_Mo_currency 143 = .ok (.aload_n 0, 1) := by decide +kernel
theorem d_Mo_currency_144 : decode b_Mo_currency 144 = .ok (.getfield 67, 3) := by decide +kernel
theorem d_Mo_currency_147 : decode b_Mo_currency 147 = .ok (.iload_n 1, 1) := by decide +kernel
theorem d_Mo_currency_148 : decode b_Mo_currency 148 = .ok (.dup2, 1) := by decide +kernel
theorem d_Mo_currency_149 : decode b_Mo_currency 149 = .ok (.iaload, 1) := by decide +kernel
theorem d_Mo_currency_150 : decode b_Mo_currency 150 = .ok (.iconst 1, 1) := by decide +kernel
theorem d_Mo_currency_151 : decode b_Mo_currency 151 = .ok (.iadd, 1) := by decide +kernel
theorem d_Mo_currency_152 : decode b_Mo_currency 152 = .ok (.iastore, 1) := by decide +kernel
theorem d_Mo_currency_153 : decode b_Mo_currency 153 = .ok (.iconst 1, 1) := by decide +kernel
theorem d_Mo_currency_154 : decode b_Mo_currency 154 = .ok (.ireturn, 1) := by decide +kernel
set_option maxHeartbeats 4000000 in
set_option maxRecDepth 100000 in
theorem c_Mo_currency (l : Launch) (dC : Nat → ClassId) (dI : Nat → Nat → Nat) (ad : Nat → Nat) (cA : Nat → ClassId) (th yr : Int32) (nf no nt : Nat) (bd : Int32) (nb : Nat) (fl : Int32) (AI : Nat → Nat → Int32) (AN : Nat → Nat → Nat) (AB : Nat → Nat → Bool) (AL : Nat → Nat → Int64) (sz : Nat) (c0 d0 u0 v0 : Int32) (hI : InvM nf no nt nb AI AN) : Met l y_Mo_currency w_Mo_currency { frames := 1, cells := 0, slots := 0, locals := 25 } (mu_P (dC, dI) classes (mtys cA) (mw ad cA th yr nf no nt bd nb fl AI AN AB AL) sz [.ref (ad 0), .int c0, .int d0, .int u0, .int v0]) (va_Qi (fun r u => (r, u) = m_currency (th, yr, nf, no, nt, bd, nb, fl, AI, AN, AB, AL) c0 d0 u0 v0) (mu_B (dC, dI) classes (mtys cA) (va_A (mw ad cA th yr nf no nt bd nb fl AI AN AB AL) sz) (mwS ad cA)) (va_A (mw ad cA th yr nf no nt bd nb fl AI AN AB AL) sz)) 0 0 (va_A (mw ad cA th yr nf no nt bd nb fl AI AN AB AL) sz) := by
  refine Met.ofW (cc := b_Mo_currency) (maxL := 6) (ret := (some .int)) (by decide) rfl ?_
  intro p e s m args below meth c s₁ B hml hv
  obtain ⟨rfl, hsz, hP, hK, hD0, hN⟩ := hv
  have hx := B.exec
  have hb := B.bytes
  have hr := B.returns
  have hts := atoms_spec (ws := w_Mo_currency) B.pre
  have hG := fun (w : Cond) (h : w ∈ wG) => hts w (List.mem_cons_of_mem _ h)
  have hown : s.vm.findClass R_Mo = some m.cls := findClass_of_methodNamed B.named
  have hlocks := B.notSynchronized
  subst hsz
  have hD := hD0.self (sz := s.heap.size)
  generalize hAe : va_A (mw ad cA th yr nf no nt bd nb fl AI AN AB AL) s.heap.size = A at hD ⊢
  have hA : ∀ q : Nat, s.heap.size ≤ q → A q := fun q h => by rw [← hAe]; exact Or.inr h
  have hS : va_S A s.heap s.heap [] := va_S.rf
  have hP : va_P (dC, dI) classes (mw ad cA th yr nf no nt bd nb fl AI AN AB AL) s.heap := hP
  have hl := lv_entry ([.ref (ad 0), .int c0, .int d0, .int u0, .int v0]) (n := 6) (Nat.le_of_ble_eq_true rfl)
  rw [lg_entry_eq]
  generalize (lg_sl ([.ref (ad 0), .int c0, .int d0, .int u0, .int v0]) ++ List.replicate (6 - (lg_sl ([.ref (ad 0), .int c0, .int d0, .int u0, .int v0])).length) Slot.unset).toArray = ls at hl ⊢
  have hl : lv_has ls 6 [(0, .ref (ad 0)), (1, .int c0), (2, .int d0), (3, .int u0), (4, .int v0)] := hl
  obtain ⟨hnf, hno, hnt, hnb, hfu, hft, hbf, hrw, hce, hdn⟩ := id hI
  refine lv_aload_n hx hb d_Mo_currency_0 rfl (lv_at hl 0 rfl) ?_
  refine lv_iconst (v := 0) hx hb d_Mo_currency_1 (by decide) ?_
  refine va_put (D := (dC, dI)) (ci := 7) (v := .int 0) (ty := .int) (C := R_Mo) (T := F_Mo) (N := 31) hx hb hG iG_Mo t_Mo t_Mo_ok n_Mo hown hK hP hD hS 0 rfl rfl 0 (by decide) (hG _ k_523) (fun _ h9 => h9) rfl (by decide +kernel) rfl rfl (Nat.le_of_ble_eq_true rfl) d_Mo_currency_2 (fun H locs hP hD hS => ?_)
  have hP : va_P (dC, dI) classes (mw ad cA 0 yr nf no nt bd nb fl AI AN AB AL) H := hP
  have hD : va_D A (mw ad cA 0 yr nf no nt bd nb fl AI AN AB AL) := hD
  refine lv_iload_n hx hb d_Mo_currency_5 rfl (lv_at hl 1 rfl) ?_
  refine lv_i2l hx hb d_Mo_currency_6 rfl ?_
  refine lv_lconst (v := 0) hx hb d_Mo_currency_7 (by decide) ?_
  refine lv_ldc2 (own := R_Mo) (v := 9) hx hb hown (hG _ k_673) d_Mo_currency_8 ?_
  refine rd_calli (va_runS (As := [.long (c0.toInt64), .long 0, .long 9]) (rest := []) ⟨hx, hb, hml, hown, hts⟩ (c_Mo_in l dC dI (mtys cA) (mw ad cA 0 yr nf no nt bd nb fl AI AN AB AL) (c0.toInt64) 0 9) (cwS 3 hts (gd_S k_629 k_630 k_17 k_631) rfl rfl rfl (by decide +kernel) ⟨Nat.le_of_ble_eq_true rfl, Nat.le_of_ble_eq_true rfl⟩) (rd_preS hK hN hP) rfl rfl hl.1 rfl (lv_room (Nat.le_of_ble_eq_true rfl)) d_Mo_currency_11 ⟨Nat.zero_le _, Nat.zero_le _⟩) (fun r_1 hr_1 => ?_)
  subst hr_1
  refine lb_if_ne (tgt := 19) hx hb d_Mo_currency_14 (by decide) (fun c_2 => ?_) (fun c_2 => ?_)
  · obtain ⟨k, hk, rfl⟩ := in9 c_2
    have ek : (nI k).toNatClampNeg = k := nI_clamp (by omega)
    have hrk := hrw k hk
    refine lv_iload_n hx hb d_Mo_currency_19 rfl (lv_at hl 2 rfl) ?_
    refine lv_i2l hx hb d_Mo_currency_20 rfl ?_
    refine lv_lconst (v := 0) hx hb d_Mo_currency_21 (by decide) ?_
    refine lv_ldc2 (own := R_Mo) (v := 100000) hx hb hown (hG _ k_674) d_Mo_currency_22 ?_
    refine rd_calli (va_runS (As := [.long (d0.toInt64), .long 0, .long 100000]) (rest := []) ⟨hx, hb, hml, hown, hts⟩ (c_Mo_in l dC dI (mtys cA) (mw ad cA 0 yr nf no nt bd nb fl AI AN AB AL) (d0.toInt64) 0 100000) (cwS 3 hts (gd_S k_629 k_630 k_17 k_631) rfl rfl rfl (by decide +kernel) ⟨Nat.le_of_ble_eq_true rfl, Nat.le_of_ble_eq_true rfl⟩) (rd_preS hK hN hP) rfl rfl hl.1 rfl (lv_room (Nat.le_of_ble_eq_true rfl)) d_Mo_currency_25 ⟨Nat.zero_le _, Nat.zero_le _⟩) (fun r_3 hr_3 => ?_)
    subst hr_3
    refine lb_if_eq (tgt := 56) hx hb d_Mo_currency_28 (by decide) (fun c_4 => ?_) (fun c_4 => ?_)
    · refine lv_bipush (v := (-2)) hx hb d_Mo_currency_56 (by decide) ?_
      exact W.iret (v := (-2)) hx hb hr (fun t ht hW => ⟨⟨_, (0, yr, nf, no, nt, bd, nb, fl, AI, AN, AB, AL), rfl, (by simp [m_currency, ixn, bI, ek, c_2, c_4] <;> (repeat' apply And.intro) <;> rfl), by rw [ht]; exact hP, va_K.moved hW.alike hK, hD⟩, hS.F ht⟩) hS.2.2 d_Mo_currency_58
    · refine lv_iload_n hx hb d_Mo_currency_31 rfl (lv_at hl 3 rfl) ?_
      refine lv_i2l hx hb d_Mo_currency_32 rfl ?_
      refine lv_lconst (v := 1) hx hb d_Mo_currency_33 (by decide) ?_
      refine lv_ldc2 (own := R_Mo) (v := 1000000) hx hb hown (hG _ k_697) d_Mo_currency_34 ?_
      refine rd_calli (va_runS (As := [.long (u0.toInt64), .long 1, .long 1000000]) (rest := []) ⟨hx, hb, hml, hown, hts⟩ (c_Mo_in l dC dI (mtys cA) (mw ad cA 0 yr nf no nt bd nb fl AI AN AB AL) (u0.toInt64) 1 1000000) (cwS 3 hts (gd_S k_629 k_630 k_17 k_631) rfl rfl rfl (by decide +kernel) ⟨Nat.le_of_ble_eq_true rfl, Nat.le_of_ble_eq_true rfl⟩) (rd_preS hK hN hP) rfl rfl hl.1 rfl (lv_room (Nat.le_of_ble_eq_true rfl)) d_Mo_currency_37 ⟨Nat.zero_le _, Nat.zero_le _⟩) (fun r_5 hr_5 => ?_)
      subst hr_5
      refine lb_if_eq (tgt := 56) hx hb d_Mo_currency_40 (by decide) (fun c_6 => ?_) (fun c_6 => ?_)
      · refine lv_bipush (v := (-2)) hx hb d_Mo_currency_56 (by decide) ?_
        exact W.iret (v := (-2)) hx hb hr (fun t ht hW => ⟨⟨_, (0, yr, nf, no, nt, bd, nb, fl, AI, AN, AB, AL), rfl, (by simp [m_currency, ixn, bI, ek, c_2, c_4, c_6] <;> (repeat' apply And.intro) <;> rfl), by rw [ht]; exact hP, va_K.moved hW.alike hK, hD⟩, hS.F ht⟩) hS.2.2 d_Mo_currency_58
      · refine lv_iload hx hb d_Mo_currency_43 (lv_at hl 4 rfl) ?_
        refine lv_i2l hx hb d_Mo_currency_45 rfl ?_
        refine lv_lconst (v := 1) hx hb d_Mo_currency_46 (by decide) ?_
        refine lv_ldc2 (own := R_Mo) (v := 1000000) hx hb hown (hG _ k_697) d_Mo_currency_47 ?_
        refine rd_calli (va_runS (As := [.long (v0.toInt64), .long 1, .long 1000000]) (rest := []) ⟨hx, hb, hml, hown, hts⟩ (c_Mo_in l dC dI (mtys cA) (mw ad cA 0 yr nf no nt bd nb fl AI AN AB AL) (v0.toInt64) 1 1000000) (cwS 3 hts (gd_S k_629 k_630 k_17 k_631) rfl rfl rfl (by decide +kernel) ⟨Nat.le_of_ble_eq_true rfl, Nat.le_of_ble_eq_true rfl⟩) (rd_preS hK hN hP) rfl rfl hl.1 rfl (lv_room (Nat.le_of_ble_eq_true rfl)) d_Mo_currency_50 ⟨Nat.zero_le _, Nat.zero_le _⟩) (fun r_7 hr_7 => ?_)
        subst hr_7
        refine lb_if_ne (tgt := 59) hx hb d_Mo_currency_53 (by decide) (fun c_8 => ?_) (fun c_8 => ?_)
        · refine lv_aload_n hx hb d_Mo_currency_59 rfl (lv_at hl 0 rfl) ?_
          refine va_get (D := (dC, dI)) (ci := 7) (v := .ref (ad 18)) (C := R_Mo) (T := F_Mo) (N := 31) hx hb hG iG_Mo hown hK hP 0 rfl rfl 23 (by decide) (hG _ k_546) (fun _ h9 => h9) rfl d_Mo_currency_60 ?_
          refine lv_iload_n hx hb d_Mo_currency_63 rfl (lv_at hl 1 rfl) ?_
          refine rn_iald (n := 10) (j := k) (g := AN 18) hx hb hK hP 18 17 rfl rfl (by omega) (by decide) d_Mo_currency_64 ?_
          refine lv_istore (lv' := [(5, .int (nI ((AN 18 k)))), (0, .ref (ad 0)), (1, .int (nI k)), (2, .int d0), (3, .int u0), (4, .int v0)]) hx hb d_Mo_currency_65 hl (by decide) rfl (fun ls hl => ?_)
          refine lv_iload hx hb d_Mo_currency_67 (lv_at hl 0 rfl) ?_
          refine lv_if_le (tgt := 93) hx hb d_Mo_currency_69 (by decide) (fun c_9 => ?_) (fun c_9 => ?_)
          · have h_z : ¬ 0 < AN 18 k := fun q => absurd c_9 (nI_nle q (by omega))
            refine lv_iload hx hb d_Mo_currency_93 (lv_at hl 0 rfl) ?_
            refine lv_bipush (v := 10) hx hb d_Mo_currency_95 (by decide) ?_
            refine lv_icmp_ne (tgt := 103) hx hb d_Mo_currency_97 (by decide) (fun c_10 => ?_) (fun c_10 => ?_)
            · rw [nI_10 hrk] at c_10
              refine lv_aload_n hx hb d_Mo_currency_103 rfl (lv_at hl 1 rfl) ?_
              refine va_get (D := (dC, dI)) (ci := 7) (v := .ref (ad 19)) (C := R_Mo) (T := F_Mo) (N := 31) hx hb hG iG_Mo hown hK hP 0 rfl rfl 24 (by decide) (hG _ k_547) (fun _ h9 => h9) rfl d_Mo_currency_104 ?_
              refine lv_bipush (v := 10) hx hb d_Mo_currency_107 (by decide) ?_
              refine lv_iload_n hx hb d_Mo_currency_109 rfl (lv_at hl 2 rfl) ?_
              refine lv_imul hx hb d_Mo_currency_110 ?_
              refine lv_topI (y := nI (10 * k)) (pk_mul 10 k) ?_
              refine lv_iload hx hb d_Mo_currency_111 (lv_at hl 0 rfl) ?_
              refine lv_iadd hx hb d_Mo_currency_113 ?_
              refine lv_topI (y := nI ((10 * k) + ((AN 18 k)))) (nI_add (10 * k) ((AN 18 k))) ?_
              refine lv_iload_n hx hb d_Mo_currency_114 rfl (lv_at hl 3 rfl) ?_
              refine ra_iast (n := 100) (j := ((10 * k) + ((AN 18 k)))) (f := AI 19) hx hb hK hP hD hS 19 18 rfl rfl (by omega) (by decide) d_Mo_currency_115 (fun H locs hP hD hS => ?_)
              have hP : va_P (dC, dI) classes (mw ad cA 0 yr nf no nt bd nb fl (va_up AI 19 (va_up (AI 19) ((10 * k) + ((AN 18 k))) d0)) AN AB AL) H := hP
              have hD : va_D A (mw ad cA 0 yr nf no nt bd nb fl (va_up AI 19 (va_up (AI 19) ((10 * k) + ((AN 18 k))) d0)) AN AB AL) := hD
              refine lv_aload_n hx hb d_Mo_currency_116 rfl (lv_at hl 1 rfl) ?_
              refine va_get (D := (dC, dI)) (ci := 7) (v := .ref (ad 20)) (C := R_Mo) (T := F_Mo) (N := 31) hx hb hG iG_Mo hown hK hP 0 rfl rfl 25 (by decide) (hG _ k_548) (fun _ h9 => h9) rfl d_Mo_currency_117 ?_
              refine lv_bipush (v := 10) hx hb d_Mo_currency_120 (by decide) ?_
              refine lv_iload_n hx hb d_Mo_currency_122 rfl (lv_at hl 2 rfl) ?_
              refine lv_imul hx hb d_Mo_currency_123 ?_
              refine lv_topI (y := nI (10 * k)) (pk_mul 10 k) ?_
              refine lv_iload hx hb d_Mo_currency_124 (lv_at hl 0 rfl) ?_
              refine lv_iadd hx hb d_Mo_currency_126 ?_
              refine lv_topI (y := nI ((10 * k) + ((AN 18 k)))) (nI_add (10 * k) ((AN 18 k))) ?_
              refine lv_iload_n hx hb d_Mo_currency_127 rfl (lv_at hl 4 rfl) ?_
              refine ra_iast (n := 100) (j := ((10 * k) + ((AN 18 k)))) (f := AI 20) hx hb hK hP hD hS 20 19 rfl rfl (by omega) (by decide) d_Mo_currency_128 (fun H locs hP hD hS => ?_)
              have hP : va_P (dC, dI) classes (mw ad cA 0 yr nf no nt bd nb fl (va_up (va_up AI 19 (va_up (AI 19) ((10 * k) + ((AN 18 k))) d0)) 20 (va_up (AI 20) ((10 * k) + ((AN 18 k))) u0)) AN AB AL) H := hP
              have hD : va_D A (mw ad cA 0 yr nf no nt bd nb fl (va_up (va_up AI 19 (va_up (AI 19) ((10 * k) + ((AN 18 k))) d0)) 20 (va_up (AI 20) ((10 * k) + ((AN 18 k))) u0)) AN AB AL) := hD
              refine lv_aload_n hx hb d_Mo_currency_129 rfl (lv_at hl 1 rfl) ?_
              refine va_get (D := (dC, dI)) (ci := 7) (v := .ref (ad 21)) (C := R_Mo) (T := F_Mo) (N := 31) hx hb hG iG_Mo hown hK hP 0 rfl rfl 26 (by decide) (hG _ k_549) (fun _ h9 => h9) rfl d_Mo_currency_130 ?_
              refine lv_bipush (v := 10) hx hb d_Mo_currency_133 (by decide) ?_
              refine lv_iload_n hx hb d_Mo_currency_135 rfl (lv_at hl 2 rfl) ?_
              refine lv_imul hx hb d_Mo_currency_136 ?_
              refine lv_topI (y := nI (10 * k)) (pk_mul 10 k) ?_
              refine lv_iload hx hb d_Mo_currency_137 (lv_at hl 0 rfl) ?_
              refine lv_iadd hx hb d_Mo_currency_139 ?_
              refine lv_topI (y := nI ((10 * k) + ((AN 18 k)))) (nI_add (10 * k) ((AN 18 k))) ?_
              refine lv_iload hx hb d_Mo_currency_140 (lv_at hl 5 rfl) ?_
              refine ra_iast (n := 100) (j := ((10 * k) + ((AN 18 k)))) (f := AI 21) hx hb hK hP hD hS 21 20 rfl rfl (by omega) (by decide) d_Mo_currency_142 (fun H locs hP hD hS => ?_)
              have hP : va_P (dC, dI) classes (mw ad cA 0 yr nf no nt bd nb fl (va_up (va_up (va_up AI 19 (va_up (AI 19) ((10 * k) + ((AN 18 k))) d0)) 20 (va_up (AI 20) ((10 * k) + ((AN 18 k))) u0)) 21 (va_up (AI 21) ((10 * k) + ((AN 18 k))) v0)) AN AB AL) H := hP
              have hD : va_D A (mw ad cA 0 yr nf no nt bd nb fl (va_up (va_up (va_up AI 19 (va_up (AI 19) ((10 * k) + ((AN 18 k))) d0)) 20 (va_up (AI 20) ((10 * k) + ((AN 18 k))) u0)) 21 (va_up (AI 21) ((10 * k) + ((AN 18 k))) v0)) AN AB AL) := hD
              refine lv_aload_n hx hb d_Mo_currency_143 rfl (lv_at hl 1 rfl) ?_
              refine va_get (D := (dC, dI)) (ci := 7) (v := .ref (ad 18)) (C := R_Mo) (T := F_Mo) (N := 31) hx hb hG iG_Mo hown hK hP 0 rfl rfl 23 (by decide) (hG _ k_546) (fun _ h9 => h9) rfl d_Mo_currency_144 ?_
              refine lv_iload_n hx hb d_Mo_currency_147 rfl (lv_at hl 2 rfl) ?_
              refine lv_dup2_11 hx hb d_Mo_currency_148 rfl rfl ?_
              refine rn_iald (n := 10) (j := k) (g := AN 18) hx hb hK hP 18 17 rfl rfl (by omega) (by decide) d_Mo_currency_149 ?_
              refine lv_iconst (v := 1) hx hb d_Mo_currency_150 (by decide) ?_
              refine lv_iadd hx hb d_Mo_currency_151 ?_
              refine lv_topI (y := nI (((AN 18 k)) + 1)) (nI_add ((AN 18 k)) 1) ?_
              refine rn_iast (n := 10) (j := k) (g := AN 18) (b := (((AN 18 k)) + 1)) hx hb hK hP hD hS 18 17 rfl rfl (by omega) (by decide) d_Mo_currency_152 (fun H locs hP hD hS => ?_)
              have hP : va_P (dC, dI) classes (mw ad cA 0 yr nf no nt bd nb fl (va_up (va_up (va_up AI 19 (va_up (AI 19) ((10 * k) + ((AN 18 k))) d0)) 20 (va_up (AI 20) ((10 * k) + ((AN 18 k))) u0)) 21 (va_up (AI 21) ((10 * k) + ((AN 18 k))) v0)) (va_up AN 18 (va_up (AN 18) k (((AN 18 k)) + 1))) AB AL) H := hP
              have hD : va_D A (mw ad cA 0 yr nf no nt bd nb fl (va_up (va_up (va_up AI 19 (va_up (AI 19) ((10 * k) + ((AN 18 k))) d0)) 20 (va_up (AI 20) ((10 * k) + ((AN 18 k))) u0)) 21 (va_up (AI 21) ((10 * k) + ((AN 18 k))) v0)) (va_up AN 18 (va_up (AN 18) k (((AN 18 k)) + 1))) AB AL) := hD
              refine lv_iconst (v := 1) hx hb d_Mo_currency_153 (by decide) ?_
              exact W.iret (v := 1) hx hb hr (fun t ht hW => ⟨⟨_, (0, yr, nf, no, nt, bd, nb, fl, va_up (va_up (va_up AI 19 (va_up (AI 19) ((10 * k) + ((AN 18 k))) d0)) 20 (va_up (AI 20) ((10 * k) + ((AN 18 k))) u0)) 21 (va_up (AI 21) ((10 * k) + ((AN 18 k))) v0), va_up AN 18 (va_up (AN 18) k (((AN 18 k)) + 1)), AB, AL), rfl, (by simp [m_currency, ixn, bI, ek, c_2, c_4, c_6, c_8, c_9, h_z, c_10] <;> (repeat' apply And.intro) <;> rfl), by rw [ht]; exact hP, va_K.moved hW.alike hK, hD⟩, hS.F ht⟩) hS.2.2 d_Mo_currency_154
            · rw [nI_10 hrk] at c_10
              exact absurd (by omega) h_z
          · have h_pos : 0 < AN 18 k := by
              rcases Nat.eq_zero_or_pos (AN 18 k) with z | z
              · exact absurd (by rw [z]; decide) c_9
              · exact z
            refine lv_aload_n hx hb d_Mo_currency_72 rfl (lv_at hl 1 rfl) ?_
            refine va_get (D := (dC, dI)) (ci := 7) (v := .ref (ad 19)) (C := R_Mo) (T := F_Mo) (N := 31) hx hb hG iG_Mo hown hK hP 0 rfl rfl 24 (by decide) (hG _ k_547) (fun _ h9 => h9) rfl d_Mo_currency_73 ?_
            refine lv_bipush (v := 10) hx hb d_Mo_currency_76 (by decide) ?_
            refine lv_iload_n hx hb d_Mo_currency_78 rfl (lv_at hl 2 rfl) ?_
            refine lv_imul hx hb d_Mo_currency_79 ?_
            refine lv_topI (y := nI (10 * k)) (pk_mul 10 k) ?_
            refine lv_iload hx hb d_Mo_currency_80 (lv_at hl 0 rfl) ?_
            refine lv_iadd hx hb d_Mo_currency_82 ?_
            refine lv_topI (y := nI ((10 * k) + ((AN 18 k)))) (nI_add (10 * k) ((AN 18 k))) ?_
            refine lv_iconst (v := 1) hx hb d_Mo_currency_83 (by decide) ?_
            refine lv_isub hx hb d_Mo_currency_84 ?_
            refine lv_topI (y := nI (((10 * k) + ((AN 18 k))) - 1)) (pk_sub (a := ((10 * k) + ((AN 18 k)))) (b := 1) (by omega)) ?_
            refine ra_iald (n := 100) (j := (((10 * k) + ((AN 18 k))) - 1)) (f := AI 19) hx hb hK hP 19 18 rfl rfl (by omega) (by decide) d_Mo_currency_85 ?_
            refine lv_iload_n hx hb d_Mo_currency_86 rfl (lv_at hl 3 rfl) ?_
            refine lv_icmp_lt (tgt := 93) hx hb d_Mo_currency_87 (by decide) (fun c_11 => ?_) (fun c_11 => ?_)
            · rw [← Int32.not_le] at c_11
              refine lv_iload hx hb d_Mo_currency_93 (lv_at hl 0 rfl) ?_
              refine lv_bipush (v := 10) hx hb d_Mo_currency_95 (by decide) ?_
              refine lv_icmp_ne (tgt := 103) hx hb d_Mo_currency_97 (by decide) (fun c_12 => ?_) (fun c_12 => ?_)
              · rw [nI_10 hrk] at c_12
                refine lv_aload_n hx hb d_Mo_currency_103 rfl (lv_at hl 1 rfl) ?_
                refine va_get (D := (dC, dI)) (ci := 7) (v := .ref (ad 19)) (C := R_Mo) (T := F_Mo) (N := 31) hx hb hG iG_Mo hown hK hP 0 rfl rfl 24 (by decide) (hG _ k_547) (fun _ h9 => h9) rfl d_Mo_currency_104 ?_
                refine lv_bipush (v := 10) hx hb d_Mo_currency_107 (by decide) ?_
                refine lv_iload_n hx hb d_Mo_currency_109 rfl (lv_at hl 2 rfl) ?_
                refine lv_imul hx hb d_Mo_currency_110 ?_
                refine lv_topI (y := nI (10 * k)) (pk_mul 10 k) ?_
                refine lv_iload hx hb d_Mo_currency_111 (lv_at hl 0 rfl) ?_
                refine lv_iadd hx hb d_Mo_currency_113 ?_
                refine lv_topI (y := nI ((10 * k) + ((AN 18 k)))) (nI_add (10 * k) ((AN 18 k))) ?_
                refine lv_iload_n hx hb d_Mo_currency_114 rfl (lv_at hl 3 rfl) ?_
                refine ra_iast (n := 100) (j := ((10 * k) + ((AN 18 k)))) (f := AI 19) hx hb hK hP hD hS 19 18 rfl rfl (by omega) (by decide) d_Mo_currency_115 (fun H locs hP hD hS => ?_)
                have hP : va_P (dC, dI) classes (mw ad cA 0 yr nf no nt bd nb fl (va_up AI 19 (va_up (AI 19) ((10 * k) + ((AN 18 k))) d0)) AN AB AL) H := hP
                have hD : va_D A (mw ad cA 0 yr nf no nt bd nb fl (va_up AI 19 (va_up (AI 19) ((10 * k) + ((AN 18 k))) d0)) AN AB AL) := hD
                refine lv_aload_n hx hb d_Mo_currency_116 rfl (lv_at hl 1 rfl) ?_
                refine va_get (D := (dC, dI)) (ci := 7) (v := .ref (ad 20)) (C := R_Mo) (T := F_Mo) (N := 31) hx hb hG iG_Mo hown hK hP 0 rfl rfl 25 (by decide) (hG _ k_548) (fun _ h9 => h9) rfl d_Mo_currency_117 ?_
                refine lv_bipush (v := 10) hx hb d_Mo_currency_120 (by decide) ?_
                refine lv_iload_n hx hb d_Mo_currency_122 rfl (lv_at hl 2 rfl) ?_
                refine lv_imul hx hb d_Mo_currency_123 ?_
                refine lv_topI (y := nI (10 * k)) (pk_mul 10 k) ?_
                refine lv_iload hx hb d_Mo_currency_124 (lv_at hl 0 rfl) ?_
                refine lv_iadd hx hb d_Mo_currency_126 ?_
                refine lv_topI (y := nI ((10 * k) + ((AN 18 k)))) (nI_add (10 * k) ((AN 18 k))) ?_
                refine lv_iload_n hx hb d_Mo_currency_127 rfl (lv_at hl 4 rfl) ?_
                refine ra_iast (n := 100) (j := ((10 * k) + ((AN 18 k)))) (f := AI 20) hx hb hK hP hD hS 20 19 rfl rfl (by omega) (by decide) d_Mo_currency_128 (fun H locs hP hD hS => ?_)
                have hP : va_P (dC, dI) classes (mw ad cA 0 yr nf no nt bd nb fl (va_up (va_up AI 19 (va_up (AI 19) ((10 * k) + ((AN 18 k))) d0)) 20 (va_up (AI 20) ((10 * k) + ((AN 18 k))) u0)) AN AB AL) H := hP
                have hD : va_D A (mw ad cA 0 yr nf no nt bd nb fl (va_up (va_up AI 19 (va_up (AI 19) ((10 * k) + ((AN 18 k))) d0)) 20 (va_up (AI 20) ((10 * k) + ((AN 18 k))) u0)) AN AB AL) := hD
                refine lv_aload_n hx hb d_Mo_currency_129 rfl (lv_at hl 1 rfl) ?_
                refine va_get (D := (dC, dI)) (ci := 7) (v := .ref (ad 21)) (C := R_Mo) (T := F_Mo) (N := 31) hx hb hG iG_Mo hown hK hP 0 rfl rfl 26 (by decide) (hG _ k_549) (fun _ h9 => h9) rfl d_Mo_currency_130 ?_
                refine lv_bipush (v := 10) hx hb d_Mo_currency_133 (by decide) ?_
                refine lv_iload_n hx hb d_Mo_currency_135 rfl (lv_at hl 2 rfl) ?_
                refine lv_imul hx hb d_Mo_currency_136 ?_
                refine lv_topI (y := nI (10 * k)) (pk_mul 10 k) ?_
                refine lv_iload hx hb d_Mo_currency_137 (lv_at hl 0 rfl) ?_
                refine lv_iadd hx hb d_Mo_currency_139 ?_
                refine lv_topI (y := nI ((10 * k) + ((AN 18 k)))) (nI_add (10 * k) ((AN 18 k))) ?_
                refine lv_iload hx hb d_Mo_currency_140 (lv_at hl 5 rfl) ?_
                refine ra_iast (n := 100) (j := ((10 * k) + ((AN 18 k)))) (f := AI 21) hx hb hK hP hD hS 21 20 rfl rfl (by omega) (by decide) d_Mo_currency_142 (fun H locs hP hD hS => ?_)
                have hP : va_P (dC, dI) classes (mw ad cA 0 yr nf no nt bd nb fl (va_up (va_up (va_up AI 19 (va_up (AI 19) ((10 * k) + ((AN 18 k))) d0)) 20 (va_up (AI 20) ((10 * k) + ((AN 18 k))) u0)) 21 (va_up (AI 21) ((10 * k) + ((AN 18 k))) v0)) AN AB AL) H := hP
                have hD : va_D A (mw ad cA 0 yr nf no nt bd nb fl (va_up (va_up (va_up AI 19 (va_up (AI 19) ((10 * k) + ((AN 18 k))) d0)) 20 (va_up (AI 20) ((10 * k) + ((AN 18 k))) u0)) 21 (va_up (AI 21) ((10 * k) + ((AN 18 k))) v0)) AN AB AL) := hD
                refine lv_aload_n hx hb d_Mo_currency_143 rfl (lv_at hl 1 rfl) ?_
                refine va_get (D := (dC, dI)) (ci := 7) (v := .ref (ad 18)) (C := R_Mo) (T := F_Mo) (N := 31) hx hb hG iG_Mo hown hK hP 0 rfl rfl 23 (by decide) (hG _ k_546) (fun _ h9 => h9) rfl d_Mo_currency_144 ?_
                refine lv_iload_n hx hb d_Mo_currency_147 rfl (lv_at hl 2 rfl) ?_
                refine lv_dup2_11 hx hb d_Mo_currency_148 rfl rfl ?_
                refine rn_iald (n := 10) (j := k) (g := AN 18) hx hb hK hP 18 17 rfl rfl (by omega) (by decide) d_Mo_currency_149 ?_
                refine lv_iconst (v := 1) hx hb d_Mo_currency_150 (by decide) ?_
                refine lv_iadd hx hb d_Mo_currency_151 ?_
                refine lv_topI (y := nI (((AN 18 k)) + 1)) (nI_add ((AN 18 k)) 1) ?_
                refine rn_iast (n := 10) (j := k) (g := AN 18) (b := (((AN 18 k)) + 1)) hx hb hK hP hD hS 18 17 rfl rfl (by omega) (by decide) d_Mo_currency_152 (fun H locs hP hD hS => ?_)
                have hP : va_P (dC, dI) classes (mw ad cA 0 yr nf no nt bd nb fl (va_up (va_up (va_up AI 19 (va_up (AI 19) ((10 * k) + ((AN 18 k))) d0)) 20 (va_up (AI 20) ((10 * k) + ((AN 18 k))) u0)) 21 (va_up (AI 21) ((10 * k) + ((AN 18 k))) v0)) (va_up AN 18 (va_up (AN 18) k (((AN 18 k)) + 1))) AB AL) H := hP
                have hD : va_D A (mw ad cA 0 yr nf no nt bd nb fl (va_up (va_up (va_up AI 19 (va_up (AI 19) ((10 * k) + ((AN 18 k))) d0)) 20 (va_up (AI 20) ((10 * k) + ((AN 18 k))) u0)) 21 (va_up (AI 21) ((10 * k) + ((AN 18 k))) v0)) (va_up AN 18 (va_up (AN 18) k (((AN 18 k)) + 1))) AB AL) := hD
                refine lv_iconst (v := 1) hx hb d_Mo_currency_153 (by decide) ?_
                exact W.iret (v := 1) hx hb hr (fun t ht hW => ⟨⟨_, (0, yr, nf, no, nt, bd, nb, fl, va_up (va_up (va_up AI 19 (va_up (AI 19) ((10 * k) + ((AN 18 k))) d0)) 20 (va_up (AI 20) ((10 * k) + ((AN 18 k))) u0)) 21 (va_up (AI 21) ((10 * k) + ((AN 18 k))) v0), va_up AN 18 (va_up (AN 18) k (((AN 18 k)) + 1)), AB, AL), rfl, (by simp [m_currency, ixn, bI, ek, c_2, c_4, c_6, c_8, c_9, h_pos, c_11, c_12] <;> (repeat' apply And.intro) <;> rfl), by rw [ht]; exact hP, va_K.moved hW.alike hK, hD⟩, hS.F ht⟩) hS.2.2 d_Mo_currency_154
              · rw [nI_10 hrk] at c_12
                refine lv_bipush (v := (-4)) hx hb d_Mo_currency_100 (by decide) ?_
                exact W.iret (v := (-4)) hx hb hr (fun t ht hW => ⟨⟨_, (0, yr, nf, no, nt, bd, nb, fl, AI, AN, AB, AL), rfl, (by unfold m_currency; simp only [ixn, ek]; rw [if_neg (by simp [c_2, c_4, c_6, c_8, c_9, h_pos, c_11]), if_neg (by simp [c_2, c_4, c_6, c_8, c_9, h_pos, c_11]), if_neg (by simp [c_2, c_4, c_6, c_8, c_9, h_pos, c_11]), if_pos c_12]), by rw [ht]; exact hP, va_K.moved hW.alike hK, hD⟩, hS.F ht⟩) hS.2.2 d_Mo_currency_102
            · rw [Int32.not_lt] at c_11
              refine lv_bipush (v := (-3)) hx hb d_Mo_currency_90 (by decide) ?_
              exact W.iret (v := (-3)) hx hb hr (fun t ht hW => ⟨⟨_, (0, yr, nf, no, nt, bd, nb, fl, AI, AN, AB, AL), rfl, (by simp [m_currency, ixn, bI, ek, c_2, c_4, c_6, c_8, c_9, h_pos, c_11] <;> (repeat' apply And.intro) <;> rfl), by rw [ht]; exact hP, va_K.moved hW.alike hK, hD⟩, hS.F ht⟩) hS.2.2 d_Mo_currency_92
        · refine lv_bipush (v := (-2)) hx hb d_Mo_currency_56 (by decide) ?_
          exact W.iret (v := (-2)) hx hb hr (fun t ht hW => ⟨⟨_, (0, yr, nf, no, nt, bd, nb, fl, AI, AN, AB, AL), rfl, (by simp [m_currency, ixn, bI, ek, c_2, c_4, c_6, c_8] <;> (repeat' apply And.intro) <;> rfl), by rw [ht]; exact hP, va_K.moved hW.alike hK, hD⟩, hS.F ht⟩) hS.2.2 d_Mo_currency_58
  · refine lv_iconst (v := (-1)) hx hb d_Mo_currency_17 (by decide) ?_
    exact W.iret (v := (-1)) hx hb hr (fun t ht hW => ⟨⟨_, (0, yr, nf, no, nt, bd, nb, fl, AI, AN, AB, AL), rfl, (by simp [m_currency, ixn, bI, c_2] <;> (repeat' apply And.intro) <;> rfl), by rw [ht]; exact hP, va_K.moved hW.alike hK, hD⟩, hS.F ht⟩) hS.2.2 d_Mo_currency_18
