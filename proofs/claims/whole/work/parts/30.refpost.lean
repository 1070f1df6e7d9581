theorem tot_step (AI : Nat → Nat → Int32) (nb k : Nat) : m_tot AI nb - m_tot AI (k + 1) + (AI 23 k).toInt64 = m_tot AI nb - m_tot AI k := by
  have : m_tot AI (k + 1) = m_tot AI k + (AI 23 k).toInt64 := rfl
  rw [this]
  grind
theorem fst_t {P : Nat → Bool} {nb k : Nat} (hk : k < nb) (h : P k = true) : fst_ P (nb - k) k = some k := by
  rw [show nb - k = (nb - (k + 1)) + 1 by omega]
  simp [fst_, h]
theorem fst_f {P : Nat → Bool} {nb k : Nat} (hk : k < nb) (h : P k = false) : fst_ P (nb - k) k = fst_ P (nb - (k + 1)) (k + 1) := by
  rw [show nb - k = (nb - (k + 1)) + 1 by omega]
  simp [fst_, h]
theorem fst_lt {P : Nat → Bool} : ∀ {d k r : Nat}, fst_ P d k = some r → k ≤ r ∧ r < k + d ∧ P r = true
  | 0, k, r, h => by simp [fst_] at h
  | d + 1, k, r, h => by
    simp only [fst_] at h
    split at h
    · cases h; exact ⟨Nat.le_refl _, by omega, by assumption⟩
    · obtain ⟨h1, h2, h3⟩ := fst_lt h; exact ⟨by omega, by omega, h3⟩
theorem up_id {α : Type} (F : Nat → α) (k : Nat) : va_up F k (F k) = F := by
  funext j
  unfold va_up
  split
  · simp [*]
  · rfl
theorem up_up {α : Type} (F : Nat → α) (k : Nat) (x y : α) : va_up (va_up F k x) k y = va_up F k y := bx_uu F k x y
theorem bad_none {AI : Nat → Nat → Int32} {AN : Nat → Nat → Nat} {AL : Nat → Nat → Int64} {no nb : Nat} (h : fst_ (m_short AI AN AL no nb) nb 0 = none) (h0 : m_tot AI nb = 0) : m_bad AI AN AL no nb = none := by simp [m_bad, h, h0]
theorem bad_sum {AI : Nat → Nat → Int32} {AN : Nat → Nat → Nat} {AL : Nat → Nat → Int64} {no nb : Nat} (h : fst_ (m_short AI AN AL no nb) nb 0 = none) (h0 : ¬ m_tot AI nb = 0) : m_bad AI AN AL no nb = some (nb - 1) := by simp [m_bad, h, h0]
theorem bad_some {AI : Nat → Nat → Int32} {AN : Nat → Nat → Nat} {AL : Nat → Nat → Int64} {no nb r : Nat} (h : fst_ (m_short AI AN AL no nb) nb 0 = some r) : m_bad AI AN AL no nb = some r := by simp [m_bad, h]

theorem post_s (AI : Nat → Nat → Int32) (AN : Nat → Nat → Nat) (AL : Nat → Nat → Int64) (i : Nat) : va_up AL 2 (m_posted AI AN (AL 2) (i + 1)) = va_up (va_up AL 2 (m_posted AI AN (AL 2) i)) 2 (va_up (m_posted AI AN (AL 2) i) (AN 22 i) (m_posted AI AN (AL 2) i (AN 22 i) + (AI 23 i).toInt64)) := by
  rw [up_up]
  rfl

theorem d_Mo_post_0 : decode b_Mo_post 0 = .ok (.aload_n 0, 1) := by decide +kernel
theorem d_Mo_post_1 : decode b_Mo_post 1 = .ok (.iconst 0, 1) := by decide +kernel
theorem d_Mo_post_2 : decode b_Mo_post 2 = .ok (.putfield 91, 3) := by decide +kernel
theorem d_Mo_post_5 : decode b_Mo_post 5 = .ok (.aload_n 0, 1) := by decide +kernel
theorem d_Mo_post_6 : decode b_Mo_post 6 = .ok (.getfield 164, 3) := by decide +kernel
theorem d_Mo_post_9 : decode b_Mo_post 9 = .ok (.istore_n 1, 1) := by decide +kernel
theorem d_Mo_post_10 : decode b_Mo_post 10 = .ok (.lconst 0, 1) := by decide +kernel
theorem d_Mo_post_11 : decode b_Mo_post 11 = .ok (.lstore_n 2, 1) := by decide +kernel
theorem d_Mo_post_12 : decode b_Mo_post 12 = .ok (.iconst (-1), 1) := by decide +kernel
theorem d_Mo_post_13 : decode b_Mo_post 13 = .ok (.istore 4, 2) := by decide +kernel
theorem d_Mo_post_15 : decode b_Mo_post 15 = .ok (.iload_n 1, 1) := by decide +kernel
theorem d_Mo_post_16 : decode b_Mo_post 16 = .ok (.iconst 1, 1) := by decide +kernel
theorem d_Mo_post_17 : decode b_Mo_post 17 = .ok (.isub, 1) := by decide +kernel
theorem d_Mo_post_18 : decode b_Mo_post 18 = .ok (.istore 5, 2) := by decide +kernel
theorem d_Mo_post_20 : decode b_Mo_post 20 = .ok (.iload 5, 2) := by decide +kernel
theorem d_Mo_post_22 : decode b_Mo_post 22 = .ok (.ifCond .lt 57, 3) := by decide +kernel
theorem d_Mo_post_25 : decode b_Mo_post 25 = .ok (.lload_n 2, 1) := by decide +kernel
theorem d_Mo_post_26 : decode b_Mo_post 26 = .ok (.aload_n 0, 1) := by decide +kernel
theorem d_Mo_post_27 : decode b_Mo_post 27 = .ok (.getfield 82, 3) := by decide +kernel
theorem d_Mo_post_30 : decode b_Mo_post 30 = .ok (.iload 5, 2) := by decide +kernel
theorem d_Mo_post_32 : decode b_Mo_post 32 = .ok (.iaload, 1) := by decide +kernel
theorem d_Mo_post_33 : decode b_Mo_post 33 = .ok (.i2l, 1) := by decide +kernel
theorem d_Mo_post_34 : decode b_Mo_post 34 = .ok (.ladd, 1) := by decide +kernel
theorem d_Mo_post_35 : decode b_Mo_post 35 = .ok (.lstore_n 2, 1) := by decide +kernel
theorem d_Mo_post_36 : decode b_Mo_post 36 = .ok (.aload_n 0, 1) := by decide +kernel
theorem d_Mo_post_37 : decode b_Mo_post 37 = .ok (.aload_n 0, 1) := by decide +kernel
theorem d_Mo_post_38 : decode b_Mo_post 38 = .ok (.getfield 79, 3) := by decide +kernel
theorem d_Mo_post_41 : decode b_Mo_post 41 = .ok (.iload 5, 2) := by decide +kernel
theorem d_Mo_post_43 : decode b_Mo_post 43 = .ok (.iaload, 1) := by decide +kernel
theorem d_Mo_post_44 : decode b_Mo_post 44 = .ok (.invokevirtual 130, 3) := by decide +kernel
theorem d_Mo_post_47 : decode b_Mo_post 47 = .ok (.aload_n 0, 1) := by decide +kernel
theorem d_Mo_post_48 : decode b_Mo_post 48 = .ok (.aload_n 0, 1) := by decide +kernel
theorem d_Mo_post_49 : decode b_Mo_post 49 = .ok (.getfield 79, 3) := by decide +kernel
theorem d_Mo_post_52 : decode b_Mo_post 52 = .ok (.iload 5, 2) := by decide +kernel
theorem d_Mo_post_54 : decode b_Mo_post 54 = .ok (.iaload, 1) := by decide +kernel
theorem d_Mo_post_55 : decode b_Mo_post 55 = .ok (.invokevirtual 167, 3) := by decide +kernel
theorem d_Mo_post_58 : decode b_Mo_post 58 = .ok (.ladd, 1) := by decide +kernel
theorem d_Mo_post_59 : decode b_Mo_post 59 = .ok (.lconst 0, 1) := by decide +kernel
theorem d_Mo_post_60 : decode b_Mo_post 60 = .ok (.lcmp, 1) := by decide +kernel
theorem d_Mo_post_61 : decode b_Mo_post 61 = .ok (.ifCond .ge 12, 3) := by decide +kernel
theorem d_Mo_post_64 : decode b_Mo_post 64 = .ok (.aload_n 0, 1) := by decide +kernel
theorem d_Mo_post_65 : decode b_Mo_post 65 = .ok (.getfield 79, 3) := by decide +kernel
theorem d_Mo_post_68 : decode b_Mo_post 68 = .ok (.iload 5, 2) := by decide +kernel
theorem d_Mo_post_70 : decode b_Mo_post 70 = .ok (.iaload, 1) := by decide +kernel
theorem d_Mo_post_71 : decode b_Mo_post 71 = .ok (.istore 4, 2) := by decide +kernel
theorem d_Mo_post_73 : decode b_Mo_post 73 = .ok (.iinc 5 (-1), 3) := by decide +kernel
theorem d_Mo_post_76 : decode b_Mo_post 76 = .ok (.goto (-56), 3) := by decide +kernel
theorem d_Mo_post_79 : decode b_Mo_post 79 = .ok (.iload 4, 2) := by decide +kernel
theorem d_Mo_post_81 : decode b_Mo_post 81 = .ok (.ifCond .ge 19, 3) := by decide +kernel
theorem d_Mo_post_84 : decode b_Mo_post 84 = .ok (.lload_n 2, 1) := by decide +kernel
theorem d_Mo_post_85 : decode b_Mo_post 85 = .ok (.lconst 0, 1) := by decide +kernel
theorem d_Mo_post_86 : decode b_Mo_post 86 = .ok (.lcmp, 1) := by decide +kernel
theorem d_Mo_post_87 : decode b_Mo_post 87 = .ok (.ifCond .eq 13, 3) := by decide +kernel
theorem d_Mo_post_90 : decode b_Mo_post 90 = .ok (.aload_n 0, 1) := by decide +kernel
theorem d_Mo_post_91 : decode b_Mo_post 91 = .ok (.getfield 79, 3) := by decide +kernel
theorem d_Mo_post_94 : decode b_Mo_post 94 = .ok (.iload_n 1, 1) := by decide +kernel
theorem d_Mo_post_95 : decode b_Mo_post 95 = .ok (.iconst 1, 1) := by decide +kernel
theorem d_Mo_post_96 : decode b_Mo_post 96 = .ok (.isub, 1) := by decide +kernel
theorem d_Mo_post_97 : decode b_Mo_post 97 = .ok (.iaload, 1) := by decide +kernel
theorem d_Mo_post_98 : decode b_Mo_post 98 = .ok (.istore 4, 2) := by decide +kernel
theorem d_Mo_post_100 : decode b_Mo_post 100 = .ok (.iload 4, 2) := by decide +kernel
theorem d_Mo_post_102 : decode b_Mo_post 102 = .ok (.ifCond .lt 21, 3) := by decide +kernel
theorem d_Mo_post_105 : decode b_Mo_post 105 = .ok (.aload_n 0, 1) := by decide +kernel
theorem d_Mo_post_106 : decode b_Mo_post 106 = .ok (.iload 4, 2) := by decide +kernel
theorem d_Mo_post_108 : decode b_Mo_post 108 = .ok (.putfield 85, 3) := by decide +kernel
theorem d_Mo_post_111 : decode b_Mo_post 111 = .ok (.aload_n 0, 1) := by decide +kernel
theorem d_Mo_post_112 : decode b_Mo_post 112 = .ok (.iconst 0, 1) := by decide +kernel
theorem d_Mo_post_113 : decode b_Mo_post 113 = .ok (.putfield 164, 3) := by decide +kernel
theorem d_Mo_post_116 : decode b_Mo_post 116 = .ok (.aload_n 0, 1) := by decide +kernel
theorem d_Mo_post_117 : decode b_Mo_post 117 = .ok (.iconst 1, 1) := by decide +kernel
theorem d_Mo_post_118 : decode b_Mo_post 118 = .ok (.putfield 91, 3) := by decide +kernel
theorem d_Mo_post_121 : decode b_Mo_post 121 = .ok (.iconst 0, 1) := by decide +kernel
theorem d_Mo_post_122 : decode b_Mo_post 122 = .ok (.ireturn, 1) := by decide +kernel
theorem d_Mo_post_123 : decode b_Mo_post 123 = .ok (.iconst 0, 1) := by decide +kernel
theorem d_Mo_post_124 : decode b_Mo_post 124 = .ok (.istore 5, 2) := by decide +kernel
theorem d_Mo_post_126 : decode b_Mo_post 126 = .ok (.iload 5, 2) := by decide +kernel
theorem d_Mo_post_128 : decode b_Mo_post 128 = .ok (.iload_n 1, 1) := by decide +kernel
theorem d_Mo_post_129 : decode b_Mo_post 129 = .ok (.if_icmp .ge 32, 3) := by decide +kernel
theorem d_Mo_post_132 : decode b_Mo_post 132 = .ok (.aload_n 0, 1) := by decide +kernel
theorem d_Mo_post_133 : decode b_Mo_post 133 = .ok (.getfield 13, 3) := by decide +kernel
theorem d_Mo_post_136 : decode b_Mo_post 136 = .ok (.aload_n 0, 1) := by decide +kernel
theorem d_Mo_post_137 : decode b_Mo_post 137 = .ok (.getfield 79, 3) := by decide +kernel
theorem d_Mo_post_140 : decode b_Mo_post 140 = .ok (.iload 5, 2) := by decide +kernel
theorem d_Mo_post_142 : decode b_Mo_post 142 = .ok (.iaload, 1) := by decide +kernel
theorem d_Mo_post_143 : decode b_Mo_post 143 = .ok (.dup2, 1) := by decide +kernel
theorem d_Mo_post_144 : decode b_Mo_post 144 = .ok (.laload, 1) := by decide +kernel
theorem d_Mo_post_145 : decode b_Mo_post 145 = .ok (.aload_n 0, 1) := by decide +kernel
theorem d_Mo_post_146 : decode b_Mo_post 146 = .ok (.getfield 82, 3) := by decide +kernel
theorem d_Mo_post_149 : decode b_Mo_post 149 = .ok (.iload 5, 2) := by decide +kernel
theorem d_Mo_post_151 : decode b_Mo_post 151 = .ok (.iaload, 1) := by decide +kernel
theorem d_Mo_post_152 : decode b_Mo_post 152 = .ok (.i2l, 1) := by decide +kernel
theorem d_Mo_post_153 : decode b_Mo_post 153 = .ok (.ladd, 1) := by decide +kernel
theorem d_Mo_post_154 : decode b_Mo_post 154 = .ok (.lastore, 1) := by decide +kernel
theorem d_Mo_post_155 : decode b_Mo_post 155 = .ok (.iinc 5 1, 3) := by decide +kernel
theorem d_Mo_post_158 : decode b_Mo_post 158 = .ok (.goto (-32), 3) := by decide +kernel
theorem d_Mo_post_161 : decode b_Mo_post 161 = .ok (.aload_n 0, 1) := by decide +kernel
theorem d_Mo_post_162 : decode b_Mo_post 162 = .ok (.iconst 0, 1) := by decide +kernel
theorem d_Mo_post_163 : decode b_Mo_post 163 = .ok (.putfield 164, 3) := by decide +kernel
theorem d_Mo_post_166 : decode b_Mo_post 166 = .ok (.iload_n 1, 1) := by decide +kernel
theorem d_Mo_post_167 : decode b_Mo_post 167 = .ok (.ireturn, 1) := by decide +kernel
set_option maxHeartbeats 4000000 in
set_option maxRecDepth 100000 in
theorem lp_Mo_post1 {p : Program} {l : Launch} {e : Env} {s : State} {m : MethodId} {args : Array Value} {below : List Frame} {meth : Method} {c : Code} {Q : State → Prop} {H : Heap} {locs : List Loc} {dC : Nat → ClassId} {dI : Nat → Nat → Nat} {ad : Nat → Nat} {cA : Nat → ClassId} {th yr : Int32} {nf no nt : Nat} {bd : Int32} {nb : Nat} {fl : Int32} {AI : Nat → Nat → Int32} {AN : Nat → Nat → Nat} {AB : Nat → Nat → Bool} {AL : Nat → Nat → Int64} (hx : p.tables.exec = Jvm.exec) (hb : c.code = b_Mo_post) (hml : c.maxLocals = 6) (hown : s.vm.findClass R_Mo = some m.cls) (hts : ∀ w ∈ w_Mo_post, w.before args s = true) (hK : va_K (dC, dI) classes (mtys cA) s) (hN : NK s) (hP : va_P (dC, dI) classes (mw ad cA th yr nf no nt bd nb fl AI AN AB AL) H) (hnf : nf ≤ 30) (hno : no ≤ 300) (hnb : nb ≤ 20) (hbf : ∀ r, r < nb → AN 22 r < nf)
    (exit : ∀ ls : Array Slot, lv_has ls 6 [(5, .int (nI 0 - 1)), (4, .int (oI ((fst_ (m_short AI AN AL no nb) (nb - 0) 0).map (AN 22)))), (2, .long (m_tot AI nb - m_tot AI 0)), (1, .int (nI nb)), (0, .ref (ad 0))] → W p l e { frames := 2, cells := 0, slots := 0, locals := 45 } s m args below meth c H locs 0 0 Q (F0 m 79 ls [])) :
    ∀ k : Nat, k ≤ nb → ∀ ls : Array Slot, lv_has ls 6 [(5, .int (nI k - 1)), (4, .int (oI ((fst_ (m_short AI AN AL no nb) (nb - k) k).map (AN 22)))), (2, .long (m_tot AI nb - m_tot AI k)), (1, .int (nI nb)), (0, .ref (ad 0))] → W p l e { frames := 2, cells := 0, slots := 0, locals := 45 } s m args below meth c H locs 0 0 Q (F0 m 20 ls []) := by
  have hG := fun (w : Cond) (h : w ∈ wG) => hts w (List.mem_cons_of_mem _ h)
  intro k
  induction k with
  | zero =>
    intro hk ls hl
    refine lv_iload hx hb d_Mo_post_20 (lv_at hl 0 rfl) ?_
    refine lv_if_lt (tgt := 79) hx hb d_Mo_post_22 (by decide) (fun c_0 => ?_) (fun c_0 => ?_)
    · exact exit ls hl
    · exact absurd (by decide) c_0
  | succ k ih =>
    intro hk ls hl
    have hkb := hbf k (by omega)
    rw [nI_pred k] at hl
    refine lv_iload hx hb d_Mo_post_20 (lv_at hl 0 rfl) ?_
    refine lv_if_lt (tgt := 79) hx hb d_Mo_post_22 (by decide) (fun c_1 => ?_) (fun c_1 => ?_)
    · exact absurd c_1 (nI_pos (by omega))
    · refine lv_lload_n hx hb d_Mo_post_25 rfl (lv_at hl 2 rfl) ?_
      refine lv_aload_n hx hb d_Mo_post_26 rfl (lv_at hl 4 rfl) ?_
      refine va_get (D := (dC, dI)) (ci := 7) (v := .ref (ad 23)) (C := R_Mo) (T := F_Mo) (N := 31) hx hb hG iG_Mo hown hK hP 0 rfl rfl 29 (by decide) (hG _ k_552) (fun _ h9 => h9) rfl d_Mo_post_27 ?_
      refine lv_iload hx hb d_Mo_post_30 (lv_at hl 0 rfl) ?_
      refine ra_iald (n := 20) (j := k) (f := AI 23) hx hb hK hP 23 22 rfl rfl (by omega) (by decide) d_Mo_post_32 ?_
      refine lv_i2l hx hb d_Mo_post_33 rfl ?_
      refine lv_ladd hx hb d_Mo_post_34 ?_
      refine lv_topL (y := (m_tot AI nb - m_tot AI k)) (tot_step AI nb k) ?_
      refine lv_lstore_n (lv' := [(2, .long (m_tot AI nb - m_tot AI k)), (5, .int (nI k)), (4, .int (oI ((fst_ (m_short AI AN AL no nb) (nb - (k + 1)) (k + 1)).map (AN 22)))), (1, .int (nI nb)), (0, .ref (ad 0))]) hx hb d_Mo_post_35 rfl hl (by decide) rfl (fun ls hl => ?_)
      refine lv_aload_n hx hb d_Mo_post_36 rfl (lv_at hl 4 rfl) ?_
      refine lv_aload_n hx hb d_Mo_post_37 rfl (lv_at hl 4 rfl) ?_
      refine va_get (D := (dC, dI)) (ci := 7) (v := .ref (ad 22)) (C := R_Mo) (T := F_Mo) (N := 31) hx hb hG iG_Mo hown hK hP 0 rfl rfl 28 (by decide) (hG _ k_551) (fun _ h9 => h9) rfl d_Mo_post_38 ?_
      refine lv_iload hx hb d_Mo_post_41 (lv_at hl 1 rfl) ?_
      refine rn_iald (n := 20) (j := k) (g := AN 22) hx hb hK hP 22 21 rfl rfl (by omega) (by decide) d_Mo_post_43 ?_
      refine rd_calll (va_runV (As := [.int (nI ((AN 22 k)))]) (rest := []) ⟨hx, hb, hml, hown, hts⟩ (c_Mo_free l dC dI ad cA th yr nf no nt bd nb fl AI AN AB AL ((AN 22 k)) hno (by omega)) (cwV 1 hts (gd_V k_659 k_661 k_10 k_17 k_662) rfl rfl rfl (by decide +kernel) ⟨Nat.le_of_ble_eq_true rfl, Nat.le_of_ble_eq_true rfl⟩) (rd_preV 0 hK hN hP rfl rfl) rfl rfl hl.1 rfl (lv_room (Nat.le_of_ble_eq_true rfl)) d_Mo_post_44 ⟨Nat.zero_le _, Nat.zero_le _⟩) (fun r_2 hr_2 => ?_)
      subst hr_2
      refine lv_aload_n hx hb d_Mo_post_47 rfl (lv_at hl 4 rfl) ?_
      refine lv_aload_n hx hb d_Mo_post_48 rfl (lv_at hl 4 rfl) ?_
      refine va_get (D := (dC, dI)) (ci := 7) (v := .ref (ad 22)) (C := R_Mo) (T := F_Mo) (N := 31) hx hb hG iG_Mo hown hK hP 0 rfl rfl 28 (by decide) (hG _ k_551) (fun _ h9 => h9) rfl d_Mo_post_49 ?_
      refine lv_iload hx hb d_Mo_post_52 (lv_at hl 1 rfl) ?_
      refine rn_iald (n := 20) (j := k) (g := AN 22) hx hb hK hP 22 21 rfl rfl (by omega) (by decide) d_Mo_post_54 ?_
      refine rd_calll (va_runV (As := [.int (nI ((AN 22 k)))]) (rest := [.long (m_free AI AN AL no ((AN 22 k)))]) ⟨hx, hb, hml, hown, hts⟩ (c_Mo_batched l dC dI ad cA th yr nf no nt bd nb fl AI AN AB AL (nI ((AN 22 k))) hnb) (cwV 1 hts (gd_V k_715 k_717 k_12 k_17 k_718) rfl rfl rfl (by decide +kernel) ⟨Nat.le_of_ble_eq_true rfl, Nat.le_of_ble_eq_true rfl⟩) (rd_preV 0 hK hN hP rfl rfl) rfl rfl hl.1 rfl (lv_room (Nat.le_of_ble_eq_true rfl)) d_Mo_post_55 ⟨Nat.zero_le _, Nat.zero_le _⟩) (fun r_3 hr_3 => ?_)
      subst hr_3
      refine lv_ladd hx hb d_Mo_post_58 ?_
      refine lv_lconst (v := 0) hx hb d_Mo_post_59 (by decide) ?_
      refine lc_ge (tgt := 73) hx hb d_Mo_post_60 d_Mo_post_61 (by decide) (fun c_4 => ?_) (fun c_4 => ?_)
      · have hsh : m_short AI AN AL no nb k = false := by simp [m_short, Int64.not_lt.mpr c_4]
        rw [← fst_f (by omega) hsh] at hl
        refine lv_iinc (v := nI k - 1) (lv' := [(5, .int (nI k - 1)), (2, .long (m_tot AI nb - m_tot AI k)), (4, .int (oI ((fst_ (m_short AI AN AL no nb) (nb - k) k).map (AN 22)))), (1, .int (nI nb)), (0, .ref (ad 0))]) hx hb d_Mo_post_73 hl (k := 1) rfl (by rw [Int32.sub_eq_add_neg]; rfl) (by decide) rfl (fun ls hl => ?_)
        refine lv_goto (tgt := 20) hx hb d_Mo_post_76 (by decide) ?_
        exact ih (by omega) ls (lv_sub hl [0, 2, 1, 3, 4] rfl)
      · have hsh : m_short AI AN AL no nb k = true := by simp [m_short, Int64.not_le.mp c_4]
        refine lv_aload_n hx hb d_Mo_post_64 rfl (lv_at hl 4 rfl) ?_
        refine va_get (D := (dC, dI)) (ci := 7) (v := .ref (ad 22)) (C := R_Mo) (T := F_Mo) (N := 31) hx hb hG iG_Mo hown hK hP 0 rfl rfl 28 (by decide) (hG _ k_551) (fun _ h9 => h9) rfl d_Mo_post_65 ?_
        refine lv_iload hx hb d_Mo_post_68 (lv_at hl 1 rfl) ?_
        refine rn_iald (n := 20) (j := k) (g := AN 22) hx hb hK hP 22 21 rfl rfl (by omega) (by decide) d_Mo_post_70 ?_
        refine lv_topI (y := oI ((fst_ (m_short AI AN AL no nb) (nb - k) k).map (AN 22))) (by rw [fst_t (by omega) hsh]; rfl) ?_
        refine lv_istore (lv' := [(4, .int (oI ((fst_ (m_short AI AN AL no nb) (nb - k) k).map (AN 22)))), (2, .long (m_tot AI nb - m_tot AI k)), (5, .int (nI k)), (1, .int (nI nb)), (0, .ref (ad 0))]) hx hb d_Mo_post_71 hl (by decide) rfl (fun ls hl => ?_)
        refine lv_iinc (v := nI k - 1) (lv' := [(5, .int (nI k - 1)), (4, .int (oI ((fst_ (m_short AI AN AL no nb) (nb - k) k).map (AN 22)))), (2, .long (m_tot AI nb - m_tot AI k)), (1, .int (nI nb)), (0, .ref (ad 0))]) hx hb d_Mo_post_73 hl (k := 2) rfl (by rw [Int32.sub_eq_add_neg]; rfl) (by decide) rfl (fun ls hl => ?_)
        refine lv_goto (tgt := 20) hx hb d_Mo_post_76 (by decide) ?_
        exact ih (by omega) ls (lv_sub hl [0, 1, 2, 3, 4] rfl)
set_option maxHeartbeats 4000000 in
set_option maxRecDepth 100000 in
theorem lp_Mo_post2 {p : Program} {l : Launch} {e : Env} {s : State} {m : MethodId} {args : Array Value} {below : List Frame} {meth : Method} {c : Code} {Q : State → Prop} {A : Nat → Prop} {H0 : Heap} {dC : Nat → ClassId} {dI : Nat → Nat → Nat} {ad : Nat → Nat} {cA : Nat → ClassId} {th yr : Int32} {nf no nt : Nat} {bd : Int32} {nb : Nat} {fl : Int32} {AI : Nat → Nat → Int32} {AN : Nat → Nat → Nat} {AB : Nat → Nat → Bool} {AL : Nat → Nat → Int64} (hx : p.tables.exec = Jvm.exec) (hb : c.code = b_Mo_post) (hml : c.maxLocals = 6) (hown : s.vm.findClass R_Mo = some m.cls) (hts : ∀ w ∈ w_Mo_post, w.before args s = true) (hK : va_K (dC, dI) classes (mtys cA) s) (hN : NK s) (hnf : nf ≤ 30) (hnb : nb ≤ 20) (hbf : ∀ r, r < nb → AN 22 r < nf)
    (exit : ∀ (H : Heap) (locs : List Loc) (ls : Array Slot), va_P (dC, dI) classes (mw ad cA th yr nf no nt bd nb fl AI AN AB (va_up AL 2 (m_posted AI AN (AL 2) nb))) H → va_D A (mw ad cA th yr nf no nt bd nb fl AI AN AB (va_up AL 2 (m_posted AI AN (AL 2) nb))) → va_S A H0 H locs → lv_has ls 6 [(5, .int (nI nb)), (1, .int (nI nb)), (0, .ref (ad 0))] → W p l e { frames := 2, cells := 0, slots := 0, locals := 45 } s m args below meth c H locs 0 0 Q (F0 m 161 ls [])) :
    ∀ (n i : Nat), i ≤ nb → nb + 1 ≤ i + n → ∀ (H : Heap) (locs : List Loc) (ls : Array Slot), va_P (dC, dI) classes (mw ad cA th yr nf no nt bd nb fl AI AN AB (va_up AL 2 (m_posted AI AN (AL 2) i))) H → va_D A (mw ad cA th yr nf no nt bd nb fl AI AN AB (va_up AL 2 (m_posted AI AN (AL 2) i))) → va_S A H0 H locs → lv_has ls 6 [(5, .int (nI i)), (1, .int (nI nb)), (0, .ref (ad 0))] → W p l e { frames := 2, cells := 0, slots := 0, locals := 45 } s m args below meth c H locs 0 0 Q (F0 m 126 ls []) := by
  have hG := fun (w : Cond) (h : w ∈ wG) => hts w (List.mem_cons_of_mem _ h)
  intro n
  induction n with
  | zero =>
    intro i h1 h2
    omega
  | succ n ih =>
    intro i hi hin H locs ls hP hD hS hl
    refine lv_iload hx hb d_Mo_post_126 (lv_at hl 0 rfl) ?_
    refine lv_iload_n hx hb d_Mo_post_128 rfl (lv_at hl 1 rfl) ?_
    refine lv_icmp_ge (tgt := 161) hx hb d_Mo_post_129 (by decide) (fun c_1 => ?_) (fun c_1 => ?_)
    · obtain rfl : i = nb := by have := (nI_leI (by omega) (by omega)).mp c_1; omega
      exact exit H locs ls hP hD hS (lv_sub hl [0, 1, 2] rfl)
    · have hlt : i < nb := by have h9 := c_1; rw [nI_leI (by omega) (by omega)] at h9; omega
      have hib := hbf i hlt
      refine lv_aload_n hx hb d_Mo_post_132 rfl (lv_at hl 2 rfl) ?_
      refine va_get (D := (dC, dI)) (ci := 7) (v := .ref (ad 2)) (C := R_Mo) (T := F_Mo) (N := 31) hx hb hG iG_Mo hown hK hP 0 rfl rfl 4 (by decide) (hG _ k_527) (fun _ h9 => h9) rfl d_Mo_post_133 ?_
      refine lv_aload_n hx hb d_Mo_post_136 rfl (lv_at hl 2 rfl) ?_
      refine va_get (D := (dC, dI)) (ci := 7) (v := .ref (ad 22)) (C := R_Mo) (T := F_Mo) (N := 31) hx hb hG iG_Mo hown hK hP 0 rfl rfl 28 (by decide) (hG _ k_551) (fun _ h9 => h9) rfl d_Mo_post_137 ?_
      refine lv_iload hx hb d_Mo_post_140 (lv_at hl 0 rfl) ?_
      refine rn_iald (n := 20) (j := i) (g := AN 22) hx hb hK hP 22 21 rfl rfl (by omega) (by decide) d_Mo_post_142 ?_
      refine lv_dup2_11 hx hb d_Mo_post_143 rfl rfl ?_
      refine ra_lald (n := 30) (j := ((AN 22 i))) (f := (m_posted AI AN (AL 2) i)) hx hb hK hP 2 1 rfl rfl (by omega) (by decide) d_Mo_post_144 ?_
      refine lv_aload_n hx hb d_Mo_post_145 rfl (lv_at hl 2 rfl) ?_
      refine va_get (D := (dC, dI)) (ci := 7) (v := .ref (ad 23)) (C := R_Mo) (T := F_Mo) (N := 31) hx hb hG iG_Mo hown hK hP 0 rfl rfl 29 (by decide) (hG _ k_552) (fun _ h9 => h9) rfl d_Mo_post_146 ?_
      refine lv_iload hx hb d_Mo_post_149 (lv_at hl 0 rfl) ?_
      refine ra_iald (n := 20) (j := i) (f := AI 23) hx hb hK hP 23 22 rfl rfl (by omega) (by decide) d_Mo_post_151 ?_
      refine lv_i2l hx hb d_Mo_post_152 rfl ?_
      refine lv_ladd hx hb d_Mo_post_153 ?_
      refine ra_last (n := 30) (j := ((AN 22 i))) (f := (m_posted AI AN (AL 2) i)) hx hb hK hP hD hS 2 1 rfl rfl (by omega) (by decide) d_Mo_post_154 (fun H locs hP hD hS => ?_)
      have hP : va_P (dC, dI) classes (mw ad cA th yr nf no nt bd nb fl AI AN AB (va_up (va_up AL 2 (m_posted AI AN (AL 2) i)) 2 (va_up (m_posted AI AN (AL 2) i) ((AN 22 i)) (((m_posted AI AN (AL 2) i) ((AN 22 i))) + ((AI 23 i).toInt64))))) H := hP
      have hD : va_D A (mw ad cA th yr nf no nt bd nb fl AI AN AB (va_up (va_up AL 2 (m_posted AI AN (AL 2) i)) 2 (va_up (m_posted AI AN (AL 2) i) ((AN 22 i)) (((m_posted AI AN (AL 2) i) ((AN 22 i))) + ((AI 23 i).toInt64))))) := hD
      refine lv_iinc (v := nI (i + 1)) (lv' := [(5, .int (nI (i + 1))), (1, .int (nI nb)), (0, .ref (ad 0))]) hx hb d_Mo_post_155 hl (k := 0) rfl (nI_1 i) (by decide) rfl (fun ls hl => ?_)
      refine lv_goto (tgt := 126) hx hb d_Mo_post_158 (by decide) ?_
      exact ih (i + 1) (by omega) (by omega) H locs ls (by rw [post_s]; exact hP) (by rw [post_s]; exact hD) hS (lv_sub hl [0, 1, 2] rfl)
set_option maxHeartbeats 4000000 in
set_option maxRecDepth 100000 in
theorem c_Mo_post (l : Launch) (dC : Nat → ClassId) (dI : Nat → Nat → Nat) (ad : Nat → Nat) (cA : Nat → ClassId) (th yr : Int32) (nf no nt : Nat) (bd : Int32) (nb : Nat) (fl : Int32) (AI : Nat → Nat → Int32) (AN : Nat → Nat → Nat) (AB : Nat → Nat → Bool) (AL : Nat → Nat → Int64) (sz : Nat) (hI : InvM nf no nt nb AI AN) : Met l y_Mo_post w_Mo_post { frames := 2, cells := 0, slots := 0, locals := 45 } (mu_P (dC, dI) classes (mtys cA) (mw ad cA th yr nf no nt bd nb fl AI AN AB AL) sz [.ref (ad 0)]) (va_Qi (fun r u => (r, u) = m_post (th, yr, nf, no, nt, bd, nb, fl, AI, AN, AB, AL) ) (mu_B (dC, dI) classes (mtys cA) (va_A (mw ad cA th yr nf no nt bd nb fl AI AN AB AL) sz) (mwS ad cA)) (va_A (mw ad cA th yr nf no nt bd nb fl AI AN AB AL) sz)) 0 0 (va_A (mw ad cA th yr nf no nt bd nb fl AI AN AB AL) sz) := by
  refine Met.ofW (cc := b_Mo_post) (maxL := 6) (ret := (some .int)) (by decide) rfl ?_
  intro p e s m args below meth c s₁ B hml hv
  obtain ⟨rfl, hsz, hP, hK, hD0, hN⟩ := hv
  have hx := B.exec
  have hb := B.bytes
  have hr := B.returns
  have hts := atoms_spec (ws := w_Mo_post) B.pre
  have hG := fun (w : Cond) (h : w ∈ wG) => hts w (List.mem_cons_of_mem _ h)
  have hown : s.vm.findClass R_Mo = some m.cls := findClass_of_methodNamed B.named
  have hlocks := B.notSynchronized
  subst hsz
  have hD := hD0.self (sz := s.heap.size)
  generalize hAe : va_A (mw ad cA th yr nf no nt bd nb fl AI AN AB AL) s.heap.size = A at hD ⊢
  have hA : ∀ q : Nat, s.heap.size ≤ q → A q := fun q h => by rw [← hAe]; exact Or.inr h
  have hS : va_S A s.heap s.heap [] := va_S.rf
  have hP : va_P (dC, dI) classes (mw ad cA th yr nf no nt bd nb fl AI AN AB AL) s.heap := hP
  have hl := lv_entry ([.ref (ad 0)]) (n := 6) (Nat.le_of_ble_eq_true rfl)
  rw [lg_entry_eq]
  generalize (lg_sl ([.ref (ad 0)]) ++ List.replicate (6 - (lg_sl ([.ref (ad 0)])).length) Slot.unset).toArray = ls at hl ⊢
  have hl : lv_has ls 6 [(0, .ref (ad 0))] := hl
  obtain ⟨hnf, hno, hnt, hnb, hfu, hft, hbf, hrw, hce, hdn⟩ := id hI
  refine lv_aload_n hx hb d_Mo_post_0 rfl (lv_at hl 0 rfl) ?_
  refine lv_iconst (v := 0) hx hb d_Mo_post_1 (by decide) ?_
  refine va_put (D := (dC, dI)) (ci := 7) (v := .int 0) (ty := .int) (C := R_Mo) (T := F_Mo) (N := 31) hx hb hG iG_Mo t_Mo t_Mo_ok n_Mo hown hK hP hD hS 0 rfl rfl 0 (by decide) (hG _ k_523) (fun _ h9 => h9) rfl (by decide +kernel) rfl rfl (Nat.le_of_ble_eq_true rfl) d_Mo_post_2 (fun H locs hP hD hS => ?_)
  have hP : va_P (dC, dI) classes (mw ad cA 0 yr nf no nt bd nb fl AI AN AB AL) H := hP
  have hD : va_D A (mw ad cA 0 yr nf no nt bd nb fl AI AN AB AL) := hD
  refine lv_aload_n hx hb d_Mo_post_5 rfl (lv_at hl 0 rfl) ?_
  refine va_get (D := (dC, dI)) (ci := 7) (v := .int (nI nb)) (C := R_Mo) (T := F_Mo) (N := 31) hx hb hG iG_Mo hown hK hP 0 rfl rfl 27 (by decide) (hG _ k_550) (fun _ h9 => h9) rfl d_Mo_post_6 ?_
  refine lv_istore_n (lv' := [(1, .int (nI nb)), (0, .ref (ad 0))]) hx hb d_Mo_post_9 rfl hl (by decide) rfl (fun ls hl => ?_)
  refine lv_lconst (v := 0) hx hb d_Mo_post_10 (by decide) ?_
  refine lv_lstore_n (lv' := [(2, .long 0), (1, .int (nI nb)), (0, .ref (ad 0))]) hx hb d_Mo_post_11 rfl hl (by decide) rfl (fun ls hl => ?_)
  refine lv_iconst (v := (-1)) hx hb d_Mo_post_12 (by decide) ?_
  refine lv_istore (lv' := [(4, .int (-1)), (2, .long 0), (1, .int (nI nb)), (0, .ref (ad 0))]) hx hb d_Mo_post_13 hl (by decide) rfl (fun ls hl => ?_)
  refine lv_iload_n hx hb d_Mo_post_15 rfl (lv_at hl 2 rfl) ?_
  refine lv_iconst (v := 1) hx hb d_Mo_post_16 (by decide) ?_
  refine lv_isub hx hb d_Mo_post_17 ?_
  refine lv_istore (lv' := [(5, .int (nI nb - 1)), (4, .int (-1)), (2, .long 0), (1, .int (nI nb)), (0, .ref (ad 0))]) hx hb d_Mo_post_18 hl (by decide) rfl (fun ls hl => ?_)
  refine lp_Mo_post1 hx hb hml hown hts hK hN hP hnf hno hnb hbf (fun ls hl => ?_) nb (Nat.le_refl nb) ls ?_
  · have hz : m_tot AI nb - m_tot AI 0 = m_tot AI nb := by show m_tot AI nb - 0 = _; grind
    rw [hz] at hl
    simp only [Nat.sub_zero] at hl
    rcases hfs : fst_ (m_short AI AN AL no nb) nb 0 with _ | r
    · rw [hfs] at hl
      have hl : lv_has ls 6 [(4, .int (-1)), (2, .long (m_tot AI nb)), (1, .int (nI nb)), (0, .ref (ad 0))] := lv_sub hl [1, 2, 3, 4] rfl
      refine lv_iload hx hb d_Mo_post_79 (lv_at hl 0 rfl) ?_
      refine lv_if_ge (tgt := 100) hx hb d_Mo_post_81 (by decide) (fun c_1 => ?_) (fun c_1 => ?_)
      · exact absurd c_1 (by decide)
      · refine lv_lload_n hx hb d_Mo_post_84 rfl (lv_at hl 1 rfl) ?_
        refine lv_lconst (v := 0) hx hb d_Mo_post_85 (by decide) ?_
        refine lc_eq (tgt := 100) hx hb d_Mo_post_86 d_Mo_post_87 (by decide) (fun c_2 => ?_) (fun c_2 => ?_)
        · refine lv_iload hx hb d_Mo_post_100 (lv_at hl 0 rfl) ?_
          refine lv_if_lt (tgt := 123) hx hb d_Mo_post_102 (by decide) (fun c_3 => ?_) (fun c_3 => ?_)
          · refine lv_iconst (v := 0) hx hb d_Mo_post_123 (by decide) ?_
            refine lv_istore (lv' := [(5, .int 0), (4, .int (-1)), (2, .long (m_tot AI nb)), (1, .int (nI nb)), (0, .ref (ad 0))]) hx hb d_Mo_post_124 hl (by decide) rfl (fun ls hl => ?_)
            refine lp_Mo_post2 (th := 0) hx hb hml hown hts hK hN hnf hnb hbf (fun H locs ls hP hD hS hl => ?_) (nb + 1) 0 (by omega) (by omega) H locs ls (by rw [show va_up AL 2 (m_posted AI AN (AL 2) 0) = AL from up_id AL 2]; exact hP) (by rw [show va_up AL 2 (m_posted AI AN (AL 2) 0) = AL from up_id AL 2]; exact hD) hS (lv_sub hl [0, 3, 4] rfl)
            refine lv_aload_n hx hb d_Mo_post_161 rfl (lv_at hl 2 rfl) ?_
            refine lv_iconst (v := 0) hx hb d_Mo_post_162 (by decide) ?_
            refine lv_topI (y := nI 0) rfl ?_
            refine va_put (D := (dC, dI)) (ci := 7) (v := .int (nI 0)) (ty := .int) (C := R_Mo) (T := F_Mo) (N := 31) hx hb hG iG_Mo t_Mo t_Mo_ok n_Mo hown hK hP hD hS 0 rfl rfl 27 (by decide) (hG _ k_550) (fun _ h9 => h9) rfl (by decide +kernel) rfl rfl (Nat.le_of_ble_eq_true rfl) d_Mo_post_163 (fun H locs hP hD hS => ?_)
            have hP : va_P (dC, dI) classes (mw ad cA 0 yr nf no nt bd 0 fl AI AN AB (va_up AL 2 (m_posted AI AN (AL 2) nb))) H := hP
            have hD : va_D A (mw ad cA 0 yr nf no nt bd 0 fl AI AN AB (va_up AL 2 (m_posted AI AN (AL 2) nb))) := hD
            refine lv_iload_n hx hb d_Mo_post_166 rfl (lv_at hl 1 rfl) ?_
            exact W.iret (v := (nI nb)) hx hb hr (fun t ht hW => ⟨⟨_, (0, yr, nf, no, nt, bd, 0, fl, AI, AN, AB, (va_up AL 2 (m_posted AI AN (AL 2) nb))), rfl, (by unfold m_post; dsimp only; rw [bad_none hfs c_2] <;> rfl), by rw [ht]; exact hP, va_K.moved hW.alike hK, hD⟩, hS.F ht⟩) hS.2.2 d_Mo_post_167
          · exact absurd c_3 (by decide)
        · have hb1 : 1 ≤ nb := by
            rcases Nat.eq_zero_or_pos nb with z | z
            · exact absurd (by rw [z]; rfl) c_2
            · exact z
          have hrb := hbf (nb - 1) (by omega)
          refine lv_aload_n hx hb d_Mo_post_90 rfl (lv_at hl 3 rfl) ?_
          refine va_get (D := (dC, dI)) (ci := 7) (v := .ref (ad 22)) (C := R_Mo) (T := F_Mo) (N := 31) hx hb hG iG_Mo hown hK hP 0 rfl rfl 28 (by decide) (hG _ k_551) (fun _ h9 => h9) rfl d_Mo_post_91 ?_
          refine lv_iload_n hx hb d_Mo_post_94 rfl (lv_at hl 2 rfl) ?_
          refine lv_iconst (v := 1) hx hb d_Mo_post_95 (by decide) ?_
          refine lv_isub hx hb d_Mo_post_96 ?_
          refine lv_topI (y := nI (nb - 1)) (pk_sub (a := nb) (b := 1) (by omega)) ?_
          refine rn_iald (n := 20) (j := (nb - 1)) (g := AN 22) hx hb hK hP 22 21 rfl rfl (by omega) (by decide) d_Mo_post_97 ?_
          refine lv_istore (lv' := [(4, .int (nI ((AN 22 (nb - 1))))), (2, .long (m_tot AI nb)), (1, .int (nI nb)), (0, .ref (ad 0))]) hx hb d_Mo_post_98 hl (by decide) rfl (fun ls hl => ?_)
          refine lv_iload hx hb d_Mo_post_100 (lv_at hl 0 rfl) ?_
          refine lv_if_lt (tgt := 123) hx hb d_Mo_post_102 (by decide) (fun c_4 => ?_) (fun c_4 => ?_)
          · exact absurd c_4 (nI_pos (by omega))
          · refine lv_aload_n hx hb d_Mo_post_105 rfl (lv_at hl 3 rfl) ?_
            refine lv_iload hx hb d_Mo_post_106 (lv_at hl 0 rfl) ?_
            refine va_put (D := (dC, dI)) (ci := 7) (v := .int (nI ((AN 22 (nb - 1))))) (ty := .int) (C := R_Mo) (T := F_Mo) (N := 31) hx hb hG iG_Mo t_Mo t_Mo_ok n_Mo hown hK hP hD hS 0 rfl rfl 30 (by decide) (hG _ k_553) (fun _ h9 => h9) rfl (by decide +kernel) rfl rfl (Nat.le_of_ble_eq_true rfl) d_Mo_post_108 (fun H locs hP hD hS => ?_)
            have hP : va_P (dC, dI) classes (mw ad cA 0 yr nf no nt bd nb (nI ((AN 22 (nb - 1)))) AI AN AB AL) H := hP
            have hD : va_D A (mw ad cA 0 yr nf no nt bd nb (nI ((AN 22 (nb - 1)))) AI AN AB AL) := hD
            refine lv_aload_n hx hb d_Mo_post_111 rfl (lv_at hl 3 rfl) ?_
            refine lv_iconst (v := 0) hx hb d_Mo_post_112 (by decide) ?_
            refine lv_topI (y := nI 0) rfl ?_
            refine va_put (D := (dC, dI)) (ci := 7) (v := .int (nI 0)) (ty := .int) (C := R_Mo) (T := F_Mo) (N := 31) hx hb hG iG_Mo t_Mo t_Mo_ok n_Mo hown hK hP hD hS 0 rfl rfl 27 (by decide) (hG _ k_550) (fun _ h9 => h9) rfl (by decide +kernel) rfl rfl (Nat.le_of_ble_eq_true rfl) d_Mo_post_113 (fun H locs hP hD hS => ?_)
            have hP : va_P (dC, dI) classes (mw ad cA 0 yr nf no nt bd 0 (nI ((AN 22 (nb - 1)))) AI AN AB AL) H := hP
            have hD : va_D A (mw ad cA 0 yr nf no nt bd 0 (nI ((AN 22 (nb - 1)))) AI AN AB AL) := hD
            refine lv_aload_n hx hb d_Mo_post_116 rfl (lv_at hl 3 rfl) ?_
            refine lv_iconst (v := 1) hx hb d_Mo_post_117 (by decide) ?_
            refine va_put (D := (dC, dI)) (ci := 7) (v := .int 1) (ty := .int) (C := R_Mo) (T := F_Mo) (N := 31) hx hb hG iG_Mo t_Mo t_Mo_ok n_Mo hown hK hP hD hS 0 rfl rfl 0 (by decide) (hG _ k_523) (fun _ h9 => h9) rfl (by decide +kernel) rfl rfl (Nat.le_of_ble_eq_true rfl) d_Mo_post_118 (fun H locs hP hD hS => ?_)
            have hP : va_P (dC, dI) classes (mw ad cA 1 yr nf no nt bd 0 (nI ((AN 22 (nb - 1)))) AI AN AB AL) H := hP
            have hD : va_D A (mw ad cA 1 yr nf no nt bd 0 (nI ((AN 22 (nb - 1)))) AI AN AB AL) := hD
            refine lv_iconst (v := 0) hx hb d_Mo_post_121 (by decide) ?_
            exact W.iret (v := 0) hx hb hr (fun t ht hW => ⟨⟨_, (1, yr, nf, no, nt, bd, 0, nI ((AN 22 (nb - 1))), AI, AN, AB, AL), rfl, (by unfold m_post; dsimp only; rw [bad_sum hfs c_2] <;> rfl), by rw [ht]; exact hP, va_K.moved hW.alike hK, hD⟩, hS.F ht⟩) hS.2.2 d_Mo_post_122
    · obtain ⟨-, hr2, -⟩ := fst_lt hfs
      have hrb := hbf r (by omega)
      rw [hfs] at hl
      have hl : lv_has ls 6 [(4, .int (nI (AN 22 r))), (2, .long (m_tot AI nb)), (1, .int (nI nb)), (0, .ref (ad 0))] := lv_sub hl [1, 2, 3, 4] rfl
      refine lv_iload hx hb d_Mo_post_79 (lv_at hl 0 rfl) ?_
      refine lv_if_ge (tgt := 100) hx hb d_Mo_post_81 (by decide) (fun c_5 => ?_) (fun c_5 => ?_)
      · refine lv_iload hx hb d_Mo_post_100 (lv_at hl 0 rfl) ?_
        refine lv_if_lt (tgt := 123) hx hb d_Mo_post_102 (by decide) (fun c_6 => ?_) (fun c_6 => ?_)
        · exact absurd c_6 (nI_pos (by omega))
        · refine lv_aload_n hx hb d_Mo_post_105 rfl (lv_at hl 3 rfl) ?_
          refine lv_iload hx hb d_Mo_post_106 (lv_at hl 0 rfl) ?_
          refine va_put (D := (dC, dI)) (ci := 7) (v := .int (nI (AN 22 r))) (ty := .int) (C := R_Mo) (T := F_Mo) (N := 31) hx hb hG iG_Mo t_Mo t_Mo_ok n_Mo hown hK hP hD hS 0 rfl rfl 30 (by decide) (hG _ k_553) (fun _ h9 => h9) rfl (by decide +kernel) rfl rfl (Nat.le_of_ble_eq_true rfl) d_Mo_post_108 (fun H locs hP hD hS => ?_)
          have hP : va_P (dC, dI) classes (mw ad cA 0 yr nf no nt bd nb (nI (AN 22 r)) AI AN AB AL) H := hP
          have hD : va_D A (mw ad cA 0 yr nf no nt bd nb (nI (AN 22 r)) AI AN AB AL) := hD
          refine lv_aload_n hx hb d_Mo_post_111 rfl (lv_at hl 3 rfl) ?_
          refine lv_iconst (v := 0) hx hb d_Mo_post_112 (by decide) ?_
          refine lv_topI (y := nI 0) rfl ?_
          refine va_put (D := (dC, dI)) (ci := 7) (v := .int (nI 0)) (ty := .int) (C := R_Mo) (T := F_Mo) (N := 31) hx hb hG iG_Mo t_Mo t_Mo_ok n_Mo hown hK hP hD hS 0 rfl rfl 27 (by decide) (hG _ k_550) (fun _ h9 => h9) rfl (by decide +kernel) rfl rfl (Nat.le_of_ble_eq_true rfl) d_Mo_post_113 (fun H locs hP hD hS => ?_)
          have hP : va_P (dC, dI) classes (mw ad cA 0 yr nf no nt bd 0 (nI (AN 22 r)) AI AN AB AL) H := hP
          have hD : va_D A (mw ad cA 0 yr nf no nt bd 0 (nI (AN 22 r)) AI AN AB AL) := hD
          refine lv_aload_n hx hb d_Mo_post_116 rfl (lv_at hl 3 rfl) ?_
          refine lv_iconst (v := 1) hx hb d_Mo_post_117 (by decide) ?_
          refine va_put (D := (dC, dI)) (ci := 7) (v := .int 1) (ty := .int) (C := R_Mo) (T := F_Mo) (N := 31) hx hb hG iG_Mo t_Mo t_Mo_ok n_Mo hown hK hP hD hS 0 rfl rfl 0 (by decide) (hG _ k_523) (fun _ h9 => h9) rfl (by decide +kernel) rfl rfl (Nat.le_of_ble_eq_true rfl) d_Mo_post_118 (fun H locs hP hD hS => ?_)
          have hP : va_P (dC, dI) classes (mw ad cA 1 yr nf no nt bd 0 (nI (AN 22 r)) AI AN AB AL) H := hP
          have hD : va_D A (mw ad cA 1 yr nf no nt bd 0 (nI (AN 22 r)) AI AN AB AL) := hD
          refine lv_iconst (v := 0) hx hb d_Mo_post_121 (by decide) ?_
          exact W.iret (v := 0) hx hb hr (fun t ht hW => ⟨⟨_, (1, yr, nf, no, nt, bd, 0, nI (AN 22 r), AI, AN, AB, AL), rfl, (by unfold m_post; dsimp only; rw [bad_some hfs] <;> rfl), by rw [ht]; exact hP, va_K.moved hW.alike hK, hD⟩, hS.F ht⟩) hS.2.2 d_Mo_post_122
      · exact absurd (nI_pos' (by omega)) c_5
  · rw [Nat.sub_self, show m_tot AI nb - m_tot AI nb = 0 by grind]
    exact lv_sub hl [0, 1, 2, 3, 4] rfl
