abbrev b_Law_law : ByteArray := code
/-- what the law may write: what was not there -/
def lw_A (s : State) : Nat → Prop := fun q => s.heap.size ≤ q
/-- what holds on all of the law's roads -/
def lw_C (p : Program) (l : Launch) (s : State) (m : MethodId) (c : Code) (b N0 : Nat) (xs : Nat → Int32) (dC : Nat → ClassId) (dI : Nat → Nat → Nat) (cA cs : Nat → ClassId) (k3 : ClassId) : Prop :=
  p.tables.exec = Jvm.exec ∧ c.code = b_Law_law ∧ c.maxLocals = 7 ∧ s.vm.findClass R_Law = some m.cls ∧ (∀ w ∈ (Cond.initialized R_Law :: wG), w.before #[Value.ref b] s = true) ∧ va_X b N0 xs s s.heap ∧ b < s.heap.size ∧ N0 ≤ 2561 ∧ l.flags = pinnedFlags ++ [noTraceFlag] ∧
  va_K (dC, dI) classes (mtys cA) s ∧ va_K (dC, dI) classes (ctys cs) s ∧ va_K (dC, dI) classes [(k3, .long)] s ∧ NK s ∧ XK s
theorem k_436 : Cond.codeWith y_Law_post b_Law_post 3 (some .int) [(0, 8, 11, 13)] ∈ wG := wG_in 436 (by decide +kernel) rfl
theorem lp_ws : ∀ w ∈ w_Law_post, w ∈ wG := fun w h => (List.mem_cons.mp h).elim (fun q => q ▸ k_436) id
theorem lp_len : ∀ sig, parseMethodDescriptor y_Law_post.desc = some sig → 2 = sig.parameters.length := by
  intro sig h
  have h2 : (parseMethodDescriptor y_Law_post.desc).map (fun d => d.parameters.length) = some 2 := by decide +kernel
  rw [h] at h2
  exact (Option.some.inj h2).symm
theorem lw_fitC {cells mc : Nat} (h : cells + 2 ≤ 601024) (hm : mc ≤ 2) : cells + mc ≤ room_1.cells := by
  show cells + mc ≤ 601024
  omega
theorem lw_fitS {slots ms : Nat} (h : slots + 11 ≤ 7293000) (hm : ms ≤ 11) : slots + ms ≤ room_1.slots := by
  show slots + ms ≤ 7293000
  omega
theorem lw_fitC2 {cells mc : Nat} (h : cells + 2 ≤ 601024) (hm : mc ≤ 2) : cells + mc + 0 ≤ room_1.cells := lw_fitC (cells := cells) (mc := mc) h hm
theorem lw_fitS2 {slots ms : Nat} (h : slots + 11 ≤ 7293000) (hm : ms ≤ 11) : slots + ms + 0 ≤ room_1.slots := lw_fitS (slots := slots) (ms := ms) h hm
theorem lw_old {s U : State} {H : Heap} {locs : List Loc} (hS : va_S (lw_A s) s.heap H locs) (hU : U.heap = H) {q : Nat} {x : Cell} (hq : s.heap[q]? = some x) : U.heap[q]? = some x := by
  have hlt : q < s.heap.size := (Array.getElem?_eq_some_iff.mp hq).1
  rw [hU, hS.2.1 q hlt (Nat.not_le.mpr hlt)]
  exact hq
theorem lw_cmp {N0 i : Nat} (h1 : N0 ≤ 2561) (h2 : i ≤ 4000) : nI N0 - 5 < nI i ↔ N0 < i + 5 := by
  have h5 : (nI N0 - 5).toInt = (N0 : Int) - 5 := pk_sub_toInt (a := N0) (b := 5) (by omega) (by decide)
  rw [Int32.lt_iff_toInt_lt, h5, nI_toInt (by omega)]
  omega
theorem CS.inv {cs : Nat → ClassId} {o : Nat} {th yr : Int32} {nf no nt : Nat} {bd : Int32} {nb : Nat} {fl : Int32} {AI : Nat → Nat → Int32} {AN : Nat → Nat → Nat} {AB : Nat → Nat → Bool} {AL : Nat → Nat → Int64} {L : List Nat} {f : Nat → va_E} (h : CS cs o (th, yr, nf, no, nt, bd, nb, fl, AI, AN, AB, AL) L f) : InvM nf no nt nb AI AN := by
  obtain ⟨n, ad, e, bl, rx, -, -, -, h, -⟩ := h
  exact h
theorem c_FB_failC (l : Launch) (dC : Nat → ClassId) (dI : Nat → Nat → Nat) (cs : Nat → ClassId) (o : Nat) (th yr : Int32) (nf no nt : Nat) (bd : Int32) (nb : Nat) (fl : Int32) (AI : Nat → Nat → Int32) (AN : Nat → Nat → Nat) (AB : Nat → Nat → Bool) (AL : Nat → Nat → Int64) (L : List Nat) (f : Nat → va_E) (hCS : CS cs o (th, yr, nf, no, nt, bd, nb, fl, AI, AN, AB, AL) L f) : Met l y_FB_failing w_FB_failing { frames := 0, cells := 0, slots := 0, locals := 0 } (rd_P (dC, dI) classes (ctys cs) (va_pl L f) [.ref o]) (vp_Si (fun r => r = (m_failing (th, yr, nf, no, nt, bd, nb, fl, AI, AN, AB, AL)).1)) 0 0 (fun _ => False) := by
  obtain ⟨n, ad, e, bl, rx, rfl, hC, hR, -⟩ := hCS
  have h7 := hR.1.1
  have h := hC.1 0 0 (by rw [h7]; decide)
  exact c_FB_failing l dC dI (ctys cs) L f (ad 0 0) _ _ _ _ _ _ _ _ _ _ _ h.1 (h.2.trans hR.2.1)
section TL
variable {p : Program} {l : Launch} {e : Env} {R : Room} {s : State} {m : MethodId} {args : Array Value} {below : List Frame} {meth : Method} {c : Code} {H : Heap} {locs : List Loc} {cells slots : Nat} {Q : State → Prop}
variable {pc : Nat} {ls : Array Slot} {rest st0 : List Value} {a : Array Value} {A : Nat → Prop} {H0 : Heap} {mc ms : Nat} {D : va_G} {cl : List vw_C} {wa wc wb : va_W}
/-- the law's call of its own post -/
theorem tl_call {cs : Nat → ClassId} {o q3 : Nat} {k3 : ClassId} {v : Int32 × MS} (hr : th_Run p l e R s m args below meth c H locs cells slots mc ms (F0 m pc ls st0) rest (lp_Q D cl (va_A wc H.size) cs o q3 k3 v a) (va_A wc H.size)) (hP : va_P D cl (wc ++ wb) H) (hD : va_D A (wc ++ wb)) (hS : va_S A H0 H locs) (hA : ∀ q, H0.size ≤ q → A q)
    (kk : ∀ (u : List Nat × (Nat → va_E)) (ov : Nat → Int64) (H1 : Heap) (locs1 : List Loc), (v.2.1 = 0 → ov 0 = v.1.toInt64) → (v.2.1 = 0 ∨ v.2.1 = 1) → CS cs o v.2 u.1 u.2 → va_P D cl (((q3, .inl (k3, 1, .inr (.inl ov))) :: va_pl u.1 u.2) ++ wb) H1 → va_D A (((q3, .inl (k3, 1, .inr (.inl ov))) :: va_pl u.1 u.2) ++ wb) → va_S A H0 H1 locs1 → W p l e R s m args below meth c H1 locs1 (cells + mc) (slots + ms) Q (F0 m (pc + 3) ls (.int v.2.1 :: rest))) : W p l e R s m args below meth c H locs cells slots Q (F0 m pc ls st0) := by
  intro T hT X
  have hfr : ∀ q, va_A wc H.size q → A q := mu_free (pt_D hD).1 hS hA
  obtain ⟨oc, st₀, t, T', L, h0, X', hL, e1, e2, ⟨⟨rfl, u, ov, k1, k2, hcs, hB1, hB3⟩, hF⟩, hret, -⟩ := hr T hT X
  obtain ⟨hS1, hk1⟩ := tp_S h0 e1 hF hL hfr hS
  rw [← e1] at hB1
  obtain ⟨j1, j2⟩ := pt_join (wa := []) hP hD hk1 hfr hB1 hB3
  obtain ⟨t2, a1, b1⟩ := kk u ov T'.heap (locs ++ L) k1 k2 hcs j1 j2 hS1 T' rfl X'
  exact ⟨t2, hret _ rfl t2 a1, b1⟩
/-- a constructor behind which further arrays lie, beside the rest of the world -/
theorem pi_callv {S : Type} {wf : S → va_W} {tf : S → List (ClassId × FieldType)} {post : S → Prop} (hr : va_Run p l e R s m args below meth c H locs cells slots mc ms (F0 m pc ls st0) rest (va_Qv post (fun u t => va_P D cl (wf u) t.heap ∧ va_K D cl (tf u) t ∧ va_D (va_A wc H.size) (wf u)) (va_A wc H.size) a) (va_A wc H.size)) (hP : va_P D cl (wa ++ wc) H) (hD : va_D A (wa ++ wc)) (hS : va_S A H0 H locs) (hA : ∀ q, H0.size ≤ q → A q)
    (kk : ∀ (u : S) (H1 : Heap) (locs1 : List Loc), post u → va_K D cl (tf u) s → va_P D cl (wa ++ wf u) H1 → va_D A (wa ++ wf u) → va_S A H0 H1 locs1 → W p l e R s m args below meth c H1 locs1 (cells + mc) (slots + ms) Q (F0 m (pc + 3) ls rest)) : W p l e R s m args below meth c H locs cells slots Q (F0 m pc ls st0) := by
  have hF := mu_free (pt_D hD).2.1 hS hA
  refine va_callv hr hS (fun q _ h => hF q h) hF (fun u t H1 locs1 ht hvm hw hB _ hk1 hS1 => ?_)
  obtain ⟨h1, h2, h3⟩ := hB
  rw [ht] at h1
  obtain ⟨j1, j2⟩ := pt_join (wb := []) (by rw [List.append_nil]; exact hP) (by rw [List.append_nil]; exact hD) hk1 hF h1 h3
  rw [List.append_nil] at j1 j2
  exact kk u H1 locs1 hw (va_K.moved hvm.symm h2) j1 j2 hS1
end TL
