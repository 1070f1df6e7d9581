section TY
variable {p : Program} {l : Launch} {e : Env} {R : Room} {s : State} {m : MethodId} {args : Array Value} {below : List Frame} {meth : Method} {c : Code} {H : Heap} {locs : List Loc} {cells slots : Nat} {Q : State → Prop} {cc : ByteArray} {pc : Nat} {ls : Array Slot}
/-- 'throw new IllegalStateException(..)' of FundBook: what was there stays, one cell of six slots is new -/
theorem th_raise {T : State} (X : Stand p l e R s m args below meth c T locs cells slots) (hfl : l.flags = pinnedFlags ++ [noTraceFlag]) (hexec : p.tables.exec = Jvm.exec) (hb : c.code = cc) (hml : ls.size = c.maxLocals) (hown : s.vm.findClass R_FB = some m.cls) (hlocks : meth.locks = false)
    (hG : ∀ w ∈ wG, w.before args s = true) (hX : XK s) (hH : ∀ (q : Nat) (x : Cell), x.vm.isStatics = true → s.heap[q]? = some x → T.heap[q]? = some x) (htab : c.exceptionTable.isEmpty = true)
    (hd0 : decode cc pc = .ok (.new 233, 3)) (hd3 : decode cc (pc + 3) = .ok (.dup, 1)) (hd4 : decode cc (pc + 4) = .ok (.ldc 235, 2)) (hd6 : decode cc (pc + 6) = .ok (.invokespecial 237, 3)) (hd9 : decode cc (pc + 9) = .ok (.athrow, 1))
    (hc : cells + 1 ≤ R.cells) (hs : slots + 6 ≤ R.slots) (hf : 5 < R.frames) (hlo : 82 ≤ R.locals) :
    ∃ (U : State) (a : Nat) (ce : Cell), Steps p.tables e below (T.setTop (F0 m pc ls [])) U ∧ U.status = .running ∧ Ended U below (.threw a) ∧ s.WarmedH U.vm ∧ s.sameButNew ({ U with vm := s.vm } : State) locs (cells + 1) (slots + 6) ∧
      T.heap.size ≤ U.heap.size ∧ (∀ q : Nat, q < T.heap.size → U.heap[q]? = T.heap[q]?) ∧ U.heap[a]? = some ce ∧ ce.vm.isStatics = false ∧ s.vm.findClass "java/lang/IllegalStateException" = some ce.cls ∧ s.vm.assignable ce.cls ce.cls = true := by
  have htr := Launch.traces_off hfl X.admits
  have X' := th_anew X hc hs
  obtain ⟨s', hs'⟩ : ∃ s' : State, s' = T.setFrames (.invoking m args :: below) := ⟨_, rfl⟩
  rw [← hs'] at X'
  have hv' : s'.vm = T.vm := by rw [hs']; rfl
  have hh' : s'.heap = T.heap := by rw [hs']; rfl
  have hW' : s.WarmedH s'.vm := by rw [hv']; exact X.warmed
  have hG' : ∀ w ∈ wG, w.before args s' = true := fun w hw => word_at hW' (good_of_word (wG_good hw).2) (hG w hw)
  have hX' : XK s' := XK.moved hW' (fun q x h1 h2 => by rw [hh']; exact hH q x h1 h2) hX
  have hown' : s'.vm.findClass R_FB = some m.cls := by rw [hW'.alike.findClass]; exact hown
  have hat : ∀ w ∈ xAt, w.before args s' = true := fun w hw => (xAt_in hw).elim (hG' w) (fun h => hX'.use h)
  have hst : (Cond.stringRef "FundBook" 235 "the batch can't be posted").before args s' = true := hX'.use (by simp [xW])
  obtain ⟨-, -, -, str, -, -, -, -, -, hev⟩ := Cond.stringRef_spec hown' hst
  have K : W p l e { frames := R.frames, cells := 1, slots := 6, locals := R.locals } s' m args below meth c T.heap [] 0 0 (fun U => U.status = .running ∧ ∃ (a : Nat) (ce : Cell), Ended U below (.threw a) ∧ s'.WarmedH U.vm ∧ s'.sameButNew ({ U with vm := s'.vm } : State) [] 1 6 ∧ U.heap[a]? = some ce ∧ ce.vm.isStatics = false ∧ s'.vm.findClass "java/lang/IllegalStateException" = some ce.cls ∧ s'.vm.assignable ce.cls ce.cls = true) (F0 m pc ls []) := by
    refine W.newc hexec hb hown' (hG' _ k_451) (hG' _ k_452) (hG' _ k_26) rfl hd0 (by simp) (by simp) (fun cC kC h1 h2 h3 h4 => ?_)
    refine W.eq (g2 := F0 m (pc + 3) ls [.ref T.heap.size]) rfl ?_
    refine lv_dup hexec hb hd3 rfl ?_
    refine th_ldcS hexec hb hown' hst hev hd4 ?_
    intro T2 hT2 X2
    obtain ⟨U, hsteps, hrun, hend, hWU, hsame, ce, hce, hO⟩ := X2.ctorThrowS hexec htr (own := "FundBook") (cls := "java/lang/IllegalStateException") (names := ["java/lang/RuntimeException", "java/lang/Exception"]) (ic := 237) hown' (by decide) (by decide) hat (fun x hx => by simp at hx)
      (a := T.heap.size) h1 h2 (by rw [hT2]; simp [freshCell]) (by rw [hh']; exact Nat.le_refl _) (msg := .ref str) rfl (g := F0 m (pc + 6) ls [.ref str, .ref T.heap.size, .ref T.heap.size]) rfl hml rfl rfl (rest := []) rfl
      (by rw [hb]; exact hd6) (by rw [hb]; exact hd9) (fun x hx => by
        have h0 : c.exceptionTable.toList = [] := by simpa [Array.isEmpty] using htab
        rw [h0] at hx; cases hx) (by simp; omega) (by simp [Value.category]; omega) hlocks
    exact ⟨U, hsteps, hrun, T.heap.size, ce, hend, hWU, hsame, hce, by rw [hO.vm]; rfl, hO.cls, hO.self⟩
  obtain ⟨U, hsteps, hrun, a, ce, hend, hWU, hsame, hce, hst2, hcl, hasg⟩ := K T rfl X'
  have hWT : T.WarmedH U.vm := by
    rw [hs'] at hWU
    exact hWU
  have hsT : T.sameButNew ({ U with vm := T.vm } : State) [] 1 6 := by
    rw [hs'] at hsame
    obtain ⟨e1, e2, e3, e4, e5, e6⟩ := hsame
    refine ⟨?_, e2, e3, e4, e5, e6⟩
    rw [State.setFrames_setFrames] at e1
    exact e1
  refine ⟨U, a, ce, hsteps, hrun, hend, State.WarmedH.trans X.warmed hWT, ?_, hsT.2.1, fun q hq => th_kept hsT hq, hce, hst2, by rw [← hW'.alike.findClass]; exact hcl, by rw [← hW'.alike.assignable]; exact hasg⟩
  have := X.same.trans (hsT.setVm s.vm)
  rw [List.append_nil] at this
  exact this
end TY
