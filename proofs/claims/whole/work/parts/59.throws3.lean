theorem x_static {s U : State} (hA : s.vm.Alike U.vm) (hH : ∀ (q : Nat) (x : Cell), x.vm.isStatics = true → s.heap[q]? = some x → U.heap[q]? = some x) {C nm d : String} {a a' : Array Value} (h : (Cond.isRef (.static C nm d)).before a s = true) : (Cond.isRef (.static C nm d)).before a' U = true := by
  have e1 := Term.eval_setVm (s := U) (vm' := s.vm) (args := a') (o := none) hA.symm (.static C nm d) [] rfl
  simp only [Cond.before, Cond.holds, Cond.value] at h ⊢
  rw [← e1]
  have e2 : (Term.static C nm d).eval a' (U.setVm s.vm) none [] (U.setVm s.vm) = (Term.static C nm d).eval a s none [] s := by
    cases hv : (Term.static C nm d).eval a s none [] s with
    | none => rw [hv] at h; simp at h
    | some v =>
      simp only [Term.eval, Option.bind_eq_bind, Option.bind_eq_some_iff] at hv
      obtain ⟨⟨c0, k, slot⟩, h1, st, h2, cell, h3, h4⟩ := hv
      have h1' : (U.setVm s.vm).fieldNamed? C nm d true = some (c0, k, slot) := h1
      dsimp only at h2 h4
      have his : cell.vm.isStatics = true := by
        cases hz : cell.vm.isStatics with
        | true => rfl
        | false => rw [hz] at h4; simp at h4
      have h3' : (U.setVm s.vm).heap[st]? = some cell := hH st cell his h3
      simp only [Term.eval, h1', Option.bind_eq_bind, Option.bind_some, h2, h3', h4]
  rw [e2]
  exact h
theorem x_lays {s U : State} (hA : s.vm.Alike U.vm) (hH : ∀ (q : Nat) (x : Cell), x.vm.isStatics = true → s.heap[q]? = some x → U.heap[q]? = some x) {C nm d : String} {a a' : Array Value} (h : (Cond.laysStatic C nm d).before a s = true) : (Cond.laysStatic C nm d).before a' U = true := by
  have e1 := Cond.value_setVm (s := U) (vm' := s.vm) (args := a') (o := none) hA.symm (.laysStatic C nm d) [] rfl
  simp only [Cond.before, Cond.holds] at h ⊢
  rw [← e1]
  simp only [Cond.value] at h ⊢
  have v1 : (U.setVm s.vm).vm = s.vm := rfl
  have v2 : (U.setVm s.vm).fieldFound? C nm d = s.fieldFound? C nm d := rfl
  have v3 : (U.setVm s.vm).heap = U.heap := rfl
  rw [v1, v2, v3]
  cases hf : s.vm.findClass C with
  | none => simp [hf] at h
  | some c0 =>
    cases hg : s.fieldFound? C nm d with
    | none => simp [hf, hg] at h
    | some r =>
      obtain ⟨c1, k, i, f⟩ := r
      simp only [hf, hg] at h ⊢
      cases hs : k.statics with
      | none => simp [hs] at h
      | some st =>
        simp only [hs, Option.bind_some] at h ⊢
        cases hc : s.heap[st]? with
        | none => simp [hc] at h
        | some cell =>
          rw [hc] at h
          have his : cell.vm.isStatics = true := by
            cases hz : cell.vm.isStatics with
            | true => rfl
            | false => simp [hz] at h
          rw [hH st cell his hc]
          exact h
/-- what a throw needs of the heap, of the constants and of the tables, beside the words that any state keeps -/
def xW : List Cond := [.stringRef "FundBook" 235 "the batch can't be posted", .isRef (.static Bundle.tN "UNASSIGNED_STACK" Bundle.steD), .isRef (.static Bundle.tN "SUPPRESSED_SENTINEL" Bundle.listD), .castable "java/lang/IllegalStateException" "java/lang/IllegalStateException",
  .declares ⟨"java/lang/RuntimeException", "<init>", "(Ljava/lang/String;)V"⟩, .declares ⟨"java/lang/Exception", "<init>", "(Ljava/lang/String;)V"⟩, .declares ⟨"java/lang/Throwable", "<init>", "(Ljava/lang/String;)V"⟩, .laysStatic Bundle.tN "UNASSIGNED_STACK" Bundle.steD, .laysStatic Bundle.tN "SUPPRESSED_SENTINEL" Bundle.listD]
def XK (U : State) : Prop := ∀ w ∈ xW, w.before #[] U = true
theorem x_move {s U : State} (hW : s.WarmedH U.vm) (hH : ∀ (q : Nat) (x : Cell), x.vm.isStatics = true → s.heap[q]? = some x → U.heap[q]? = some x) {a a' : Array Value} {w : Cond} (hw : w ∈ xW) (h : w.before a s = true) : w.before a' U = true := by
  have hA := hW.alike
  simp only [xW, List.mem_cons, List.not_mem_nil, or_false] at hw
  rcases hw with rfl | rfl | rfl | rfl | rfl | rfl | rfl | rfl | rfl
  · exact Cond.stringRef_warmed hW h
  · exact x_static hA hH h
  · exact x_static hA hH h
  · exact (Cond.castable_setVm (args := a) hA _ _).trans h
  · exact (Cond.declares_setVm (args := a) hA _).trans h
  · exact (Cond.declares_setVm (args := a) hA _).trans h
  · exact (Cond.declares_setVm (args := a) hA _).trans h
  · exact x_lays hA hH h
  · exact x_lays hA hH h
theorem XK.moved {s U : State} (hW : s.WarmedH U.vm) (hH : ∀ (q : Nat) (x : Cell), x.vm.isStatics = true → s.heap[q]? = some x → U.heap[q]? = some x) (h : XK s) : XK U := fun w hw => x_move hW hH hw (h w hw)
theorem XK.same {s U : State} (hv : U.vm = s.vm) (hh : U.heap = s.heap) (h : XK s) : XK U := XK.moved (s := s) (by rw [hv]; exact State.WarmedH.refl s) (fun q x _ hx => by rw [hh]; exact hx) h
theorem XK.use {s : State} (h : XK s) {a : Array Value} {w : Cond} (hw : w ∈ xW) : w.before a s = true := x_move (State.WarmedH.refl s) (fun _ _ _ h => h) hw (h w hw)

abbrev xAt : List Cond := Bundle.ownAtoms "FundBook" 237 "java/lang/IllegalStateException" ["java/lang/RuntimeException", "java/lang/Exception"]
theorem xIdx (i : Nat) (hi : i ∈ ([23, 473, 482, 484, 487, 489, 474, 475, 33, 34, 476, 481, 485, 505, 463, 506, 465, 507, 467, 477, 478, 479, 480, 469, 501, 502, 504, 469, 492, 493, 494, 495, 455, 495, 496, 497, 498, 457, 498, 499, 500, 501, 459, 491, 452, 453, 460, 461, 462, 464, 466, 468] : List Nat) ++ [472, 471, 470]) {w : Cond} (h : lw_tbl[i]? = some w) : w ∈ wG ∨ w ∈ xW := by
  have hk : (([23, 473, 482, 484, 487, 489, 474, 475, 33, 34, 476, 481, 485, 505, 463, 506, 465, 507, 467, 477, 478, 479, 480, 469, 501, 502, 504, 469, 492, 493, 494, 495, 455, 495, 496, 497, 498, 457, 498, 499, 500, 501, 459, 491, 452, 453, 460, 461, 462, 464, 466, 468] : List Nat) ++ [472, 471, 470]).all (fun i => (lw_tbl[i]?).all (fun w => goodWord w || decide (w ∈ xW))) = true := by decide +kernel
  have h1 := List.all_eq_true.mp hk i hi
  rw [h] at h1
  simp only [Option.all_some, Bool.or_eq_true, decide_eq_true_eq] at h1
  exact h1.imp (fun g => wG_in i h g) id
theorem xAt_eq : xAt = ([23, 473, 482, 484, 487, 489, 474, 475, 33, 34, 476, 481, 485, 505, 463, 506, 465, 507, 467, 477, 478, 479, 480, 469, 501, 502, 504, 469, 492, 493, 494, 495, 455, 495, 496, 497, 498, 457, 498, 499, 500, 501, 459, 491, 452, 453, 460, 461, 462, 464, 466, 468] : List Nat).filterMap (fun i => lw_tbl[i]?) ++ [.isRef (.static Bundle.tN "UNASSIGNED_STACK" Bundle.steD), .isRef (.static Bundle.tN "SUPPRESSED_SENTINEL" Bundle.listD)] ++ ([472, 471, 470] : List Nat).filterMap (fun i => lw_tbl[i]?) := by decide +kernel
theorem xAt_in {w : Cond} (h : w ∈ xAt) : w ∈ wG ∨ w ∈ xW := by
  rw [xAt_eq] at h
  rcases List.mem_append.mp h with h | h
  · rcases List.mem_append.mp h with h | h
    · obtain ⟨i, hi, hw⟩ := List.mem_filterMap.mp h
      exact xIdx i (List.mem_append_left _ hi) hw
    · refine Or.inr ?_
      simp only [List.mem_cons, List.not_mem_nil, or_false] at h
      rcases h with rfl | rfl <;> simp [xW]
  · obtain ⟨i, hi, hw⟩ := List.mem_filterMap.mp h
    exact xIdx i (List.mem_append_right _ hi) hw
