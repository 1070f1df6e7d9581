section TX
variable {p : Program} {l : Launch} {e : Env} {R : Room} {s : State} {m : MethodId} {args : Array Value} {below : List Frame} {meth : Method} {c : Code} {H : Heap} {locs : List Loc} {cells slots : Nat} {Q : State → Prop} {cc : ByteArray} {pc : Nat} {ls : Array Slot} {st : List Value}
theorem th_ldcS {own text : String} {index : Nat} {a : Addr} (hexec : p.tables.exec = Jvm.exec) (hb : c.code = cc) (hown : s.vm.findClass own = some m.cls) (hconst : (Cond.stringRef own index text).before args s = true) (hev : (Term.string own index).eval args s none [] s = some (.ref a)) (hdg : decode cc pc = .ok (.ldc index, 2))
    (kk : W p l e R s m args below meth c H locs cells slots Q (F0 m (pc + 2) ls (.ref a :: st))) : W p l e R s m args below meth c H locs cells slots Q (F0 m pc ls st) := fun T hT X => by
  obtain ⟨t, a1, b1⟩ := kk T hT X
  exact ⟨t, X.ldcString hexec hown hconst hev rfl (by rw [hb]; exact hdg) t a1, b1⟩
/-- the same walk, seen as one that begins here: nothing written, nothing made, the rest of the room -/
theorem th_anew {T : State} (X : Stand p l e R s m args below meth c T locs cells slots) {kc ks : Nat} (hc : cells + kc ≤ R.cells) (hs : slots + ks ≤ R.slots) :
    Stand p l e { frames := R.frames, cells := kc, slots := ks, locals := R.locals } (T.setFrames (.invoking m args :: below)) m args below meth c T [] 0 0 := by
  obtain ⟨g₀, hfr⟩ := X.frames_eq
  have hcur : T.cur < T.threads.size := State.cur_lt_of_frames hfr
  have hF : (T.setFrames (.invoking m args :: below)).frames = .invoking m args :: below := State.frames_setFrames _ hcur
  obtain ⟨t, ht, -⟩ := State.frames_cons hF
  have hself : T.setFrames T.frames = T := by
    obtain ⟨t2, ht2, -⟩ := State.frames_cons hfr
    exact State.setFrames_self ht2
  refine ⟨X.admits, X.cas, X.clock, hF, ?_, ?_, X.method', X.code, X.here, X.tail, State.WarmedH.refl (T.setFrames (.invoking m args :: below)), by rw [State.stackLimits_setFrames], by rw [State.stackBytes_setFrames], ?_⟩
  · have hr := X.room
    have e1 : (T.setFrames (.invoking m args :: below)).localsInUse = s.localsInUse := by
      rw [State.localsInUse_invoking hF (show (T.setFrames (.invoking m args :: below)).vm.method? m = some meth from X.method') X.code, State.localsInUse_invoking X.frames X.method X.code]
    have e2 : (T.setFrames (.invoking m args :: below)).frames = s.frames := by rw [hF, X.frames]
    have e3 : e.platform.stackLimits (T.setFrames (.invoking m args :: below)).me = e.platform.stackLimits s.me := by rw [State.stackLimits_setFrames, X.limits]
    have e4 : (T.setFrames (.invoking m args :: below)).me.stackBytes = s.me.stackBytes := by rw [State.stackBytes_setFrames, X.bytes]
    have e5 : (T.setFrames (.invoking m args :: below)).slotsTrue = true := X.book
    have e6 : (T.setFrames (.invoking m args :: below)).heap.size ≤ s.heap.size + cells := X.heapSize
    have e7 : (T.setFrames (.invoking m args :: below)).slotsUsed ≤ s.slotsUsed + slots := X.used
    simp only [State.hasRoom, Bool.and_eq_true, decide_eq_true_eq] at hr ⊢
    rw [e1, e2, e3, e4]
    obtain ⟨⟨⟨⟨h1, h2⟩, h3⟩, h4⟩, h5⟩ := hr
    exact ⟨⟨⟨⟨h1, h2⟩, by omega⟩, by omega⟩, e5⟩
  · have hh := X.hears
    have hm : ∀ q, (T.setFrames (.invoking m args :: below)).vm.method? q = s.vm.method? q := fun q => X.warmed.alike.method? q
    cases below with
    | nil => simp only [State.hears, hm] at hh ⊢; exact hh
    | cons b bs =>
      cases b <;> first | (simp only [State.hears, State.code?_eq, hm] at hh ⊢; exact hh) | rfl
  · have h := (State.sameButNew.refl (T.setFrames (.invoking m args :: below)) ht).setFrames T.frames (State.cur_lt_of_frames hF)
    rw [State.setFrames_setFrames, hself] at h
    exact h
theorem th_kept {s' V : State} {k n : Nat} (h : s'.sameButNew V [] k n) {q : Nat} (hq : q < s'.heap.size) : V.heap[q]? = s'.heap[q]? := by
  obtain ⟨c, hc⟩ : ∃ c, s'.heap[q]? = some c := ⟨_, Array.getElem?_eq_getElem hq⟩
  obtain ⟨c', h1, h2, h3, h4⟩ := h.2.2.2.2.2 q c hc
  have e1 : c'.slots = c.slots := by
    apply Array.ext h3
    intro i hi hi'
    have := h4 i (by simp)
    rw [Array.getElem?_eq_getElem hi, Array.getElem?_eq_getElem hi'] at this
    exact Option.some.inj this
  rw [h1, hc, h2, e1]
end TX
