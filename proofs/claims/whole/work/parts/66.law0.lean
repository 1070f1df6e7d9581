/-! worlds in three parts: a call that is given the middle one -/
theorem pt_P {D : va_G} {cl : List vw_C} {a b : va_W} {H : Heap} (h : va_P D cl (a ++ b) H) : va_P D cl a H ∧ va_P D cl b H :=
  ⟨fun k q hk => h k q (by rw [List.getElem?_append_left (List.getElem?_eq_some_iff.mp hk).1]; exact hk), fun k q hk => h (a.length + k) q (by rw [List.getElem?_append_right (by omega), Nat.add_sub_cancel_left]; exact hk)⟩
theorem pt_D {A : Nat → Prop} {a b : va_W} (h : va_D A (a ++ b)) : va_D A a ∧ va_D A b ∧ ∀ (i j : Nat) (x y : Nat × va_E), a[i]? = some x → b[j]? = some y → x.1 = y.1 → False := by
  have l1 : ∀ (i : Nat) (x : Nat × va_E), a[i]? = some x → (a ++ b)[i]? = some x := fun i x hx => by
    rw [List.getElem?_append_left (List.getElem?_eq_some_iff.mp hx).1]
    exact hx
  have l2 : ∀ (i : Nat) (x : Nat × va_E), b[i]? = some x → (a ++ b)[a.length + i]? = some x := fun i x hx => by
    rw [List.getElem?_append_right (by omega), Nat.add_sub_cancel_left]
    exact hx
  refine ⟨⟨fun i j x y hx hy q => h.1 i j x y (l1 i x hx) (l1 j y hy) q, fun k q hk => h.2 k q (l1 k q hk)⟩, ⟨fun i j x y hx hy q => ?_, fun k q hk => h.2 _ q (l2 k q hk)⟩, fun i j x y hx hy q => ?_⟩
  · have := h.1 _ _ x y (l2 i x hx) (l2 j y hy) q
    omega
  · have h1 := h.1 _ _ x y (l1 i x hx) (l2 j y hy) q
    have h2 := (List.getElem?_eq_some_iff.mp hx).1
    omega
theorem pt_join {A : Nat → Prop} {D : va_G} {cl : List vw_C} {wa wc wb w1 : va_W} {H H1 : Heap} (hP : va_P D cl (wa ++ (wc ++ wb)) H) (hD : va_D A (wa ++ (wc ++ wb)))
    (hk : ∀ q : Nat, q < H.size → ¬ va_A wc H.size q → H1[q]? = H[q]?) (hF : ∀ q, va_A wc H.size q → A q) (hP1 : va_P D cl w1 H1) (hD1 : va_D (va_A wc H.size) w1) : va_P D cl (wa ++ (w1 ++ wb)) H1 ∧ va_D A (wa ++ (w1 ++ wb)) := by
  obtain ⟨pa, pcb⟩ := pt_P hP
  obtain ⟨pc, pb⟩ := pt_P pcb
  obtain ⟨da, dcb, xa⟩ := pt_D hD
  obtain ⟨dc, db, xb⟩ := pt_D dcb
  have na : ∀ (k : Nat) (q : Nat × va_E), wa[k]? = some q → ¬ va_A wc H.size q.1 := by
    intro k q hq h
    rcases h with ⟨j, e, h⟩ | h
    · exact xa k j q (q.1, e) hq (by rw [List.getElem?_append_left (List.getElem?_eq_some_iff.mp h).1]; exact h) rfl
    · have := (pa k q hq).lt
      omega
  have nb : ∀ (k : Nat) (q : Nat × va_E), wb[k]? = some q → ¬ va_A wc H.size q.1 := by
    intro k q hq h
    rcases h with ⟨j, e, h⟩ | h
    · exact xb j k (q.1, e) q h hq rfl
    · have := (pb k q hq).lt
      omega
  refine ⟨va_P.app (fun k q hq => (pa k q hq).kept (hk q.1 (pa k q hq).lt (na k q hq))) (va_P.app hP1 (fun k q hq => (pb k q hq).kept (hk q.1 (pb k q hq).lt (nb k q hq)))), ?_⟩
  refine va_D.app da (va_D.app (hD1.weaken (fun k q _ h => hF q.1 h)) db (fun i j x y hx hy q => nb j y hy (q ▸ hD1.2 i x hx))) (fun i j x y hx hy q => ?_)
  by_cases hl : j < w1.length
  · rw [List.getElem?_append_left hl] at hy
    exact na i x hx (q ▸ hD1.2 j y hy)
  · rw [List.getElem?_append_right (by omega)] at hy
    refine xa i (wc.length + (j - w1.length)) x y hx ?_ q
    rw [List.getElem?_append_right (by omega), Nat.add_sub_cancel_left]
    exact hy
section PTC
variable {p : Program} {l : Launch} {e : Env} {R : Room} {s : State} {m : MethodId} {args : Array Value} {below : List Frame} {meth : Method} {c : Code} {H : Heap} {locs : List Loc} {cells slots : Nat} {Q : State → Prop}
variable {pc : Nat} {ls : Array Slot} {rest st0 : List Value} {a : Array Value} {A : Nat → Prop} {H0 : Heap} {mc ms : Nat} {D : va_G} {cl : List vw_C} {tys : List (ClassId × FieldType)} {wa wc wb : va_W}
theorem pt_free (hD : va_D A (wa ++ (wc ++ wb))) (hS : va_S A H0 H locs) (hA : ∀ q, H0.size ≤ q → A q) : ∀ q, va_A wc H.size q → A q := mu_free (pt_D (pt_D hD).2.1).1 hS hA
theorem pt_calli {S : Type} {wf : S → va_W} {post : Int32 → S → Prop} (hr : va_Run p l e R s m args below meth c H locs cells slots mc ms (F0 m pc ls st0) rest (va_Qi post (mu_B D cl tys (va_A wc H.size) wf) (va_A wc H.size) a) (va_A wc H.size)) (hP : va_P D cl (wa ++ (wc ++ wb)) H) (hD : va_D A (wa ++ (wc ++ wb))) (hS : va_S A H0 H locs) (hA : ∀ q, H0.size ≤ q → A q)
    (kk : ∀ (r : Int32) (u : S) (H1 : Heap) (locs1 : List Loc), post r u → va_P D cl (wa ++ (wf u ++ wb)) H1 → va_D A (wa ++ (wf u ++ wb)) → va_S A H0 H1 locs1 → W p l e R s m args below meth c H1 locs1 (cells + mc) (slots + ms) Q (F0 m (pc + 3) ls (.int r :: rest))) : W p l e R s m args below meth c H locs cells slots Q (F0 m pc ls st0) := by
  have hF := pt_free hD hS hA
  refine va_calli hr hS (fun q _ h => hF q h) hF (fun r u t H1 locs1 ht _ hw hB _ hk1 hS1 => ?_)
  obtain ⟨h1, -, h3⟩ := hB
  rw [ht] at h1
  obtain ⟨j1, j2⟩ := pt_join hP hD hk1 hF h1 h3
  exact kk r u H1 locs1 hw j1 j2 hS1
theorem pt_calll {S : Type} {wf : S → va_W} {post : Int64 → S → Prop} (hr : va_Run p l e R s m args below meth c H locs cells slots mc ms (F0 m pc ls st0) rest (va_Ql post (mu_B D cl tys (va_A wc H.size) wf) (va_A wc H.size) a) (va_A wc H.size)) (hP : va_P D cl (wa ++ (wc ++ wb)) H) (hD : va_D A (wa ++ (wc ++ wb))) (hS : va_S A H0 H locs) (hA : ∀ q, H0.size ≤ q → A q)
    (kk : ∀ (r : Int64) (u : S) (H1 : Heap) (locs1 : List Loc), post r u → va_P D cl (wa ++ (wf u ++ wb)) H1 → va_D A (wa ++ (wf u ++ wb)) → va_S A H0 H1 locs1 → W p l e R s m args below meth c H1 locs1 (cells + mc) (slots + ms) Q (F0 m (pc + 3) ls (.long r :: rest))) : W p l e R s m args below meth c H locs cells slots Q (F0 m pc ls st0) := by
  have hF := pt_free hD hS hA
  refine va_calll hr hS (fun q _ h => hF q h) hF (fun r u t H1 locs1 ht _ hw hB _ hk1 hS1 => ?_)
  obtain ⟨h1, -, h3⟩ := hB
  rw [ht] at h1
  obtain ⟨j1, j2⟩ := pt_join hP hD hk1 hF h1 h3
  exact kk r u H1 locs1 hw j1 j2 hS1
theorem pt_callv {S : Type} {wf : S → va_W} {post : S → Prop} (hr : va_Run p l e R s m args below meth c H locs cells slots mc ms (F0 m pc ls st0) rest (va_Qv post (mu_B D cl tys (va_A wc H.size) wf) (va_A wc H.size) a) (va_A wc H.size)) (hP : va_P D cl (wa ++ (wc ++ wb)) H) (hD : va_D A (wa ++ (wc ++ wb))) (hS : va_S A H0 H locs) (hA : ∀ q, H0.size ≤ q → A q)
    (kk : ∀ (u : S) (H1 : Heap) (locs1 : List Loc), post u → va_P D cl (wa ++ (wf u ++ wb)) H1 → va_D A (wa ++ (wf u ++ wb)) → va_S A H0 H1 locs1 → W p l e R s m args below meth c H1 locs1 (cells + mc) (slots + ms) Q (F0 m (pc + 3) ls rest)) : W p l e R s m args below meth c H locs cells slots Q (F0 m pc ls st0) := by
  have hF := pt_free hD hS hA
  refine va_callv hr hS (fun q _ h => hF q h) hF (fun u t H1 locs1 ht _ hw hB _ hk1 hS1 => ?_)
  obtain ⟨h1, -, h3⟩ := hB
  rw [ht] at h1
  obtain ⟨j1, j2⟩ := pt_join hP hD hk1 hF h1 h3
  exact kk u H1 locs1 hw j1 j2 hS1
end PTC

section PE
variable {p : Program} {l : Launch} {e : Env} {R : Room} {s : State} {m : MethodId} {args : Array Value} {below : List Frame} {meth : Method} {c : Code} {H : Heap} {locs : List Loc} {cells slots : Nat} {Q : State → Prop}
variable {pc : Nat} {ls : Array Slot} {rest st0 : List Value} {a : Array Value} {A : Nat → Prop} {H0 : Heap} {mc ms : Nat} {D : va_G} {cl : List vw_C} {tys : List (ClassId × FieldType)} {wa wc : va_W}
theorem pe_calli {S : Type} {wf : S → va_W} {post : Int32 → S → Prop} (hr : va_Run p l e R s m args below meth c H locs cells slots mc ms (F0 m pc ls st0) rest (va_Qi post (mu_B D cl tys (va_A wc H.size) wf) (va_A wc H.size) a) (va_A wc H.size)) (hP : va_P D cl (wa ++ wc) H) (hD : va_D A (wa ++ wc)) (hS : va_S A H0 H locs) (hA : ∀ q, H0.size ≤ q → A q)
    (kk : ∀ (r : Int32) (u : S) (H1 : Heap) (locs1 : List Loc), post r u → va_P D cl (wa ++ wf u) H1 → va_D A (wa ++ wf u) → va_S A H0 H1 locs1 → W p l e R s m args below meth c H1 locs1 (cells + mc) (slots + ms) Q (F0 m (pc + 3) ls (.int r :: rest))) : W p l e R s m args below meth c H locs cells slots Q (F0 m pc ls st0) :=
  pt_calli (wb := []) hr (by rw [List.append_nil]; exact hP) (by rw [List.append_nil]; exact hD) hS hA (fun r u H1 l1 h hP hD hS => kk r u H1 l1 h (by rw [List.append_nil] at hP; exact hP) (by rw [List.append_nil] at hD; exact hD) hS)
theorem pe_calll {S : Type} {wf : S → va_W} {post : Int64 → S → Prop} (hr : va_Run p l e R s m args below meth c H locs cells slots mc ms (F0 m pc ls st0) rest (va_Ql post (mu_B D cl tys (va_A wc H.size) wf) (va_A wc H.size) a) (va_A wc H.size)) (hP : va_P D cl (wa ++ wc) H) (hD : va_D A (wa ++ wc)) (hS : va_S A H0 H locs) (hA : ∀ q, H0.size ≤ q → A q)
    (kk : ∀ (r : Int64) (u : S) (H1 : Heap) (locs1 : List Loc), post r u → va_P D cl (wa ++ wf u) H1 → va_D A (wa ++ wf u) → va_S A H0 H1 locs1 → W p l e R s m args below meth c H1 locs1 (cells + mc) (slots + ms) Q (F0 m (pc + 3) ls (.long r :: rest))) : W p l e R s m args below meth c H locs cells slots Q (F0 m pc ls st0) :=
  pt_calll (wb := []) hr (by rw [List.append_nil]; exact hP) (by rw [List.append_nil]; exact hD) hS hA (fun r u H1 l1 h hP hD hS => kk r u H1 l1 h (by rw [List.append_nil] at hP; exact hP) (by rw [List.append_nil] at hD; exact hD) hS)
/-- behind a call that comes back or throws: the rest of the world, and what was written -/
theorem tp_S {st₀ t T' : State} {L : List Loc} (h0 : st₀.heap = H) (e1 : T'.heap = t.heap) (hF : va_F (va_A wc H.size) st₀ t) (hL : ∀ q ∈ L, va_A wc H.size q.base) (hfr : ∀ q, va_A wc H.size q → A q) (hS : va_S A H0 H locs) : va_S A H0 T'.heap (locs ++ L) ∧ ∀ q : Nat, q < H.size → ¬ va_A wc H.size q → T'.heap[q]? = H[q]? := by
  obtain ⟨hz, hk⟩ := hF
  rw [h0] at hz hk
  refine ⟨⟨Nat.le_trans hS.1 (by rw [e1]; exact hz), fun q h1 h2 => ?_, fun q hq => ?_⟩, fun q h1 h2 => by rw [e1]; exact hk q h1 h2⟩
  · rw [e1, hk q (Nat.lt_of_lt_of_le h1 hS.1) (fun z => h2 (hfr q z))]
    exact hS.2.1 q h1 h2
  · rcases List.mem_append.mp hq with h | h
    · exact hS.2.2 q h
    · exact hfr _ (hL q h)
/-- the call of post under its handler -/
theorem tp_call {own : String} {cs : Nat → ClassId} {o : Nat} {v : Int32 × MS} (hr : th_Run p l e R s m args below meth c H locs cells slots mc ms (F0 m 3 ls st0) rest (qP D cl tys (va_A wc H.size) cs o v a) (va_A wc H.size))
    (htab : c.exceptionTable.toList.map (fun h => (h.startPc, h.endPc, h.handlerPc, h.catchType)) = [(0, 8, 11, 13)]) (hown : s.vm.findClass own = some m.cls) (hlink : (Cond.classLink own 13 "java/lang/IllegalStateException").before args s = true)
    (hP : va_P D cl (wa ++ wc) H) (hD : va_D A (wa ++ wc)) (hS : va_S A H0 H locs) (hA : ∀ q, H0.size ≤ q → A q)
    (kr : ∀ (u : List Nat × (Nat → va_E)) (H1 : Heap) (locs1 : List Loc), v.2.1 = 0 → CS cs o v.2 u.1 u.2 → va_P D cl (wa ++ fw_w u) H1 → va_D A (wa ++ fw_w u) → va_S A H0 H1 locs1 → W p l e R s m args below meth c H1 locs1 (cells + mc) (slots + ms) Q (F0 m 6 ls (.int v.1 :: rest)))
    (kt : ∀ (u : List Nat × (Nat → va_E)) (H1 : Heap) (locs1 : List Loc) (a : Nat), v.2.1 = 1 → CS cs o v.2 u.1 u.2 → va_P D cl (wa ++ fw_w u) H1 → va_D A (wa ++ fw_w u) → va_S A H0 H1 locs1 → W p l e R s m args below meth c H1 locs1 (cells + mc) (slots + ms) Q (F0 m 11 ls [.ref a])) : W p l e R s m args below meth c H locs cells slots Q (F0 m 3 ls st0) := by
  intro T hT X
  have hfr : ∀ q, va_A wc H.size q → A q := mu_free (pt_D hD).2.1 hS hA
  obtain ⟨oc, st₀, t, T', L, h0, X', hL, e1, e2, ⟨⟨u, hcs, hoc, hB1, -, hB3⟩, hF⟩, hret, hthr⟩ := hr T hT X
  obtain ⟨hS1, hk1⟩ := tp_S h0 e1 hF hL hfr hS
  rw [← e1] at hB1
  obtain ⟨j1, j2⟩ := pt_join (wb := []) (by rw [List.append_nil]; exact hP) (by rw [List.append_nil]; exact hD) hk1 hfr hB1 hB3
  rw [List.append_nil] at j1 j2
  rcases hoc with ⟨rfl, h0v⟩ | ⟨b, ce, rfl, h1v, hce, hst, hcl, hasg⟩
  · obtain ⟨t2, a1, b1⟩ := kr u T'.heap (locs ++ L) h0v hcs j1 j2 hS1 T' rfl X'
    exact ⟨t2, hret _ rfl t2 a1, b1⟩
  · obtain ⟨x, hx1, hx2⟩ : ∃ x, c.exceptionTable.toList = [x] ∧ (x.startPc, x.endPc, x.handlerPc, x.catchType) = (0, 8, 11, 13) := by
      cases hh : c.exceptionTable.toList with
      | nil => rw [hh] at htab; cases htab
      | cons x xs =>
        rw [hh] at htab
        simp only [List.map_cons, List.cons.injEq, List.map_eq_nil_iff] at htab
        exact ⟨x, by rw [htab.2], htab.1⟩
    simp only [Prod.mk.injEq] at hx2
    obtain ⟨p1, p2, p3, p4⟩ := hx2
    have hal := X'.warmed.alike
    obtain ⟨vm', XV, st⟩ := th_catch X' (g := { F0 m 3 ls st0 with stack := rest }) rfl (a := b) (cell := ce) (by rw [e1]; exact hce) hst hx1 (by simp [covers, p1, p2]) (by rw [p4]; decide) hown (by rw [p4]; exact hlink) (cT := ce.cls) (by rw [← hal.findClass, e2]; exact hcl) (by rw [← hal.assignable, e2]; exact hasg)
    obtain ⟨t2, a1, b1⟩ := kt u T'.heap (locs ++ L) b h1v hcs j1 j2 hS1 (T'.setVm vm') rfl XV
    rw [p3] at st
    exact ⟨t2, hthr b rfl t2 (st t2 a1), b1⟩
end PE
