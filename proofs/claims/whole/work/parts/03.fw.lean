/-! contracts of one form: a world ws at the start, a world wf u at the end -/
/-- the start of a method that only reads -/
def rd_P (D : va_G) (cl : List vw_C) (tys : List (ClassId × FieldType)) (ws : va_W) (av : List Value) : Array Value → State → Prop := va_Pc av (fun U => va_P D cl ws U.heap ∧ va_K D cl tys U ∧ NK U)
/-- the start of a method that writes or makes -/
def mu_P (D : va_G) (cl : List vw_C) (tys : List (ClassId × FieldType)) (ws : va_W) (sz : Nat) (av : List Value) : Array Value → State → Prop := va_Pc av (fun U => U.heap.size = sz ∧ va_P D cl ws U.heap ∧ va_K D cl tys U ∧ va_D (fun _ => True) ws ∧ NK U)
/-- the world behind it -/
def mu_B {S : Type} (D : va_G) (cl : List vw_C) (tys : List (ClassId × FieldType)) (A : Nat → Prop) (wf : S → va_W) (u : S) (t : State) : Prop := va_P D cl (wf u) t.heap ∧ va_K D cl tys t ∧ va_D A (wf u)
section FWA
variable {s : State} {H : Heap} {D : va_G} {cl : List vw_C} {tys : List (ClassId × FieldType)} {ws : va_W}
theorem rd_blind {av : List Value} : FrameBlind (rd_P D cl tys ws av) := fun a U g mk q => ⟨q.1, q.2.1, va_K.moved (u := U) (U := U.calling g mk a) (Vm.Alike.refl U.vm) q.2.2.1, NK.same (u := U) (U := U.calling g mk a) rfl q.2.2.2⟩
theorem mu_blind {av : List Value} {sz : Nat} : FrameBlind (mu_P D cl tys ws sz av) := fun a U g mk q => ⟨q.1, q.2.1, q.2.2.1, va_K.moved (u := U) (U := U.calling g mk a) (Vm.Alike.refl U.vm) q.2.2.2.1, q.2.2.2.2.1, NK.same (u := U) (U := U.calling g mk a) rfl q.2.2.2.2.2⟩
theorem rd_preS {av : List Value} (hK : va_K D cl tys s) (hN : NK s) (hP : va_P D cl ws H) : PreS s H (rd_P D cl tys ws av) av := ⟨rd_blind, fun U hU hW => ⟨rfl, by rw [hU]; exact hP, va_K.moved hW.alike hK, hN.warm hW⟩⟩
theorem rd_preV {As : List Value} {b ci : Nat} {q : vw_C} {fs : List Value} (q0 : Nat) (hK : va_K D cl tys s) (hN : NK s) (hP : va_P D cl ws H) (hc : cl[ci]? = some q) (he : ws[q0]? = some (b, .inr (ci, fs))) : PreV s H q.1 b (rd_P D cl tys ws (.ref b :: As)) As := ⟨rd_blind, va_recv hK hP hc he, fun U hU hW => ⟨rfl, by rw [hU]; exact hP, va_K.moved hW.alike hK, hN.warm hW⟩⟩
theorem mu_preS {av : List Value} {A : Nat → Prop} (hK : va_K D cl tys s) (hN : NK s) (hP : va_P D cl ws H) (hD : va_D A ws) : PreS s H (mu_P D cl tys ws H.size av) av := ⟨mu_blind, fun U hU hW => ⟨rfl, by rw [hU], by rw [hU]; exact hP, va_K.moved hW.alike hK, hD.weaken (fun _ _ _ _ => trivial), hN.warm hW⟩⟩
theorem mu_preV {As : List Value} {A : Nat → Prop} {b ci : Nat} {q : vw_C} {fs : List Value} (q0 : Nat) (hK : va_K D cl tys s) (hN : NK s) (hP : va_P D cl ws H) (hD : va_D A ws) (hc : cl[ci]? = some q) (he : ws[q0]? = some (b, .inr (ci, fs))) : PreV s H q.1 b (mu_P D cl tys ws H.size (.ref b :: As)) As := ⟨mu_blind, va_recv hK hP hc he, fun U hU hW => ⟨rfl, by rw [hU], by rw [hU]; exact hP, va_K.moved hW.alike hK, hD.weaken (fun _ _ _ _ => trivial), hN.warm hW⟩⟩
theorem mu_free {A : Nat → Prop} {H0 : Heap} {locs : List Loc} (hD : va_D A ws) (hS : va_S A H0 H locs) (hA : ∀ q, H0.size ≤ q → A q) : ∀ q, va_A ws H.size q → A q := by
  intro q h
  rcases h with ⟨k, e, h⟩ | h
  · exact hD.2 k (q, e) h
  · exact hA q (Nat.le_trans hS.1 h)
end FWA
section FWC
variable {p : Program} {l : Launch} {e : Env} {R : Room} {s : State} {m : MethodId} {args : Array Value} {below : List Frame} {meth : Method} {c : Code} {H : Heap} {locs : List Loc} {cells slots : Nat} {Q : State → Prop}
variable {pc : Nat} {ls : Array Slot} {rest st0 : List Value} {a : Array Value} {A : Nat → Prop} {H0 : Heap} {mc ms : Nat} {D : va_G} {cl : List vw_C} {tys : List (ClassId × FieldType)} {ws : va_W}
theorem mu_calli {S : Type} {wf : S → va_W} {post : Int32 → S → Prop} (hr : va_Run p l e R s m args below meth c H locs cells slots mc ms (F0 m pc ls st0) rest (va_Qi post (mu_B D cl tys (va_A ws H.size) wf) (va_A ws H.size) a) (va_A ws H.size)) (hD : va_D A ws) (hS : va_S A H0 H locs) (hA : ∀ q, H0.size ≤ q → A q)
    (kk : ∀ (r : Int32) (u : S) (H1 : Heap) (locs1 : List Loc), post r u → va_P D cl (wf u) H1 → va_D A (wf u) → va_S A H0 H1 locs1 → W p l e R s m args below meth c H1 locs1 (cells + mc) (slots + ms) Q (F0 m (pc + 3) ls (.int r :: rest))) : W p l e R s m args below meth c H locs cells slots Q (F0 m pc ls st0) := by
  have hF := mu_free hD hS hA
  refine va_calli hr hS (fun q _ h => hF q h) hF (fun r u t H1 locs1 ht _ hw hB _ _ hS1 => ?_)
  obtain ⟨h1, -, h3⟩ := hB
  rw [ht] at h1
  exact kk r u H1 locs1 hw h1 (h3.weaken (fun k q _ h => hF q.1 h)) hS1
theorem mu_calll {S : Type} {wf : S → va_W} {post : Int64 → S → Prop} (hr : va_Run p l e R s m args below meth c H locs cells slots mc ms (F0 m pc ls st0) rest (va_Ql post (mu_B D cl tys (va_A ws H.size) wf) (va_A ws H.size) a) (va_A ws H.size)) (hD : va_D A ws) (hS : va_S A H0 H locs) (hA : ∀ q, H0.size ≤ q → A q)
    (kk : ∀ (r : Int64) (u : S) (H1 : Heap) (locs1 : List Loc), post r u → va_P D cl (wf u) H1 → va_D A (wf u) → va_S A H0 H1 locs1 → W p l e R s m args below meth c H1 locs1 (cells + mc) (slots + ms) Q (F0 m (pc + 3) ls (.long r :: rest))) : W p l e R s m args below meth c H locs cells slots Q (F0 m pc ls st0) := by
  have hF := mu_free hD hS hA
  refine va_calll hr hS (fun q _ h => hF q h) hF (fun r u t H1 locs1 ht _ hw hB _ _ hS1 => ?_)
  obtain ⟨h1, -, h3⟩ := hB
  rw [ht] at h1
  exact kk r u H1 locs1 hw h1 (h3.weaken (fun k q _ h => hF q.1 h)) hS1
theorem mu_callv {S : Type} {wf : S → va_W} {post : S → Prop} (hr : va_Run p l e R s m args below meth c H locs cells slots mc ms (F0 m pc ls st0) rest (va_Qv post (mu_B D cl tys (va_A ws H.size) wf) (va_A ws H.size) a) (va_A ws H.size)) (hD : va_D A ws) (hS : va_S A H0 H locs) (hA : ∀ q, H0.size ≤ q → A q)
    (kk : ∀ (u : S) (H1 : Heap) (locs1 : List Loc), post u → va_P D cl (wf u) H1 → va_D A (wf u) → va_S A H0 H1 locs1 → W p l e R s m args below meth c H1 locs1 (cells + mc) (slots + ms) Q (F0 m (pc + 3) ls rest)) : W p l e R s m args below meth c H locs cells slots Q (F0 m pc ls st0) := by
  have hF := mu_free hD hS hA
  refine va_callv hr hS (fun q _ h => hF q h) hF (fun u t H1 locs1 ht _ hw hB _ _ hS1 => ?_)
  obtain ⟨h1, -, h3⟩ := hB
  rw [ht] at h1
  exact kk u H1 locs1 hw h1 (h3.weaken (fun k q _ h => hF q.1 h)) hS1
theorem rd_calli {post : Int32 → Prop} (hr : va_Run p l e R s m args below meth c H locs cells slots 0 0 (F0 m pc ls st0) rest (vp_Si post a) (fun _ => False)) (kk : ∀ r : Int32, post r → W p l e R s m args below meth c H locs cells slots Q (F0 m (pc + 3) ls (.int r :: rest))) : W p l e R s m args below meth c H locs cells slots Q (F0 m pc ls st0) := vp_callSi hr.run kk
theorem rd_calll {post : Int64 → Prop} (hr : va_Run p l e R s m args below meth c H locs cells slots 0 0 (F0 m pc ls st0) rest (vp_Sl post a) (fun _ => False)) (kk : ∀ r : Int64, post r → W p l e R s m args below meth c H locs cells slots Q (F0 m (pc + 3) ls (.long r :: rest))) : W p l e R s m args below meth c H locs cells slots Q (F0 m pc ls st0) := vp_callSl hr.run kk
theorem rd_callq {post : Option Nat → Prop} (hr : va_Run p l e R s m args below meth c H locs cells slots 0 0 (F0 m pc ls st0) rest (va_Sq post a) (fun _ => False)) (kk : ∀ r : Option Nat, post r → W p l e R s m args below meth c H locs cells slots Q (F0 m (pc + 3) ls (va_rf r :: rest))) : W p l e R s m args below meth c H locs cells slots Q (F0 m pc ls st0) := va_csq hr.run kk
end FWC
/-! fragments: a world that is one pool: addresses L, what lies there f -/
abbrev fw_w (u : List Nat × (Nat → va_E)) : va_W := va_pl u.1 u.2
theorem fw_ix {L : List Nat} {a : Nat} (f : Nat → va_E) (h : a ∈ L) : ∃ k : Nat, (va_pl L f)[k]? = some (a, f a) := va_pl_get (X := []) h
theorem fw_set {A : Nat → Prop} {L : List Nat} {f : Nat → va_E} {a k : Nat} {e : va_E} (hD : va_D A (va_pl L f)) (h : a ∈ L) (hk : (va_pl L f)[k]? = some (a, f a)) : (va_pl L f).set k (a, e) = va_pl L (va_up f a e) := va_pl_set (X := []) hD h hk
section FWG
variable {p : Program} {l : Launch} {e : Env} {R : Room} {s : State} {m : MethodId} {args : Array Value} {below : List Frame} {meth : Method} {c : Code} {H : Heap} {locs : List Loc} {cells slots : Nat} {Q : State → Prop}
variable {cc : ByteArray} {pc : Nat} {ls : Array Slot} {rest : List Value} {D : va_G} {cl : List vw_C} {A : Nat → Prop} {a : Nat} {tys : List (ClassId × FieldType)} {L : List Nat} {f : Nat → va_E} {H0 : Heap}
theorem fw_preV {As : List Value} {ci : Nat} {q : vw_C} {fs : List Value} (hK : va_K D cl tys s) (hN : NK s) (hP : va_P D cl (va_pl L f) H) (hc : cl[ci]? = some q) (ha : a ∈ L) (he : f a = .inr (ci, fs)) : PreV s H q.1 a (rd_P D cl tys (va_pl L f) (.ref a :: As)) As := by
  obtain ⟨q0, hq⟩ := fw_ix f ha
  rw [he] at hq
  exact rd_preV q0 hK hN hP hc hq
theorem fw_mreV {As : List Value} {ci : Nat} {q : vw_C} {fs : List Value} (hK : va_K D cl tys s) (hN : NK s) (hP : va_P D cl (va_pl L f) H) (hD : va_D A (va_pl L f)) (hc : cl[ci]? = some q) (ha : a ∈ L) (he : f a = .inr (ci, fs)) : PreV s H q.1 a (mu_P D cl tys (va_pl L f) H.size (.ref a :: As)) As := by
  obtain ⟨q0, hq⟩ := fw_ix f ha
  rw [he] at hq
  exact mu_preV q0 hK hN hP hD hc hq
theorem fw_get (hexec : p.tables.exec = Jvm.exec) (hb : c.code = cc) {own ref C : String} {T : u_T} {N ci index : Nat} {Ts : List Cond} (hts : ∀ w ∈ Ts, w.before args s = true) (hin : ∀ w ∈ u_ws C T N, w ∈ Ts) (hown : s.vm.findClass own = some m.cls) (hK : va_K D cl tys s) (hP : va_P D cl (va_pl L f) H) (ha : a ∈ L) {fs : List Value} (he : f a = .inr (ci, fs)) (hc : cl[ci]? = some (C, T, N)) (k : Nat) (hk : k < N) (hlink : (Cond.fieldLink own index ref (T k).2.1 (T k).2.2.1).before args s = true) (hsame : ∀ x, s.fieldFound? (T k).1 (T k).2.1 (T k).2.2.1 = some x → s.fieldFound? ref (T k).2.1 (T k).2.2.1 = some x) {v : Value} (hv : fs[k]? = some v) (hdg : decode cc pc = .ok (.getfield index, 3))
    (kk : W p l e R s m args below meth c H locs cells slots Q (F0 m (pc + 3) ls (v :: rest))) : W p l e R s m args below meth c H locs cells slots Q (F0 m pc ls (.ref a :: rest)) := by
  obtain ⟨q0, hq⟩ := fw_ix f ha
  rw [he] at hq
  exact va_get hexec hb hts hin hown hK hP q0 hq hc k hk hlink hsame hv hdg kk
theorem fw_getN (hexec : p.tables.exec = Jvm.exec) (hb : c.code = cc) {own ref C host : String} {T : u_T} {N ci index : Nat} {Ts : List Cond} (hts : ∀ w ∈ Ts, w.before args s = true) (hin : ∀ w ∈ u_ws C T N, w ∈ Ts) (hown : s.vm.findClass own = some m.cls) (hK : va_K D cl tys s) (hP : va_P D cl (va_pl L f) H) (ha : a ∈ L) {fs : List Value} (he : f a = .inr (ci, fs)) (hc : cl[ci]? = some (C, T, N)) (k : Nat) (hk : k < N) (hlink : (Cond.fieldLinkNest own index ref (T k).2.1 (T k).2.2.1 host).before args s = true) (hsame : ∀ x, s.fieldFound? (T k).1 (T k).2.1 (T k).2.2.1 = some x → s.fieldFound? ref (T k).2.1 (T k).2.2.1 = some x) {v : Value} (hv : fs[k]? = some v) (hdg : decode cc pc = .ok (.getfield index, 3))
    (kk : W p l e R s m args below meth c H locs cells slots Q (F0 m (pc + 3) ls (v :: rest))) : W p l e R s m args below meth c H locs cells slots Q (F0 m pc ls (.ref a :: rest)) := by
  obtain ⟨q0, hq⟩ := fw_ix f ha
  rw [he] at hq
  exact va_getN hexec hb hts hin hown hK hP q0 hq hc k hk hlink hsame hv hdg kk
theorem fw_put (hexec : p.tables.exec = Jvm.exec) (hb : c.code = cc) {own ref C : String} {T : u_T} {N ci index : Nat} {Ts : List Cond} (hts : ∀ w ∈ Ts, w.before args s = true) (hin : ∀ w ∈ u_ws C T N, w ∈ Ts) (ty0 : Nat → FieldType) (hty : ∀ k, k < N → parseFieldDescriptor (T k).2.2.1 = some (ty0 k)) (hnm : ∀ a, a < N → ∀ b, b < N → a ≠ b → (T a).2.1 ≠ (T b).2.1) (hown : s.vm.findClass own = some m.cls) (hK : va_K D cl tys s) (hP : va_P D cl (va_pl L f) H) (hD : va_D A (va_pl L f)) (hS0 : va_S A H0 H locs) (ha : a ∈ L) {fs : List Value} (he : f a = .inr (ci, fs)) (hc : cl[ci]? = some (C, T, N)) (k : Nat) (hk : k < N) (hlink : (Cond.fieldLink own index ref (T k).2.1 (T k).2.2.1).before args s = true) (hsame : ∀ x, s.fieldFound? (T k).1 (T k).2.1 (T k).2.2.1 = some x → s.fieldFound? ref (T k).2.1 (T k).2.2.1 = some x) (hfin : (T k).2.2.2 = false) {ty : FieldType} {v : Value} (hd : parseFieldDescriptor (T k).2.2.1 = some ty) (hn : narrow ty v = v) (hfit : fits ty v = true) (hl : k < fs.length)
    (hdg : decode cc pc = .ok (.putfield index, 3)) (kk : ∀ (H1 : Heap) (locs1 : List Loc), va_P D cl (va_pl L (va_up f a (.inr (ci, fs.set k v)))) H1 → va_D A (va_pl L (va_up f a (.inr (ci, fs.set k v)))) → va_S A H0 H1 locs1 → W p l e R s m args below meth c H1 locs1 cells slots Q (F0 m (pc + 3) ls rest)) : W p l e R s m args below meth c H locs cells slots Q (F0 m pc ls (v :: .ref a :: rest)) := by
  obtain ⟨q0, hq⟩ := fw_ix f ha
  have hq' := hq
  rw [he] at hq'
  refine va_put hexec hb hts hin ty0 hty hnm hown hK hP hD hS0 q0 hq' hc k hk hlink hsame hfin hd hn hfit hl hdg (fun H1 locs1 h1 h2 h3 => ?_)
  rw [fw_set hD ha hq] at h1 h2
  exact kk H1 locs1 h1 h2 h3
theorem fw_putN (hexec : p.tables.exec = Jvm.exec) (hb : c.code = cc) {own ref C host : String} {T : u_T} {N ci index : Nat} {Ts : List Cond} (hts : ∀ w ∈ Ts, w.before args s = true) (hin : ∀ w ∈ u_ws C T N, w ∈ Ts) (ty0 : Nat → FieldType) (hty : ∀ k, k < N → parseFieldDescriptor (T k).2.2.1 = some (ty0 k)) (hnm : ∀ a, a < N → ∀ b, b < N → a ≠ b → (T a).2.1 ≠ (T b).2.1) (hown : s.vm.findClass own = some m.cls) (hK : va_K D cl tys s) (hP : va_P D cl (va_pl L f) H) (hD : va_D A (va_pl L f)) (hS0 : va_S A H0 H locs) (ha : a ∈ L) {fs : List Value} (he : f a = .inr (ci, fs)) (hc : cl[ci]? = some (C, T, N)) (k : Nat) (hk : k < N) (hlink : (Cond.fieldLinkNest own index ref (T k).2.1 (T k).2.2.1 host).before args s = true) (hsame : ∀ x, s.fieldFound? (T k).1 (T k).2.1 (T k).2.2.1 = some x → s.fieldFound? ref (T k).2.1 (T k).2.2.1 = some x) (hfin : (T k).2.2.2 = false) {ty : FieldType} {v : Value} (hd : parseFieldDescriptor (T k).2.2.1 = some ty) (hn : narrow ty v = v) (hfit : fits ty v = true) (hl : k < fs.length)
    (hdg : decode cc pc = .ok (.putfield index, 3)) (kk : ∀ (H1 : Heap) (locs1 : List Loc), va_P D cl (va_pl L (va_up f a (.inr (ci, fs.set k v)))) H1 → va_D A (va_pl L (va_up f a (.inr (ci, fs.set k v)))) → va_S A H0 H1 locs1 → W p l e R s m args below meth c H1 locs1 cells slots Q (F0 m (pc + 3) ls rest)) : W p l e R s m args below meth c H locs cells slots Q (F0 m pc ls (v :: .ref a :: rest)) := by
  obtain ⟨q0, hq⟩ := fw_ix f ha
  have hq' := hq
  rw [he] at hq'
  refine va_putN hexec hb hts hin ty0 hty hnm hown hK hP hD hS0 q0 hq' hc k hk hlink hsame hfin hd hn hfit hl hdg (fun H1 locs1 h1 h2 h3 => ?_)
  rw [fw_set hD ha hq] at h1 h2
  exact kk H1 locs1 h1 h2 h3
theorem fw_putF (hexec : p.tables.exec = Jvm.exec) (hb : c.code = cc) {own ref C : String} {T : u_T} {N ci index : Nat} {Ts : List Cond} (hts : ∀ w ∈ Ts, w.before args s = true) (hin : ∀ w ∈ u_ws C T N, w ∈ Ts) (ty0 : Nat → FieldType) (hty : ∀ k, k < N → parseFieldDescriptor (T k).2.2.1 = some (ty0 k)) (hnm : ∀ a, a < N → ∀ b, b < N → a ≠ b → (T a).2.1 ≠ (T b).2.1) (hown : s.vm.findClass own = some m.cls) (hK : va_K D cl tys s) (hP : va_P D cl (va_pl L f) H) (hD : va_D A (va_pl L f)) (hS0 : va_S A H0 H locs) (ha : a ∈ L) {fs : List Value} (he : f a = .inr (ci, fs)) (hc : cl[ci]? = some (C, T, N)) (k : Nat) (hk : k < N) (hlink : (Cond.fieldLink own index ref (T k).2.1 (T k).2.2.1).before args s = true) (hsame : ∀ x, s.fieldFound? (T k).1 (T k).2.1 (T k).2.2.1 = some x → s.fieldFound? ref (T k).2.1 (T k).2.2.1 = some x) (hfin : (T k).2.2.2 = true) (hin2 : meth.name = "<init>") (hdecl : (T k).1 = own) {ty : FieldType} {v : Value} (hd : parseFieldDescriptor (T k).2.2.1 = some ty) (hn : narrow ty v = v) (hfit : fits ty v = true) (hl : k < fs.length)
    (hdg : decode cc pc = .ok (.putfield index, 3)) (kk : ∀ (H1 : Heap) (locs1 : List Loc), va_P D cl (va_pl L (va_up f a (.inr (ci, fs.set k v)))) H1 → va_D A (va_pl L (va_up f a (.inr (ci, fs.set k v)))) → va_S A H0 H1 locs1 → W p l e R s m args below meth c H1 locs1 cells slots Q (F0 m (pc + 3) ls rest)) : W p l e R s m args below meth c H locs cells slots Q (F0 m pc ls (v :: .ref a :: rest)) := by
  obtain ⟨q0, hq⟩ := fw_ix f ha
  have hq' := hq
  rw [he] at hq'
  refine va_putF hexec hb hts hin ty0 hty hnm hown hK hP hD hS0 q0 hq' hc k hk hlink hsame hfin hin2 hdecl hd hn hfit hl hdg (fun H1 locs1 h1 h2 h3 => ?_)
  rw [fw_set hD ha hq] at h1 h2
  exact kk H1 locs1 h1 h2 h3
theorem fw_new {own C : String} {T : u_T} {N ci index : Nat} {Ts : List Cond} (hexec : p.tables.exec = Jvm.exec) (hb : c.code = cc) (hts : ∀ w ∈ Ts, w.before args s = true) (hin : ∀ w ∈ u_ws C T N, w ∈ Ts) (ty : Nat → FieldType) (hty : ∀ k, k < N → parseFieldDescriptor (T k).2.2.1 = some (ty k)) (hown : s.vm.findClass own = some m.cls) (hcl : (Cond.classLink own index C).before args s = true) (hinst : (Cond.instantiable C N).before args s = true) (hini : (Cond.initialized C).before args s = true)
    (hK : va_K D cl tys s) (hP : va_P D cl (va_pl L f) H) (hD : va_D A (va_pl L f)) (hS : va_S A H0 H locs) (hA : ∀ q, H0.size ≤ q → A q) (hc : cl[ci]? = some (C, T, N)) {fs : List Value} (hfs : ∀ j, j < N → defaultValue (ty j) = vp_V fs j) (hcells : cells + 1 ≤ R.cells) (hslots : slots + N ≤ R.slots) (hdg : decode cc pc = .ok (.new index, 3))
    (kk : ∀ (q : Nat) (H1 : Heap), q ∉ L → va_P D cl (va_pl (L ++ [q]) (va_up f q (.inr (ci, fs)))) H1 → va_D A (va_pl (L ++ [q]) (va_up f q (.inr (ci, fs)))) → va_S A H0 H1 locs →
      W p l e R s m args below meth c H1 locs (cells + 1) (slots + N) Q (F0 m (pc + 3) ls (.ref q :: rest))) : W p l e R s m args below meth c H locs cells slots Q (F0 m pc ls rest) := by
  refine va_new hexec hb hts hin ty hty hown hcl hinst hini hK hP hD hS hA hc hfs hcells hslots hdg (fun q H1 h1 h2 h3 => ?_)
  have hq : q ∉ L := va_pl_fresh2 (X := []) h2
  rw [va_pl_push hq] at h1 h2
  exact kk q H1 hq h1 h2 h3
theorem fw_newq (hexec : p.tables.exec = Jvm.exec) (hb : c.code = cc) {own C : String} {index : Nat} (hown : s.vm.findClass own = some m.cls) (hclink : (Cond.classLink own index C).before args s = true) (hover : va_AO C s) (hK : va_K D cl tys s) (hP : va_P D cl (va_pl L f) H) (hD : va_D A (va_pl L f)) (hS : va_S A H0 H locs) (hA : ∀ q, H0.size ≤ q → A q)
    {n : Int32} {N' : Nat} (hn : ¬ n < 0) (hN : n.toNatClampNeg = N') (hbytes : N' * 4 ≤ 536870912) (hcells : cells + 1 ≤ R.cells) (hslots : slots + N' ≤ R.slots) (hdg : decode cc pc = .ok (.anewarray index, 3))
    (kk : ∀ (q : Nat) (cA : ClassId) (H1 : Heap), q ∉ L → va_K D cl (tys ++ [(cA, .object C)]) s → va_P D cl (va_pl (L ++ [q]) (va_up f q (.inl (cA, N', .inr (.inr (.inr (.inr (fun _ => none)))))))) H1 → va_D A (va_pl (L ++ [q]) (va_up f q (.inl (cA, N', .inr (.inr (.inr (.inr (fun _ => none)))))))) → va_S A H0 H1 locs →
      W p l e R s m args below meth c H1 locs (cells + 1) (slots + N') Q (F0 m (pc + 3) ls (.ref q :: rest))) : W p l e R s m args below meth c H locs cells slots Q (F0 m pc ls (.int n :: rest)) := by
  refine va_newq hexec hb hown hclink hover hK hP hD hS hA hn hN hbytes hcells hslots hdg (fun q cA H1 h0 h1 h2 h3 => ?_)
  have hq : q ∉ L := va_pl_fresh2 (X := []) h2
  rw [va_pl_push hq] at h1 h2
  exact kk q cA H1 hq h0 h1 h2 h3
theorem fw_ald (hexec : p.tables.exec = Jvm.exec) (hb : c.code = cc) (hK : va_K D cl tys s) (hP : va_P D cl (va_pl L f) H) (ha : a ∈ L) (t0 : Nat) {cA : ClassId} {C : String} {n : Nat} {g : Nat → Option Nat} (he : f a = .inl (cA, n, .inr (.inr (.inr (.inr g))))) (ht : tys[t0]? = some (cA, .object C)) {i : Int32} (hin : vp_in i n) (hdg : decode cc pc = .ok (.aaload, 1))
    (kk : W p l e R s m args below meth c H locs cells slots Q (F0 m (pc + 1) ls (va_rf (g i.toNatClampNeg) :: rest))) : W p l e R s m args below meth c H locs cells slots Q (F0 m pc ls (.int i :: .ref a :: rest)) := by
  obtain ⟨q0, hq⟩ := fw_ix f ha
  rw [he] at hq
  exact va_aldq hexec hb hK hP q0 t0 hq ht hin hdg kk
theorem fw_alen (hexec : p.tables.exec = Jvm.exec) (hb : c.code = cc) (hK : va_K D cl tys s) (hP : va_P D cl (va_pl L f) H) (ha : a ∈ L) (t0 : Nat) {cA : ClassId} {x : vp_A} (he : f a = .inl (cA, x)) {ty : FieldType} (ht : tys[t0]? = some (cA, ty)) {v : Int32} (hv : Int32.ofNat x.1 = v) (hdg : decode cc pc = .ok (.arraylength, 1))
    (kk : W p l e R s m args below meth c H locs cells slots Q (F0 m (pc + 1) ls (.int v :: rest))) : W p l e R s m args below meth c H locs cells slots Q (F0 m pc ls (.ref a :: rest)) := by
  obtain ⟨q0, hq⟩ := fw_ix f ha
  rw [he] at hq
  exact va_alen hexec hb hK hP q0 t0 hq ht hv hdg kk
theorem fw_ast (hexec : p.tables.exec = Jvm.exec) (hb : c.code = cc) (hK : va_K D cl tys s) (hP : va_P D cl (va_pl L f) H) (hD : va_D A (va_pl L f)) (hS : va_S A H0 H locs) (ha : a ∈ L) (t0 : Nat) {ci : Nat} {cA : ClassId} {r : vw_C} {n v : Nat} {vs : List Value} {g : Nat → Option Nat} (he : f a = .inl (cA, n, .inr (.inr (.inr (.inr g))))) (ht : tys[t0]? = some (cA, .object r.1)) (hv : v ∈ L) (hve : f v = .inr (ci, vs)) (hc : cl[ci]? = some r) {i : Int32} (hin : vp_in i n) (hdg : decode cc pc = .ok (.aastore, 1))
    (kk : ∀ (H1 : Heap) (locs1 : List Loc), va_P D cl (va_pl L (va_up f a (.inl (cA, n, .inr (.inr (.inr (.inr (va_up g i.toNatClampNeg (some v))))))))) H1 → va_D A (va_pl L (va_up f a (.inl (cA, n, .inr (.inr (.inr (.inr (va_up g i.toNatClampNeg (some v))))))))) → va_S A H0 H1 locs1 → W p l e R s m args below meth c H1 locs1 cells slots Q (F0 m (pc + 1) ls rest)) : W p l e R s m args below meth c H locs cells slots Q (F0 m pc ls (.ref v :: .int i :: .ref a :: rest)) := by
  obtain ⟨q0, hq⟩ := fw_ix f ha
  obtain ⟨qk, hqk⟩ := fw_ix f hv
  have hq' := hq
  rw [he] at hq'
  rw [hve] at hqk
  refine va_astq hexec hb hK hP hD hS q0 t0 qk ci hq' ht hqk hc hin hdg (fun H1 locs1 h1 h2 h3 => ?_)
  rw [fw_set hD ha hq] at h1 h2
  exact kk H1 locs1 h1 h2 h3
theorem fw_astN (hexec : p.tables.exec = Jvm.exec) (hb : c.code = cc) (hK : va_K D cl tys s) (hP : va_P D cl (va_pl L f) H) (hD : va_D A (va_pl L f)) (hS : va_S A H0 H locs) (ha : a ∈ L) (t0 : Nat) {cA : ClassId} {C : String} {n : Nat} {g : Nat → Option Nat} (he : f a = .inl (cA, n, .inr (.inr (.inr (.inr g))))) (ht : tys[t0]? = some (cA, .object C)) {i : Int32} (hin : vp_in i n) (hdg : decode cc pc = .ok (.aastore, 1))
    (kk : ∀ (H1 : Heap) (locs1 : List Loc), va_P D cl (va_pl L (va_up f a (.inl (cA, n, .inr (.inr (.inr (.inr (va_up g i.toNatClampNeg none)))))))) H1 → va_D A (va_pl L (va_up f a (.inl (cA, n, .inr (.inr (.inr (.inr (va_up g i.toNatClampNeg none)))))))) → va_S A H0 H1 locs1 → W p l e R s m args below meth c H1 locs1 cells slots Q (F0 m (pc + 1) ls rest)) : W p l e R s m args below meth c H locs cells slots Q (F0 m pc ls (.null :: .int i :: .ref a :: rest)) := by
  obtain ⟨q0, hq⟩ := fw_ix f ha
  have hq' := hq
  rw [he] at hq'
  refine va_astqN hexec hb hK hP hD hS q0 t0 hq' ht hin hdg (fun H1 locs1 h1 h2 h3 => ?_)
  rw [fw_set hD ha hq] at h1 h2
  exact kk H1 locs1 h1 h2 h3
end FWG
theorem fw_same {L : List Nat} {f g : Nat → va_E} (h : ∀ z, f z = g z) : (L, f) = (L, g) := by rw [show f = g from funext h]
