theorem CP_7 {a0 a1 a2 a3 a4 a5 a6 : Nat} {v0 v1 v2 v3 v4 v5 v6 : va_E} {L : List Nat} {f : Nat → va_E} (m0 : a0 ∈ L) (m1 : a1 ∈ L) (m2 : a2 ∈ L) (m3 : a3 ∈ L) (m4 : a4 ∈ L) (m5 : a5 ∈ L) (m6 : a6 ∈ L) (e0 : f a0 = v0) (e1 : f a1 = v1) (e2 : f a2 = v2) (e3 : f a3 = v3) (e4 : f a4 = v4) (e5 : f a5 = v5) (e6 : f a6 = v6) (n01 : a0 ≠ a1) (n02 : a0 ≠ a2) (n03 : a0 ≠ a3) (n04 : a0 ≠ a4) (n05 : a0 ≠ a5) (n06 : a0 ≠ a6) (n12 : a1 ≠ a2) (n13 : a1 ≠ a3) (n14 : a1 ≠ a4) (n15 : a1 ≠ a5) (n16 : a1 ≠ a6) (n23 : a2 ≠ a3) (n24 : a2 ≠ a4) (n25 : a2 ≠ a5) (n26 : a2 ≠ a6) (n34 : a3 ≠ a4) (n35 : a3 ≠ a5) (n36 : a3 ≠ a6) (n45 : a4 ≠ a5) (n46 : a4 ≠ a6) (n56 : a5 ≠ a6) :
    CP (fun k => if k = 0 then 7 else 0) (fun k i => if k = 0 then ([a0, a1, a2, a3, a4, a5, a6] : List Nat).getD i 0 else 0) (fun k i => if k = 0 then ([v0, v1, v2, v3, v4, v5, v6] : List va_E).getD i v0 else v0) L f := by
  have k0 : ∀ k i : Nat, i < (if k = 0 then 7 else 0) → k = 0 ∧ (i = 0 ∨ i = 1 ∨ i = 2 ∨ i = 3 ∨ i = 4 ∨ i = 5 ∨ i = 6) := by
    intro k i h
    by_cases hk : k = 0
    · rw [if_pos hk] at h; exact ⟨hk, by omega⟩
    · rw [if_neg hk] at h; omega
  refine ⟨fun k i h => ?_, fun k i k' i' h h' q => ?_⟩
  · obtain ⟨rfl, hi⟩ := k0 k i h
    rcases hi with rfl | rfl | rfl | rfl | rfl | rfl | rfl
    · exact ⟨m0, e0⟩
    · exact ⟨m1, e1⟩
    · exact ⟨m2, e2⟩
    · exact ⟨m3, e3⟩
    · exact ⟨m4, e4⟩
    · exact ⟨m5, e5⟩
    · exact ⟨m6, e6⟩
  · obtain ⟨rfl, hi⟩ := k0 k i h
    obtain ⟨rfl, hi'⟩ := k0 k' i' h'
    rcases hi with rfl | rfl | rfl | rfl | rfl | rfl | rfl <;> rcases hi' with rfl | rfl | rfl | rfl | rfl | rfl | rfl
    all_goals first
      | exact ⟨rfl, rfl⟩
      | exact absurd q n01
      | exact absurd q n02
      | exact absurd q n03
      | exact absurd q n04
      | exact absurd q n05
      | exact absurd q n06
      | exact absurd q n12
      | exact absurd q n13
      | exact absurd q n14
      | exact absurd q n15
      | exact absurd q n16
      | exact absurd q n23
      | exact absurd q n24
      | exact absurd q n25
      | exact absurd q n26
      | exact absurd q n34
      | exact absurd q n35
      | exact absurd q n36
      | exact absurd q n45
      | exact absurd q n46
      | exact absurd q n56
      | exact absurd q.symm n01
      | exact absurd q.symm n02
      | exact absurd q.symm n03
      | exact absurd q.symm n04
      | exact absurd q.symm n05
      | exact absurd q.symm n06
      | exact absurd q.symm n12
      | exact absurd q.symm n13
      | exact absurd q.symm n14
      | exact absurd q.symm n15
      | exact absurd q.symm n16
      | exact absurd q.symm n23
      | exact absurd q.symm n24
      | exact absurd q.symm n25
      | exact absurd q.symm n26
      | exact absurd q.symm n34
      | exact absurd q.symm n35
      | exact absurd q.symm n36
      | exact absurd q.symm n45
      | exact absurd q.symm n46
      | exact absurd q.symm n56
theorem CS_init {cs : Nat → ClassId} {a0 a1 a2 a3 a4 a5 a6 : Nat} {L : List Nat} {f : Nat → va_E} {y : Int32} (th : Int32) (m0 : a0 ∈ L) (m1 : a1 ∈ L) (m2 : a2 ∈ L) (m3 : a3 ∈ L) (m4 : a4 ∈ L) (m5 : a5 ∈ L) (m6 : a6 ∈ L) (e0 : f a0 = oFB a1 a2 a3 a4 a5 0 0 0 y 50 (-1)) (e1 : f a1 = oArr (cs 0) 30 (fun _ => none)) (e2 : f a2 = oArr (cs 1) 300 (fun _ => none)) (e3 : f a3 = oArr (cs 2) 100 (fun _ => none)) (e4 : f a4 = oArr (cs 3) 10 (fun _ => none)) (e5 : f a5 = oBat a6 0 0) (e6 : f a6 = oArr (cs 4) 20 (fun _ => none)) (n01 : a0 ≠ a1) (n02 : a0 ≠ a2) (n03 : a0 ≠ a3) (n04 : a0 ≠ a4) (n05 : a0 ≠ a5) (n06 : a0 ≠ a6) (n12 : a1 ≠ a2) (n13 : a1 ≠ a3) (n14 : a1 ≠ a4) (n15 : a1 ≠ a5) (n16 : a1 ≠ a6) (n23 : a2 ≠ a3) (n24 : a2 ≠ a4) (n25 : a2 ≠ a5) (n26 : a2 ≠ a6) (n34 : a3 ≠ a4) (n35 : a3 ≠ a5) (n36 : a3 ≠ a6) (n45 : a4 ≠ a5) (n46 : a4 ≠ a6) (n56 : a5 ≠ a6) (hy : 0 ≤ y.toInt ∧ y.toInt ≤ 9999) : CS cs a0 (th, y, 0, 0, 0, 50, 0, -1, (fun _ _ => 0), (fun _ _ => 0), (fun _ _ => false), (fun _ _ => 0)) L f := by
  refine ⟨_, _, _, (fun _ _ => 0), (fun _ _ => 0), ?_, CP_7 m0 m1 m2 m3 m4 m5 m6 e0 e1 e2 e3 e4 e5 e6 n01 n02 n03 n04 n05 n06 n12 n13 n14 n15 n16 n23 n24 n25 n26 n34 n35 n36 n45 n46 n56, ⟨?_, ?_, ?_, ?_, ?_, ?_, ?_, ?_, ?_, ?_, ?_, ?_, ?_, ?_⟩, ⟨by omega, by omega, by omega, by omega, ?_, ?_, ?_, ?_, ?_, ?_⟩, ⟨?_, ?_⟩, ⟨hy, ?_, ?_, ?_, ?_⟩⟩
  · rfl
  · exact ⟨rfl, rfl, rfl, rfl, rfl, rfl⟩
  · rfl
  · show oArr (cs 0) 30 (fun _ => none) = oArr (cs 0) 30 (fun i => if i < 0 then _ else none)
    congr 6
  · show oArr (cs 1) 300 (fun _ => none) = oArr (cs 1) 300 (fun i => if i < 0 then _ else none)
    congr 6
  · show oArr (cs 2) 100 (fun _ => none) = oArr (cs 2) 100 (fun i => if i < 0 then _ else none)
    congr 6
  · rfl
  · rfl
  · show oArr (cs 4) 20 (fun _ => none) = oArr (cs 4) 20 (fun i => if i < 0 then _ else none)
    congr 6
  · intro i hi; omega
  · intro i hi; omega
  · intro i hi; omega
  · intro i hi; omega
  · intro i hi; omega
  · intro c r hc hr; exact absurd hr (Nat.not_lt_zero r)
  · intro i hi; omega
  · intro i hi; omega
  · intro i hi; omega
  · intro c hc; exact Nat.zero_le 10
  · intro i hi; omega
  · intro c r hc hr; exact absurd hr (Nat.not_lt_zero r)
  · intro i hi; omega
  · intro i hi; omega
  · intro i hi; omega
  · intro i hi; omega
  · intro j hj; exact ⟨rfl, rfl⟩
  · intro i hi; exact ⟨rfl, fun w hw => rfl⟩
theorem year0 (x : Int32) : (if 0 < (if x < 9999 then x else 9999) then (if x < 9999 then x else 9999) else 0) = (if 0 ≤ x then (if x ≤ 9999 then x else 9999) else 0) := by
  have e0 : (0 : Int32).toInt = 0 := by decide
  have e1 : (9999 : Int32).toInt = 9999 := by decide
  simp only [Int32.lt_iff_toInt_lt, Int32.le_iff_toInt_le, e0, e1]
  apply Int32.toInt_inj.mp
  split <;> split <;> (try split) <;> (try split) <;> simp only [e0, e1] at * <;> omega
theorem year_in (x : Int32) : 0 ≤ (if 0 ≤ x then (if x ≤ 9999 then x else 9999) else (0 : Int32)).toInt ∧ (if 0 ≤ x then (if x ≤ 9999 then x else 9999) else (0 : Int32)).toInt ≤ 9999 := by
  have e0 : (0 : Int32).toInt = 0 := by decide
  have e1 : (9999 : Int32).toInt = 9999 := by decide
  simp only [Int32.le_iff_toInt_le, e0, e1]
  split
  · split
    · omega
    · rw [e1]; omega
  · rw [e0]; omega
/-- the start of a constructor that makes arrays of objects -/
def AOs (U : State) : Prop := va_AO "FundBook$Account" U ∧ va_AO "FundBook$Purchase" U ∧ va_AO "FundBook$Move" U ∧ va_AO "FundBook$Rate" U
theorem AOs.moved {u U : State} (h : u.vm.Alike U.vm) (a : AOs u) : AOs U := ⟨va_AO.moved h a.1, va_AO.moved h a.2.1, va_AO.moved h a.2.2.1, va_AO.moved h a.2.2.2⟩
def in_P (D : va_G) (cl : List vw_C) (tys : List (ClassId × FieldType)) (ws : va_W) (sz : Nat) (av : List Value) : Array Value → State → Prop := fun v U => mu_P D cl tys ws sz av v U ∧ AOs U
theorem in_blind {D : va_G} {cl : List vw_C} {tys : List (ClassId × FieldType)} {ws : va_W} {sz : Nat} {av : List Value} : FrameBlind (in_P D cl tys ws sz av) := fun a U g mk q => ⟨mu_blind a U g mk q.1, AOs.moved (u := U) (U := U.calling g mk a) (Vm.Alike.refl U.vm) q.2⟩
theorem in_pre {s : State} {H : Heap} {D : va_G} {cl : List vw_C} {tys : List (ClassId × FieldType)} {ws : va_W} {A : Nat → Prop} {av : List Value} (hK : va_K D cl tys s) (hN : NK s) (hP : va_P D cl ws H) (hD : va_D A ws) (hO : AOs s) : PreS s H (in_P D cl tys ws H.size av) av := ⟨in_blind, fun U hU hW => ⟨(mu_preS hK hN hP hD).2 U hU hW, hO.moved hW.alike⟩⟩
section INC
variable {p : Program} {l : Launch} {e : Env} {R : Room} {s : State} {m : MethodId} {args : Array Value} {below : List Frame} {meth : Method} {c : Code} {H : Heap} {locs : List Loc} {cells slots : Nat} {Q : State → Prop}
variable {pc : Nat} {ls : Array Slot} {rest st0 : List Value} {a : Array Value} {A : Nat → Prop} {H0 : Heap} {mc ms : Nat} {D : va_G} {cl : List vw_C} {ws : va_W}
/-- behind a call that makes arrays: their classes come along -/
theorem in_callv {S : Type} {wf : S → va_W} {tf : S → List (ClassId × FieldType)} {post : S → Prop} (hr : va_Run p l e R s m args below meth c H locs cells slots mc ms (F0 m pc ls st0) rest (va_Qv post (fun u t => va_P D cl (wf u) t.heap ∧ va_K D cl (tf u) t ∧ va_D (va_A ws H.size) (wf u)) (va_A ws H.size) a) (va_A ws H.size)) (hD : va_D A ws) (hS : va_S A H0 H locs) (hA : ∀ q, H0.size ≤ q → A q)
    (kk : ∀ (u : S) (H1 : Heap) (locs1 : List Loc), post u → va_K D cl (tf u) s → va_P D cl (wf u) H1 → va_D A (wf u) → va_S A H0 H1 locs1 → W p l e R s m args below meth c H1 locs1 (cells + mc) (slots + ms) Q (F0 m (pc + 3) ls rest)) : W p l e R s m args below meth c H locs cells slots Q (F0 m pc ls st0) := by
  have hF := mu_free hD hS hA
  refine va_callv hr hS (fun q _ h => hF q h) hF (fun u t H1 locs1 ht hvm hw hB _ _ hS1 => ?_)
  obtain ⟨h1, h2, h3⟩ := hB
  rw [ht] at h1
  exact kk u H1 locs1 hw (va_K.moved hvm.symm h2) h1 (h3.weaken (fun k q _ h => hF q.1 h)) hS1
end INC
