theorem StOk.moved {X : CX} {s U : State} {locs : List Loc} (hW : s.WarmedH U.vm) (hS : va_S (cx_A X) s.heap U.heap locs) (h : StOk X s) : StOk X U := by
  obtain ⟨h1, h2, h3, h4, ⟨e1, e2, e3, e4, e5, e6⟩, h6⟩ := h
  have hk : ∀ a : Nat, a < s.heap.size → ¬ cx_A X a → U.heap[a]? = s.heap[a]? := fun a ha hn => hS.2.1 a ha hn
  refine ⟨h1.moved hW.alike, h2.moved hW, ⟨h3.1.moved hW.alike, h3.2.1.moved hW.alike, h3.2.2.1.moved hW.alike, h3.2.2.2.1.moved hW.alike, h3.2.2.2.2.moved hW.alike⟩, h4.warmC hW, ⟨(e1.moved hW.alike).kept hk, (e2.moved hW.alike).kept hk, e3.moved hW.alike, e4.moved hW.alike, (e5.moved hW.alike).kept (hk _ (Nat.lt_of_lt_of_le e6 h6) (Nat.not_le.mpr e6)), e6⟩, Nat.le_trans h6 hS.1⟩
def lvOK (X : CX) (ls : Array Slot) (nL : Nat) (L : List (Option LV)) : Prop := ls.size = nL ∧ lv_wf ls ∧ ∀ (i : Nat) (v : LV), L[i]? = some (some v) → ls[i]? = some (.val (cx_v X v))
/-- the place of a return instruction that fits the answer -/
def retAt (M : MD) (pc : Nat) (r : Option LV) : Prop :=
  (r = none ∧ M.2.2.2.1 = none ∧ decode M.2.1 pc = .ok (.return_, 1)) ∨
  (∃ v : Int32, r = some (iV v) ∧ ((M.2.2.2.1 = some .int) ∨ (M.2.2.2.1 = some .boolean ∧ (v = 0 ∨ v = 1))) ∧ decode M.2.1 pc = .ok (.ireturn, 1)) ∨
  (∃ v : Int64, r = some (lV v) ∧ M.2.2.2.1 = some .long ∧ decode M.2.1 pc = .ok (.lreturn, 1)) ∨
  (∃ (q : Option Nat) (t : FieldType), r = some (rV q) ∧ M.2.2.2.1 = some t ∧ ((∃ n, t = .object n) ∨ ∃ t', t = .array t') ∧ decode M.2.1 pc = .ok (.areturn, 1))
def MCx (X : CX) (M : MD) (d : Nat) (p : Program) (R : Room) (s : State) (m : MethodId) (args : Array Value) (meth : Method) (c : Code) : Prop :=
  p.tables.exec = Jvm.exec ∧ c.code = M.2.1 ∧ meth.sig.returnType = M.2.2.2.1 ∧ c.maxLocals = M.2.2.1 ∧ s.vm.findClass M.1.cls = some m.cls ∧ (∀ w ∈ lw_g, w.before args s = true) ∧ meth.locks = false ∧ (M.2.2.2.2 = true → meth.name = "<init>") ∧ StOk X s ∧ d ≤ R.frames ∧ 64 * d ≤ R.locals
/-- exact: from this frame, over a heap that is G, the method comes to its return with r, and the heap is G' -/
def Sm (X : CX) (M : MD) (d pc : Nat) (L : List (Option LV)) (S : List LV) (G : GH) (r : Option LV) (G' : GH) : Prop :=
  ∀ (p : Program) (e : Env) (R : Room) (s : State) (m : MethodId) (args : Array Value) (below : List Frame) (meth : Method) (c : Code), MCx X M d p R s m args meth c →
  ∀ (H : Heap) (locs : List Loc) (cells slots : Nat) (ls : Array Slot) (Z : State → Prop), Rel X G H → va_S (cx_A X) s.heap H locs → lvOK X ls M.2.2.1 L →
    cells + (gh_n G' - gh_n G) ≤ R.cells → slots + (gh_s G' - gh_s G) ≤ R.slots →
    (∀ (H' : Heap) (locs' : List Loc) (ls' : Array Slot) (pc' : Nat), Rel X G' H' → va_S (cx_A X) s.heap H' locs' → retAt M pc' r →
      W p X.1 e R s m args below meth c H' locs' (cells + (gh_n G' - gh_n G)) (slots + (gh_s G' - gh_s G)) Z (F0 m pc' ls' (r.toList.map (cx_v X)))) →
    W p X.1 e R s m args below meth c H locs cells slots Z (F0 m pc ls (S.map (cx_v X)))
def Ev (X : CX) (M : MD) (d pc : Nat) (L : List (Option LV)) (S : List LV) (G : GH) (Q : Option LV → GH → Prop) : Prop :=
  ∃ (r : Option LV) (G' : GH), gh_n G ≤ gh_n G' ∧ gh_s G ≤ gh_s G' ∧ Sm X M d pc L S G r G' ∧ Q r G'
theorem Ev.mono {X : CX} {M : MD} {d pc : Nat} {L : List (Option LV)} {S : List LV} {G : GH} {Q Q' : Option LV → GH → Prop} (h : Ev X M d pc L S G Q) (hq : ∀ r G', Q r G' → Q' r G') : Ev X M d pc L S G Q' := by
  obtain ⟨r, G', h1, h2, h3, h4⟩ := h
  exact ⟨r, G', h1, h2, h3, hq r G' h4⟩
/-- a step that leaves the heap as it is -/
def Ps (X : CX) (M : MD) (d pc : Nat) (L : List (Option LV)) (S : List LV) (pc' : Nat) (L' : List (Option LV)) (S' : List LV) : Prop :=
  ∀ (p : Program) (e : Env) (R : Room) (s : State) (m : MethodId) (args : Array Value) (below : List Frame) (meth : Method) (c : Code), MCx X M d p R s m args meth c →
  ∀ (H : Heap) (locs : List Loc) (cells slots : Nat) (ls : Array Slot) (Z : State → Prop), va_S (cx_A X) s.heap H locs → lvOK X ls M.2.2.1 L →
    (∀ ls' : Array Slot, lvOK X ls' M.2.2.1 L' → W p X.1 e R s m args below meth c H locs cells slots Z (F0 m pc' ls' (S'.map (cx_v X)))) →
    W p X.1 e R s m args below meth c H locs cells slots Z (F0 m pc ls (S.map (cx_v X)))
theorem Ev.ps {X : CX} {M : MD} {d pc pc' : Nat} {L L' : List (Option LV)} {S S' : List LV} {G : GH} {Q : Option LV → GH → Prop} (hp : Ps X M d pc L S pc' L' S') (h : Ev X M d pc' L' S' G Q) : Ev X M d pc L S G Q := by
  obtain ⟨r, G', h1, h2, h3, h4⟩ := h
  refine ⟨r, G', h1, h2, ?_, h4⟩
  intro p e R s m args below meth c C H locs cells slots ls Z hR hS hl hc hs k
  exact hp p e R s m args below meth c C H locs cells slots ls Z hS hl fun ls' hl' => h3 p e R s m args below meth c C H locs cells slots ls' Z hR hS hl' hc hs k
section RET
variable {X : CX} {M : MD} {d pc : Nat} {L : List (Option LV)} {G : GH} {Q : Option LV → GH → Prop}
theorem Ev.done {r : Option LV} (hr : retAt M pc r) (hq : Q r G) : Ev X M d pc L r.toList G Q := by
  refine ⟨r, G, Nat.le_refl _, Nat.le_refl _, ?_, hq⟩
  intro p e R s m args below meth c C H locs cells slots ls Z hR hS hl hc hs k
  have h := k H locs ls pc hR hS hr
  simpa using h
theorem ev_return (hd : decode M.2.1 pc = .ok (.return_, 1)) (ht : M.2.2.2.1 = none) (hq : Q none G) : Ev X M d pc L [] G Q := Ev.done (r := none) (Or.inl ⟨rfl, ht, hd⟩) hq
theorem ev_ireturn {v : Int32} (hd : decode M.2.1 pc = .ok (.ireturn, 1)) (ht : M.2.2.2.1 = some .int) (hq : Q (some (iV v)) G) : Ev X M d pc L [iV v] G Q := Ev.done (r := some (iV v)) (Or.inr (Or.inl ⟨v, rfl, Or.inl ht, hd⟩)) hq
theorem ev_zreturn {v : Int32} (hd : decode M.2.1 pc = .ok (.ireturn, 1)) (ht : M.2.2.2.1 = some .boolean) (hv : v = 0 ∨ v = 1) (hq : Q (some (iV v)) G) : Ev X M d pc L [iV v] G Q := Ev.done (r := some (iV v)) (Or.inr (Or.inl ⟨v, rfl, Or.inr ⟨ht, hv⟩, hd⟩)) hq
theorem ev_lreturn {v : Int64} (hd : decode M.2.1 pc = .ok (.lreturn, 1)) (ht : M.2.2.2.1 = some .long) (hq : Q (some (lV v)) G) : Ev X M d pc L [lV v] G Q := Ev.done (r := some (lV v)) (Or.inr (Or.inr (Or.inl ⟨v, rfl, ht, hd⟩))) hq
theorem ev_areturn {v : Option Nat} {n : String} (hd : decode M.2.1 pc = .ok (.areturn, 1)) (ht : M.2.2.2.1 = some (.object n)) (hq : Q (some (rV v)) G) : Ev X M d pc L [rV v] G Q := Ev.done (r := some (rV v)) (Or.inr (Or.inr (Or.inr ⟨v, _, rfl, ht, Or.inl ⟨n, rfl⟩, hd⟩))) hq
theorem ev_areturnA {v : Option Nat} {t : FieldType} (hd : decode M.2.1 pc = .ok (.areturn, 1)) (ht : M.2.2.2.1 = some (.array t)) (hq : Q (some (rV v)) G) : Ev X M d pc L [rV v] G Q := Ev.done (r := some (rV v)) (Or.inr (Or.inr (Or.inr ⟨v, _, rfl, ht, Or.inr ⟨t, rfl⟩, hd⟩))) hq
end RET
