/-- the arguments as they lie in the locals; a long takes two places -/
def entL : List LV → List (Option LV)
  | [] => []
  | .inr (.inl x) :: r => some (lV x) :: none :: entL r
  | v :: r => some v :: entL r
def entP (As : List LV) (nL : Nat) : List (Option LV) := entL As ++ List.replicate (nL - (entL As).length) none
def EvM (X : CX) (M : MD) (d : Nat) (As : List LV) (G : GH) (Q : Option LV → GH → Prop) : Prop := Ev X M d 0 (entP As M.2.2.1) [] G Q
def MOk (M : MD) (n : Nat) : Prop := plainName M.1.cls = true ∧ Cond.code M.1 M.2.1 M.2.2.1 M.2.2.2.1 ∈ lw_g ∧ Cond.initialized M.1.cls ∈ lw_g ∧ (M.1.cls ≠ "java/lang/invoke/MethodHandle" ∧ M.1.cls ≠ "java/lang/invoke/VarHandle" ∧ (parseMethodDescriptor M.1.desc).map (fun d => d.parameters.length) = some n) ∧ M.2.2.1 ≤ 45 ∧ (M.2.2.2.2 = true → M.1.name = "<init>")
def MLk (own : String) (idx : Nat) (y : MethodName) : Prop := Cond.methodLink own idx y ∈ lw_g ∨ ∃ host, Cond.methodLinkNest own idx y host ∈ lw_n
abbrev mws (M : MD) : List Cond := Cond.code M.1 M.2.1 M.2.2.1 M.2.2.2.1 :: lw_g
abbrev mrm (d : Nat) (G G' : GH) : Room := { frames := d, cells := gh_n G' - gh_n G, slots := gh_s G' - gh_s G, locals := 64 * d }
theorem lw_g_good : GoodIn lw_g lw_g := fun w h => ⟨h, good_of_word (List.mem_filter.mp h).2⟩
theorem mws_good {M : MD} {n : Nat} (h : MOk M n) : GoodIn lw_g (mws M) := fun w hw => by
  rcases List.mem_cons.mp hw with rfl | hw
  · exact lw_g_good _ h.2.1
  · exact lw_g_good _ hw
section CALLS
variable {X : CX}
theorem entL_args : ∀ (As : List LV) (k i : Nat) (v : LV), (entL As)[i]? = some (some v) → (k + i, cx_v X v) ∈ lv_args k (As.map (cx_v X))
  | [], _, _, _, h => by simp [entL] at h
  | .inl x :: r, k, i, v, h => by
    cases i with
    | zero =>
      simp [entL] at h
      subst h
      exact List.mem_cons_self
    | succ j =>
      have h' : (entL r)[j]? = some (some v) := by simpa [entL] using h
      have := entL_args r (k + 1) j v h'
      rw [show k + 1 + j = k + (j + 1) by omega] at this
      exact List.mem_cons_of_mem _ this
  | .inr (.inl x) :: r, k, i, v, h => by
    match i, h with
    | 0, h =>
      simp [entL] at h
      subst h
      exact List.mem_cons_self
    | 1, h => simp [entL] at h
    | j + 2, h =>
      have h' : (entL r)[j]? = some (some v) := by simpa [entL] using h
      have := entL_args r (k + 2) j v h'
      rw [show k + 2 + j = k + (j + 2) by omega] at this
      exact List.mem_cons_of_mem _ this
  | .inr (.inr q) :: r, k, i, v, h => by
    cases i with
    | zero =>
      simp [entL] at h
      subst h
      cases q <;> exact List.mem_cons_self
    | succ j =>
      have h' : (entL r)[j]? = some (some v) := by simpa [entL] using h
      have := entL_args r (k + 1) j v h'
      rw [show k + 1 + j = k + (j + 1) by omega] at this
      cases q <;> exact List.mem_cons_of_mem _ this
theorem entL_len : ∀ As : List LV, (lg_sl (As.map (cx_v X))).length = (entL As).length
  | [] => rfl
  | .inl x :: r => by
    have := entL_len r
    simpa [lg_sl, entL, cx_v, Value.category] using this
  | .inr (.inl x) :: r => by
    have := entL_len r
    simpa [lg_sl, entL, cx_v, Value.category] using this
  | .inr (.inr none) :: r => by
    have := entL_len r
    simpa [lg_sl, entL, cx_v, Value.category, va_rf] using this
  | .inr (.inr (some y)) :: r => by
    have := entL_len r
    simpa [lg_sl, entL, cx_v, Value.category, va_rf] using this
theorem entP_ok {As : List LV} {nL : Nat} {ls : Array Slot} (h : lv_has ls nL (lv_args 0 (As.map (cx_v X)))) : lvOK X ls nL (entP As nL) := by
  refine ⟨h.1, h.2.1, fun i v hi => ?_⟩
  unfold entP at hi
  by_cases hl : i < (entL As).length
  · rw [List.getElem?_append_left hl] at hi
    have := entL_args (X := X) As 0 i v hi
    rw [Nat.zero_add] at this
    exact h.2.2 _ this
  · rw [List.getElem?_append_right (by omega)] at hi
    have hm := List.mem_of_getElem? hi
    have := List.eq_of_mem_replicate hm
    cases this
end CALLS
