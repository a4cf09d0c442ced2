section MATH
variable {X : CX} {M : MD} {d pc pc' : Nat} {L : List (Option LV)} {S S' : List LV} {G : GH} {Q : Option LV → GH → Prop}
theorem Ev.psr (hp : ∀ (p : Program) (e : Env) (R : Room) (s : State) (m : MethodId) (args : Array Value) (below : List Frame) (meth : Method) (c : Code), MCx X M d p R s m args meth c →
    ∀ (H : Heap) (locs : List Loc) (cells slots : Nat) (ls : Array Slot) (Z : State → Prop), va_S (cx_A X) s.heap H locs → lvOK X ls M.2.2.1 L → cells ≤ R.cells → slots ≤ R.slots →
    W p X.1 e R s m args below meth c H locs cells slots Z (F0 m pc' ls (S'.map (cx_v X))) → W p X.1 e R s m args below meth c H locs cells slots Z (F0 m pc ls (S.map (cx_v X))))
    (h : Ev X M d pc' L S' G Q) : Ev X M d pc L S G Q := by
  obtain ⟨r, G', h1, h2, h3, h4⟩ := h
  refine ⟨r, G', h1, h2, ?_, h4⟩
  intro p e R s m args below meth c C H locs cells slots ls Z hR hS hl hc hs k
  exact hp p e R s m args below meth c C H locs cells slots ls Z hS hl (Nat.le_trans (Nat.le_add_right _ _) hc) (Nat.le_trans (Nat.le_add_right _ _) hs) (h3 p e R s m args below meth c C H locs cells slots ls Z hR hS hl hc hs k)
theorem mcat {S : List LV} {R : Room} (h : 64 * (d + 1) ≤ R.locals) (hW : catS X S ≤ 8) : ((S.map (cx_v X)).map fun v => v.category).sum ≤ 8 ∧ 64 ≤ R.locals := by
  have e : ((S.map (cx_v X)).map fun v => v.category).sum = catS X S := by unfold catS; rw [List.map_map]; rfl
  exact ⟨by rw [e]; exact hW, by omega⟩
def MLp (own : String) (idx : Nat) (y : MethodName) : Prop := Cond.methodLink own idx y ∈ lw_g
theorem ev_maxI {idx : Nat} {x y : Int32} (hd : decode M.2.1 pc = .ok (.invokestatic idx, 3)) (hm : MLp M.1.cls idx mJ9_max_7cf53.1) (hW : catS X S ≤ 8) (k : Ev X M (d + 1) (pc + 3) L (iV (if x < y then y else x) :: S) G Q) : Ev X M (d + 1) pc L (iV y :: iV x :: S) G Q := by
  refine Ev.psr ?_ k
  intro p e R s m args below meth c C H locs cells slots ls Z hS hl' hc1 hc2 kk
  obtain ⟨hx, hb, hr, hml, hown, hts, hlk, hin, hK, hfr, hlo⟩ := C
  have hc := mcat hlo hW
  exact va_mmax hx hb (by rw [hml]; exact hl'.1.symm) hown (hts _ hm) (hts _ stJ9_max_7cf53) (hts _ math_ini) (hts _ cdJ9_max_7cf53) (by omega) (by omega) hc1 hc2 hd kk
theorem ev_minI {idx : Nat} {x y : Int32} (hd : decode M.2.1 pc = .ok (.invokestatic idx, 3)) (hm : MLp M.1.cls idx mJ9_min_7cf53.1) (hW : catS X S ≤ 8) (k : Ev X M (d + 1) (pc + 3) L (iV (if y < x then y else x) :: S) G Q) : Ev X M (d + 1) pc L (iV y :: iV x :: S) G Q := by
  refine Ev.psr ?_ k
  intro p e R s m args below meth c C H locs cells slots ls Z hS hl' hc1 hc2 kk
  obtain ⟨hx, hb, hr, hml, hown, hts, hlk, hin, hK, hfr, hlo⟩ := C
  have hc := mcat hlo hW
  exact va_mmin hx hb (by rw [hml]; exact hl'.1.symm) hown (hts _ hm) (hts _ stJ9_min_7cf53) (hts _ math_ini) (hts _ cdJ9_min_7cf53) (by omega) (by omega) hc1 hc2 hd kk
theorem ev_maxL {idx : Nat} {x y : Int64} (hd : decode M.2.1 pc = .ok (.invokestatic idx, 3)) (hm : MLp M.1.cls idx mJ9_max_f86c9.1) (hW : catS X S ≤ 8) (k : Ev X M (d + 1) (pc + 3) L (lV (if y < x then x else y) :: S) G Q) : Ev X M (d + 1) pc L (lV y :: lV x :: S) G Q := by
  refine Ev.psr ?_ k
  intro p e R s m args below meth c C H locs cells slots ls Z hS hl' hc1 hc2 kk
  obtain ⟨hx, hb, hr, hml, hown, hts, hlk, hin, hK, hfr, hlo⟩ := C
  have hc := mcat hlo hW
  exact va_mmax_long hx hb (by rw [hml]; exact hl'.1.symm) hown (hts _ hm) (hts _ stJ9_max_f86c9) (hts _ math_ini) (hts _ cdJ9_max_f86c9) (by omega) (by omega) hc1 hc2 hd kk
theorem ev_minL {idx : Nat} {x y : Int64} (hd : decode M.2.1 pc = .ok (.invokestatic idx, 3)) (hm : MLp M.1.cls idx mJ9_min_f86c9.1) (hW : catS X S ≤ 8) (k : Ev X M (d + 1) (pc + 3) L (lV (if y < x then y else x) :: S) G Q) : Ev X M (d + 1) pc L (lV y :: lV x :: S) G Q := by
  refine Ev.psr ?_ k
  intro p e R s m args below meth c C H locs cells slots ls Z hS hl' hc1 hc2 kk
  obtain ⟨hx, hb, hr, hml, hown, hts, hlk, hin, hK, hfr, hlo⟩ := C
  have hc := mcat hlo hW
  exact va_mmin_long hx hb (by rw [hml]; exact hl'.1.symm) hown (hts _ hm) (hts _ stJ9_min_f86c9) (hts _ math_ini) (hts _ cdJ9_min_f86c9) (by omega) (by omega) hc1 hc2 hd kk
end MATH
