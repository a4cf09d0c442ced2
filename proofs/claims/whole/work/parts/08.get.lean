section HEAP
variable {X : CX} {M : MD} {d pc pc' : Nat} {L : List (Option LV)} {S S' : List LV} {G G1 : GH} {Q : Option LV → GH → Prop}
theorem Ev.rd (hp : ∀ (p : Program) (e : Env) (R : Room) (s : State) (m : MethodId) (args : Array Value) (below : List Frame) (meth : Method) (c : Code), MCx X M d p R s m args meth c → ∀ (H : Heap) (locs : List Loc) (cells slots : Nat) (ls : Array Slot) (Z : State → Prop), Rel X G H → va_S (cx_A X) s.heap H locs → lvOK X ls M.2.2.1 L →
    W p X.1 e R s m args below meth c H locs cells slots Z (F0 m pc' ls (S'.map (cx_v X))) → W p X.1 e R s m args below meth c H locs cells slots Z (F0 m pc ls (S.map (cx_v X))))
    (h : Ev X M d pc' L S' G Q) : Ev X M d pc L S G Q := by
  obtain ⟨r, G', h1, h2, h3, h4⟩ := h
  refine ⟨r, G', h1, h2, ?_, h4⟩
  intro p e R s m args below meth c C H locs cells slots ls Z hR hS hl hc hs k
  exact hp p e R s m args below meth c C H locs cells slots ls Z hR hS hl (h3 p e R s m args below meth c C H locs cells slots ls Z hR hS hl hc hs k)
theorem Ev.wr (hn : gh_n G1 = gh_n G) (hsl : gh_s G1 = gh_s G) (hp : ∀ (p : Program) (e : Env) (R : Room) (s : State) (m : MethodId) (args : Array Value) (below : List Frame) (meth : Method) (c : Code), MCx X M d p R s m args meth c → ∀ (H : Heap) (locs : List Loc) (cells slots : Nat) (ls : Array Slot) (Z : State → Prop), Rel X G H → va_S (cx_A X) s.heap H locs → lvOK X ls M.2.2.1 L →
    (∀ (H' : Heap) (locs' : List Loc), Rel X G1 H' → va_S (cx_A X) s.heap H' locs' → W p X.1 e R s m args below meth c H' locs' cells slots Z (F0 m pc' ls (S'.map (cx_v X)))) → W p X.1 e R s m args below meth c H locs cells slots Z (F0 m pc ls (S.map (cx_v X))))
    (h : Ev X M d pc' L S' G1 Q) : Ev X M d pc L S G Q := by
  obtain ⟨r, G', h1, h2, h3, h4⟩ := h
  refine ⟨r, G', by rw [← hn]; exact h1, by rw [← hsl]; exact h2, ?_, h4⟩
  intro p e R s m args below meth c C H locs cells slots ls Z hR hS hl hc hs k
  rw [← hn] at hc k
  rw [← hsl] at hs k
  exact hp p e R s m args below meth c C H locs cells slots ls Z hR hS hl (fun H' locs' hR' hS' => h3 p e R s m args below meth c C H' locs' cells slots ls Z hR' hS' hl hc hs k)
theorem Ev.al {N : Nat} (hn : gh_n G1 = gh_n G + 1) (hsl : gh_s G1 = gh_s G + N) (hp : ∀ (p : Program) (e : Env) (R : Room) (s : State) (m : MethodId) (args : Array Value) (below : List Frame) (meth : Method) (c : Code), MCx X M d p R s m args meth c → ∀ (H : Heap) (locs : List Loc) (cells slots : Nat) (ls : Array Slot) (Z : State → Prop), Rel X G H → va_S (cx_A X) s.heap H locs → lvOK X ls M.2.2.1 L → cells + 1 ≤ R.cells → slots + N ≤ R.slots →
    (∀ (H' : Heap), Rel X G1 H' → va_S (cx_A X) s.heap H' locs → W p X.1 e R s m args below meth c H' locs (cells + 1) (slots + N) Z (F0 m pc' ls (S'.map (cx_v X)))) → W p X.1 e R s m args below meth c H locs cells slots Z (F0 m pc ls (S.map (cx_v X))))
    (h : Ev X M d pc' L S' G1 Q) : Ev X M d pc L S G Q := by
  obtain ⟨r, G', h1, h2, h3, h4⟩ := h
  refine ⟨r, G', by omega, by omega, ?_, h4⟩
  intro p e R s m args below meth c C H locs cells slots ls Z hR hS hl hc hs k
  have e1 : gh_n G' - gh_n G = 1 + (gh_n G' - gh_n G1) := by omega
  have e2 : gh_s G' - gh_s G = N + (gh_s G' - gh_s G1) := by omega
  rw [e1, ← Nat.add_assoc] at hc k
  rw [e2, ← Nat.add_assoc] at hs k
  exact hp p e R s m args below meth c C H locs cells slots ls Z hR hS hl (by omega) (by omega) (fun H' hR' hS' => h3 p e R s m args below meth c C H' locs _ _ ls Z hR' hS' hl hc hs k)
theorem cellE_obj {i q : Nat} (hk : G.1 i = q) (hq : q < 11) : cellE X G i = .inr (q, fvs X G q i) := by
  unfold cellE
  rw [hk, if_pos (by omega)]
theorem fvs_at {q k i : Nat} (hk : k < gnf q) : (fvs X G q i)[k]? = some (fv X G (gty q k) (64 * q + k) i) := by
  unfold fvs
  rw [List.getElem?_map, List.getElem?_range hk]
  rfl
theorem f_eq {f : Nat} : 64 * (f / 64) + f % 64 = f := Nat.div_add_mod f 64
theorem Rel.P {H : Heap} {i : Nat} (hR : Rel X G H) (hk : G.1 i < 900) : va_P X.2.1 gcl [(cx_ad X i, cellE X G i)] H := by
  intro k q h
  have hz : k < 1 := (List.getElem?_eq_some_iff.mp h).1
  rw [show k = 0 by omega] at h
  cases h
  exact (hR.2.1 i hk).2.2
theorem ev_get {i f idx : Nat} {v : LV} (hd : decode M.2.1 pc = .ok (.getfield idx, 3)) (hf : FLk M.1.cls idx f) (hk : G.1 i = f / 64) (hv : fv X G (gty (f / 64) (f % 64)) f i = cx_v X v) (k : Ev X M d (pc + 3) L (v :: S) G Q) : Ev X M d pc L (rV (some i) :: S) G Q := by
  refine Ev.rd ?_ k
  intro p e R s m args below meth c C H locs cells slots ls Z hR hS hl kk
  obtain ⟨hx, hb, hr, hml, hown, hts, hlk, hin, hK, -⟩ := C
  obtain ⟨h1, h2, h3⟩ := hf
  have hP := hR.P (i := i) (by rw [hk]; omega)
  rw [cellE_obj hk h1] at hP
  have hv2 : (fvs X G (f / 64) i)[f % 64]? = some (cx_v X v) := by rw [fvs_at h2, f_eq, hv]
  rcases h3 with h3 | ⟨host, h3⟩
  · exact va_get (ci := f / 64) (T := gTn (f / 64)) hx hb hts (gin _ h1) hown hK.1 hP 0 rfl (gcl_at _ h1) (f % 64) h2 (hts _ h3) (fun _ h9 => h9) hv2 hd kk
  · exact va_getN (ci := f / 64) (T := gTn (f / 64)) hx hb hts (gin _ h1) hown hK.1 hP 0 rfl (gcl_at _ h1) (f % 64) h2 (va_Nw.use rfl (hK.2.1 _ h3)) (fun _ h9 => h9) hv2 hd kk
end HEAP
section GET
variable {X : CX} {M : MD} {d pc : Nat} {L : List (Option LV)} {S : List LV} {Q : Option LV → GH → Prop} {K : Nat → Nat} {I : Nat → Nat → Int32} {J : Nat → Nat → Int64} {R : Nat → Nat → Option Nat} {A : Nat → Nat → Int32} {B : Nat → Nat → Option Nat} {Ln : Nat → Nat} {n sl : Nat}
theorem ev_getI {i f idx : Nat} (hd : decode M.2.1 pc = .ok (.getfield idx, 3)) (hf : FLi M.1.cls idx f) (hk : K i = f / 64) (k : Ev X M d (pc + 3) L (iV (I f i) :: S) (K, I, J, R, A, B, Ln, n, sl) Q) : Ev X M d pc L (rV (some i) :: S) (K, I, J, R, A, B, Ln, n, sl) Q :=
  ev_get hd hf.1 hk (by rcases hf.2 with h | h <;> rw [h] <;> rfl) k
theorem ev_getJ {i f idx : Nat} (hd : decode M.2.1 pc = .ok (.getfield idx, 3)) (hf : FLj M.1.cls idx f) (hk : K i = f / 64) (k : Ev X M d (pc + 3) L (lV (J f i) :: S) (K, I, J, R, A, B, Ln, n, sl) Q) : Ev X M d pc L (rV (some i) :: S) (K, I, J, R, A, B, Ln, n, sl) Q :=
  ev_get hd hf.1 hk (by rw [hf.2]; rfl) k
theorem ev_getR {i f idx : Nat} {r : Option Nat} (hd : decode M.2.1 pc = .ok (.getfield idx, 3)) (hf : FLr M.1.cls idx f) (hk : K i = f / 64) (hr : R f i = r) (k : Ev X M d (pc + 3) L (rV r :: S) (K, I, J, R, A, B, Ln, n, sl) Q) : Ev X M d pc L (rV (some i) :: S) (K, I, J, R, A, B, Ln, n, sl) Q := by
  subst hr
  exact ev_get hd hf.1 hk (by rcases hf.2 with ⟨n, h⟩ | ⟨t, h⟩ <;> rw [h] <;> rfl) k
end GET
