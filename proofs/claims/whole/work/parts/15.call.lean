def catS (X : CX) (S : List LV) : Nat := (S.map (fun v => (cx_v X v).category)).sum
section CALL
variable {X : CX} {M M' : MD} {d pc n : Nat} {L : List (Option LV)} {S S0 As : List LV} {G G1 : GH} {r : Option LV} {Q Q1 : Option LV → GH → Prop}
theorem Ev.call (h1 : gh_n G ≤ gh_n G1) (h2 : gh_s G ≤ gh_s G1) (hrun : ∀ (p : Program) (e : Env) (R : Room) (s : State) (m : MethodId) (args : Array Value) (below : List Frame) (meth : Method) (c : Code), MCx X M (d + 1) p R s m args meth c →
    ∀ (H : Heap) (locs : List Loc) (cells slots : Nat) (ls : Array Slot), Rel X G H → va_S (cx_A X) s.heap H locs → lvOK X ls M.2.2.1 L → cells + (gh_n G1 - gh_n G) ≤ R.cells → slots + (gh_s G1 - gh_s G) ≤ R.slots →
      ∃ a : Array Value, va_Run p X.1 e R s m args below meth c H locs cells slots (gh_n G1 - gh_n G) (gh_s G1 - gh_s G) (F0 m pc ls (S0.map (cx_v X))) (S.map (cx_v X)) (QcX X r G1 a) (cx_A X))
    (k : Ev X M (d + 1) (pc + 3) L (r.toList ++ S) G1 Q) : Ev X M (d + 1) pc L S0 G Q := by
  obtain ⟨r', G', k1, k2, k3, k4⟩ := k
  refine ⟨r', G', Nat.le_trans h1 k1, Nat.le_trans h2 k2, ?_, k4⟩
  intro p e R s m args below meth c C H locs cells slots ls Z hR hS hl hc hs kk
  have e1 : gh_n G' - gh_n G = (gh_n G1 - gh_n G) + (gh_n G' - gh_n G1) := by omega
  have e2 : gh_s G' - gh_s G = (gh_s G1 - gh_s G) + (gh_s G' - gh_s G1) := by omega
  rw [e1, ← Nat.add_assoc] at hc kk
  rw [e2, ← Nat.add_assoc] at hs kk
  obtain ⟨a, hr⟩ := hrun p e R s m args below meth c C H locs cells slots ls hR hS hl (by omega) (by omega)
  intro T hT hX
  obtain ⟨v, st₀, t, T', L', h0, X', hL, f1, f2, ⟨hv, hR1, hF⟩, st⟩ := hr T hT hX
  have hv : v = r.map (cx_v X) := Outcome.returned.inj hv
  subst hv
  obtain ⟨hz, hk⟩ := hF
  rw [h0] at hz hk
  have hS1 : va_S (cx_A X) s.heap T'.heap (locs ++ L') := ⟨Nat.le_trans hS.1 (by rw [f1]; exact hz), fun q g1 g2 => by rw [f1, hk q (Nat.lt_of_lt_of_le g1 hS.1) g2]; exact hS.2.1 q g1 g2, fun q hq => by
    rcases List.mem_append.mp hq with h | h
    · exact hS.2.2 q h
    · exact hL q h⟩
  have hR1' : Rel X G1 T'.heap := by rw [f1]; exact hR1
  obtain ⟨t2, a1, b1⟩ := k3 p e R s m args below meth c C T'.heap (locs ++ L') _ _ ls Z hR1' hS1 hl hc hs kk T' rfl X'
  refine ⟨t2, st t2 ?_, b1⟩
  have es : (r.toList ++ S).map (cx_v X) = (r.map (cx_v X)).toList ++ S.map (cx_v X) := by cases r <;> simp
  rw [es] at a1
  exact a1
theorem lv_room' {m : MethodId} {ls : Array Slot} {st : List Value} (hW : catS X S ≤ 8) : 2 * (F0 m pc ls st).monitorRoom + ((S.map (cx_v X)).map fun v => v.category).sum ≤ 8 := by
  have e : ((S.map (cx_v X)).map fun v => v.category).sum = catS X S := by unfold catS; rw [List.map_map]; rfl
  exact lv_room (by rw [e]; exact hW)
theorem ev_callS {idx : Nat} (hd : decode M.2.1 pc = .ok (.invokestatic idx, 3)) (hok : MOk M' n) (hst : Cond.static M'.1 ∈ lw_g) (hl : MLk M.1.cls idx M'.1) (As : List LV) (hs : S0 = As.reverse ++ S) (hn : As.length = n) (hlen : (entL As).length ≤ M'.2.2.1) (hW : catS X S ≤ 8)
    (h : EvM X M' d As G Q1) (k : ∀ r G1, Q1 r G1 → Ev X M (d + 1) (pc + 3) L (r.toList ++ S) G1 Q) : Ev X M (d + 1) pc L S0 G Q := by
  obtain ⟨r, G1, h1, h2, h3, h4⟩ := h
  refine Ev.call h1 h2 ?_ (k r G1 h4)
  intro p e R s m args below meth c C H locs cells slots ls hR hS hlv hc1 hc2
  obtain ⟨hx, hb, hr, hml, hown, hts, hlk, hin, hK, hfr, hlo⟩ := C
  have hM := met_of (n := n) hok hlen h3
  have hp : PreS s H (PcX X As G) (As.map (cx_v X)) := ⟨PcX.blind, fun U hU hW' => ⟨rfl, by rw [hU]; exact hR, StOk.moved hW' (by rw [hU]; exact hS) hK⟩⟩
  have hstk : (S0.map (cx_v X)) = (As.map (cx_v X)).reverse ++ S.map (cx_v X) := by rw [hs, List.map_append, List.map_reverse]
  have hRm : d + 1 ≤ R.frames ∧ 8 + (M'.2.2.1 + 11) + 64 * d ≤ R.locals := ⟨hfr, by have := hok.2.2.2.2.1; omega⟩
  refine ⟨(As.map (cx_v X)).toArray, ?_⟩
  rcases hl with hl | ⟨host, hl⟩
  · exact va_runS (As := As.map (cx_v X)) ⟨hx, hb, hml, hown, hts⟩ hM ⟨callB_of n hts (mws_good hok) rfl rfl rfl (hts _ hok.2.2.1) (hts _ hl) hok.2.2.2.1 hRm, hts _ hst⟩ hp rfl (by rw [List.length_map]; exact hn) hlv.1 hstk (lv_room' hW) hd ⟨hc1, hc2⟩
  · exact va_runSN (As := As.map (cx_v X)) ⟨hx, hb, hml, hown, hts⟩ hM ⟨va_cnB n hts (mws_good hok) rfl rfl rfl (hK.2.1 _ hl) (hts _ hok.2.2.1) hok.2.2.2.1 hRm, hts _ hst, trivial⟩ hp rfl (by rw [List.length_map]; exact hn) hlv.1 hstk (lv_room' hW) hd ⟨hc1, hc2⟩
theorem ev_callV {idx i q : Nat} (hd : decode M.2.1 pc = .ok (.invokevirtual idx, 3)) (hok : MOk M' n) (hins : Cond.instanceMethod M'.1 ∈ lw_g) (hsel : Cond.selects M'.1.cls M'.1 M'.1 ∈ lw_g) (hl : MLk M.1.cls idx M'.1) (hk : G.1 i = q) (hq : q < 11) (hcl : gRn q = M'.1.cls) (As : List LV) (hs : S0 = As.reverse ++ rV (some i) :: S) (hn : As.length = n) (hlen : (entL (rV (some i) :: As)).length ≤ M'.2.2.1) (hW : catS X S ≤ 8)
    (h : EvM X M' d (rV (some i) :: As) G Q1) (k : ∀ r G1, Q1 r G1 → Ev X M (d + 1) (pc + 3) L (r.toList ++ S) G1 Q) : Ev X M (d + 1) pc L S0 G Q := by
  obtain ⟨r, G1, h1, h2, h3, h4⟩ := h
  refine Ev.call h1 h2 ?_ (k r G1 h4)
  intro p e R s m args below meth c C H locs cells slots ls hR hS hlv hc1 hc2
  obtain ⟨hx, hb, hr, hml, hown, hts, hlk, hin, hK, hfr, hlo⟩ := C
  have hM := met_of (n := n) hok hlen h3
  have hP := hR.P (i := i) (by rw [hk]; omega)
  rw [cellE_obj hk hq] at hP
  have hrec := va_recv hK.1 hP (gcl_at q hq) (q0 := 0) rfl
  rw [hcl] at hrec
  have hp : PreV s H M'.1.cls (cx_ad X i) (PcX X (rV (some i) :: As) G) (As.map (cx_v X)) := ⟨PcX.blind, hrec, fun U hU hW' => ⟨rfl, by rw [hU]; exact hR, StOk.moved hW' (by rw [hU]; exact hS) hK⟩⟩
  have hstk : (S0.map (cx_v X)) = (As.map (cx_v X)).reverse ++ .ref (cx_ad X i) :: S.map (cx_v X) := by rw [hs, List.map_append, List.map_reverse]; rfl
  have hRm : d + 1 ≤ R.frames ∧ 8 + (M'.2.2.1 + 11) + 64 * d ≤ R.locals := ⟨hfr, by have := hok.2.2.2.2.1; omega⟩
  refine ⟨(Value.ref (cx_ad X i) :: As.map (cx_v X)).toArray, ?_⟩
  rcases hl with hl | ⟨host, hl⟩
  · exact va_runV (As := As.map (cx_v X)) ⟨hx, hb, hml, hown, hts⟩ hM ⟨callB_of n hts (mws_good hok) rfl rfl rfl (hts _ hok.2.2.1) (hts _ hl) hok.2.2.2.1 hRm, hts _ hins, hts _ hsel⟩ hp rfl (by rw [List.length_map]; exact hn) hlv.1 hstk (lv_room' hW) hd ⟨hc1, hc2⟩
  · exact va_runVN (As := As.map (cx_v X)) ⟨hx, hb, hml, hown, hts⟩ hM ⟨va_cnB n hts (mws_good hok) rfl rfl rfl (hK.2.1 _ hl) (hts _ hok.2.2.1) hok.2.2.2.1 hRm, hts _ hins, hts _ hsel⟩ hp rfl (by rw [List.length_map]; exact hn) hlv.1 hstk (lv_room' hW) hd ⟨hc1, hc2⟩
theorem ev_callI {idx i : Nat} (hd : decode M.2.1 pc = .ok (.invokespecial idx, 3)) (hok : MOk M' n) (hins : Cond.instanceMethod M'.1 ∈ lw_g) (hnm : M'.1.name = "<init>") (hret : M'.2.2.2.1 = none) (hl : MLk M.1.cls idx M'.1) (As : List LV) (hs : S0 = As.reverse ++ rV (some i) :: S) (hn : As.length = n) (hlen : (entL (rV (some i) :: As)).length ≤ M'.2.2.1) (hW : catS X S ≤ 8)
    (h : EvM X M' d (rV (some i) :: As) G Q1) (k : ∀ r G1, Q1 r G1 → Ev X M (d + 1) (pc + 3) L (r.toList ++ S) G1 Q) : Ev X M (d + 1) pc L S0 G Q := by
  obtain ⟨r, G1, h1, h2, h3, h4⟩ := h
  refine Ev.call h1 h2 ?_ (k r G1 h4)
  intro p e R s m args below meth c C H locs cells slots ls hR hS hlv hc1 hc2
  obtain ⟨hx, hb, hr, hml, hown, hts, hlk, hin, hK, hfr, hlo⟩ := C
  have hM := met_of (n := n) hok hlen h3
  have hgd := mws_good hok
  have hp : PreS s H (PcX X (rV (some i) :: As) G) (.ref (cx_ad X i) :: As.map (cx_v X)) := ⟨PcX.blind, fun U hU hW' => ⟨rfl, by rw [hU]; exact hR, StOk.moved hW' (by rw [hU]; exact hS) hK⟩⟩
  have hstk : (S0.map (cx_v X)) = (As.map (cx_v X)).reverse ++ .ref (cx_ad X i) :: S.map (cx_v X) := by rw [hs, List.map_append, List.map_reverse]; rfl
  have hRm : d + 1 ≤ R.frames ∧ 8 + (M'.2.2.1 + 11) + 64 * d ≤ R.locals := ⟨hfr, by have := hok.2.2.2.2.1; omega⟩
  refine ⟨(Value.ref (cx_ad X i) :: As.map (cx_v X)).toArray, ?_⟩
  have hw : mws M' = Cond.code M'.1 M'.2.1 M'.2.2.1 none :: lw_g := by rw [← hret]
  rcases hl with hl | ⟨host, hl⟩
  · exact va_runI (As := As.map (cx_v X)) ⟨hx, hb, hml, hown, hts⟩ hM ⟨callB_of n hts hgd hw rfl rfl (hts _ hok.2.2.1) (hts _ hl) hok.2.2.2.1 hRm, hnm, hts _ hins⟩ hp rfl (by rw [List.length_map]; exact hn) hlv.1 hstk (lv_room' hW) hd ⟨hc1, hc2⟩
  · exact va_runIN (As := As.map (cx_v X)) ⟨hx, hb, hml, hown, hts⟩ hM ⟨va_cnB n hts hgd hw rfl rfl (hK.2.1 _ hl) (hts _ hok.2.2.1) hok.2.2.2.1 hRm, hnm, hts _ hins⟩ hp rfl (by rw [List.length_map]; exact hn) hlv.1 hstk (lv_room' hW) hd ⟨hc1, hc2⟩
end CALL
