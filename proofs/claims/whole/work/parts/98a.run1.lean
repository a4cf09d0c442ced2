/-- the class's heap, its store being s -/
def HpC (K : Nat → Nat) (I : Nat → Nat → Int32) (J : Nat → Nat → Int64) (R : Nat → Nat → Option Nat) (A : Nat → Nat → Int32) (B : Nat → Nat → Option Nat) (Ln : Nat → Nat) (n a m : Nat) (cs fs : List Nat) (s : SA) : Prop := CFix K R Ln ∧ CsR K I J R B Ln n a m cs fs s ∧ FrH I J R A B n ∧ FrK K n ∧ 34 ≤ n
def phS (s : SA) : Nat := 2200 * lvS s (nI 0) + 50 * lvS s (nI 1)
def muS (s : SA) : Nat := if 2 < lvS s (nI 0) then lvS s (nI 0) + 501 else lvS s (nI 1)
section HPC
variable {K0 K : Nat → Nat} {I0 I : Nat → Nat → Int32} {R0 R B0 B : Nat → Nat → Option Nat} {Ln0 Ln : Nat → Nat} {n0 n : Nat}
theorem StF.cfix (h : StF K0 I0 R0 B0 Ln0 n0 K I R B Ln n) (hn : 34 ≤ n0) (hC : CFix K0 R0 Ln0) : CFix K R Ln := hC.of (fun i hi => (h.2.1 i (by omega)).1) (fun i hi => (h.2.1 i (by omega)).2) (fun f hf => h.2.2.2.2.1 f 3 (by omega) (by rw [hC.m]; omega)) (h.2.2.2.2.1 _ 7 (by omega) (by rw [hC.K_st]; omega)) (h.2.2.2.2.1 _ 7 (by omega) (by rw [hC.K_st]; omega))
theorem StF.frk (h : StF K0 I0 R0 B0 Ln0 n0 K I R B Ln n) (hK : FrK K0 n0) : FrK K n := fun i hi => by
  rw [(h.2.2.1 i hi).1]
  exact hK i (by have := h.1; omega)
end HPC
theorem mrg_ph {h l src : Int32} {s : SA} (hv : SaV s) (hs : (src, l) ∈ s.2.1) (hl : l = nI 0 ∨ l = nI 1) : phS (mrgS h l src s) + 50 ≤ phS s := by
  obtain ⟨h1, h2, h3⟩ := mrg_lv (h := h) hv hs hl
  have hc := mgS_c (h := h) (l := l) (src := src) hv.2.2.2.2.1
  unfold phS
  rcases hl with rfl | rfl
  · have := h3 rfl
    omega
  · have := h2 rfl
    omega
theorem mrg_mu {h l src : Int32} {s : SA} (hv : SaV s) (hv' : SaV (mrgS h l src s)) (ho : ovS s = some l) (hs : (src, l) ∈ s.2.1) : muS (mrgS h l src s) + 1 ≤ muS s := by
  have hlv := ovS_lv ho
  obtain ⟨h1, h2, h3⟩ := mrg_lv (h := h) hv hs (by rcases hlv with ⟨z, -⟩ | ⟨z, -⟩; exact Or.inl z; exact Or.inr z)
  have hb : lvS (mrgS h l src s) (nI 1) ≤ 500 := Nat.le_trans List.countP_le_length hv'.2.2.2.2.2
  unfold muS
  rcases hlv with ⟨rfl, hz⟩ | ⟨rfl, hz, hy⟩
  · rw [if_pos hz]
    split <;> omega
  · have := h2 rfl
    rw [if_neg hz, if_neg (by omega)]
    omega
theorem hzI_congr {s s' b b' : Nat → Int32} {la : Int32} : ∀ {e : Nat}, (∀ j, j < e → s' j = s j ∧ b' j = b j) → hzI s' b' la e = hzI s b la e
  | 0, _ => rfl
  | e + 1, h => by
    rw [hzI.eq_2, hzI.eq_2, (h e (by omega)).1, (h e (by omega)).2, hzI_congr (fun j hj => h j (by omega))]
section C98
variable {X : CX} {d : Nat} {K : Nat → Nat} {I : Nat → Nat → Int32} {J : Nat → Nat → Int64} {R : Nat → Nat → Option Nat} {A : Nat → Nat → Int32} {B : Nat → Nat → Option Nat} {Ln : Nat → Nat} {n sl : Nat}
set_option maxRecDepth 100000 in
set_option maxHeartbeats 4000000 in
theorem cs_mergeS {a m : Nat} {cs fs : List Nat} {s : SA} (hH : HpC K I J R A B Ln n a m cs fs s) (hmd : s.2.2 + 520 < 2147483648) {h l src : Int32} (hs : srcS s l = some src) : EvM X mX6_mergeDown (d + 10) [rV (some 7), iV l, iV h] (K, I, J, R, A, B, Ln, n, sl) (fun r_ G' => ∃ (K' : Nat → Nat) (I' : Nat → Nat → Int32) (R' B' : Nat → Nat → Option Nat) (Ln' : Nat → Nat) (n' sl' a' m' : Nat) (cs' fs' : List Nat), r_ = some (iV (nI (s.1.length - (mrgS h l src s).1.length))) ∧ G' = (K', I', J, R', A, B', Ln', n', sl') ∧ HpC K' I' J R' A B' Ln' n' a' m' cs' fs' (mrgS h l src s) ∧ StF K I R B Ln n K' I' R' B' Ln' n' ∧ n' + m ≤ n + 43 + m' ∧ sl' + 800 * m ≤ sl + 256 + 800 * m' ∧ m ≤ m') := by
  obtain ⟨hC, hS, hF, hK, hn⟩ := hH
  have hsr := hS.src (lv := l)
  rw [hs] at hsr
  cases ho : fON I l (nI 0) fs 0 with
  | none => rw [ho] at hsr; cases hsr
  | some o =>
    rw [ho] at hsr
    have hso : src = I 320 o := Option.some.inj hsr
    obtain ⟨o1, o2⟩ := fON_mem ho
    have hv := hS.valid (by omega)
    refine (cs_mergeDown (X := X) (d := d) (sl := sl) (h := h) hC hS.1.1 hn hF hmd ho).mono ?_
    rintro r G' ⟨K', I', R', B', Ln', n', sl', a', m', kp, nf, p1, p2, p3, p4, p5, p6, p7, rfl, rfl⟩
    obtain ⟨q1, q2⟩ := hS.merge hC (by omega) o1 o2 p1 p2 p3 p4 p5 p6
    rw [← hso] at q1 q2
    have hc : nf.length ≤ 42 := by
      have hlen := congrArg (fun z => z.2.2) (show (mrgS h l src s) = mrgS h l src s from rfl)
      have z := mgF_12 (pl := plJ J) (sp := I 4) (lv := lvR R) (h := h) (two := decide (l + nI 1 = 2)) (md := s.2.2) (cs.filter (retB I J R cs o)) none none false 0 0
      rw [← p1, if_pos rfl] at z
      have h2 := List.length_filter_le (retB I J R cs o) cs
      have h5 := hS.1.1.1.2.1
      omega
    exact ⟨K', I', R', B', Ln', n', sl', a', m', kp, _, by rw [q2], rfl, ⟨p6.cfix hn hC, q1, hF.st p6, p6.frk hK, by have := p6.1; omega⟩, p6, by omega, by omega, by omega⟩
set_option maxRecDepth 100000 in
theorem stv_ex {h : Int32} (X : CX) : ∀ (N : Nat) {K : Nat → Nat} {I : Nat → Nat → Int32} {R B : Nat → Nat → Option Nat} {Ln : Nat → Nat} {n a m : Nat} {cs fs : List Nat} {s : SA}, muS s ≤ N → s.2.2 + 600 * (N + 2) < 2147483648 → HpC K I J R A B Ln n a m cs fs s → ∃ k s', k ≤ N ∧ Stv h k s s' := by
  intro N
  induction N with
  | zero =>
    intro K I R B Ln n a m cs fs s hmu hmd hH
    have hv := hH.2.1.valid (by omega)
    refine ⟨0, s, Nat.le_refl _, ⟨hv, by omega⟩, ?_, rfl⟩
    cases ho : ovS s with
    | none => rfl
    | some l =>
      exfalso
      unfold muS at hmu
      rcases ovS_lv ho with ⟨-, z⟩ | ⟨-, z, y⟩
      · rw [if_pos z] at hmu; omega
      · rw [if_neg z] at hmu; omega
  | succ N ih =>
    intro K I R B Ln n a m cs fs s hmu hmd hH
    have hv := hH.2.1.valid (by omega)
    cases ho : ovS s with
    | none => exact ⟨0, s, Nat.zero_le _, ⟨hv, by omega⟩, ho, rfl⟩
    | some l =>
      obtain ⟨src, hs⟩ := srcS_ex (s := s) (l := l) (by rcases ovS_lv ho with ⟨rfl, z⟩ | ⟨rfl, z, y⟩ <;> omega)
      obtain ⟨r, G', -, -, -, K', I', R', B', Ln', n', sl', a', m', cs', fs', -, -, hH', -⟩ := cs_mergeS (X := X) (d := 0) (sl := 0) (h := h) hH (by omega) hs
      have hc := mgS_c (h := h) (l := l) (src := src) hv.2.2.2.2.1
      have hmd' : (mrgS h l src s).2.2 = s.2.2 + (mgS h l src s).2.1 := rfl
      have hv' := hH'.2.1.valid (by omega)
      have hmu' := mrg_mu hv hv' ho (srcS_mem hs)
      obtain ⟨k, s', k1, k2⟩ := ih (by omega) (by omega) hH'
      exact ⟨k + 1, s', by omega, ⟨hv, by omega⟩, l, src, ho, hs, k2⟩
set_option maxRecDepth 100000 in
set_option maxHeartbeats 4000000 in
theorem CsR.lv {a m : Nat} {cs fs : List Nat} {s : SA} (h : CsR K I J R B Ln n a m cs fs s) {l : Int32} : cfN I l fs = lvS s l := by
  unfold cfN lvS
  rw [h.2.2, List.countP_map]
  rfl
theorem lv_ov {a m : Nat} {cs fs : List Nat} {s : SA} (h : CsR K I J R B Ln n a m cs fs s) : (ovS s = none → (if 2 < cfN I (nI 0) fs then (0 : Int32) else if 3 < cfN I (nI 1) fs then 1 else -1) = -1) ∧ ∀ l, ovS s = some l → (if 2 < cfN I (nI 0) fs then (0 : Int32) else if 3 < cfN I (nI 1) fs then 1 else -1) = l ∧ l ≠ -1 := by
  rw [h.lv, h.lv]
  unfold ovS
  by_cases h1 : 2 < lvS s (nI 0)
  · rw [if_pos h1, if_pos h1]
    exact ⟨fun z => (by cases z), fun l z => by cases z; exact ⟨rfl, by decide⟩⟩
  · rw [if_neg h1, if_neg h1]
    by_cases h2 : 3 < lvS s (nI 1)
    · rw [if_pos h2, if_pos h2]
      exact ⟨fun z => (by cases z), fun l z => by cases z; exact ⟨rfl, by decide⟩⟩
    · rw [if_neg h2, if_neg h2]
      exact ⟨fun _ => rfl, fun l z => by cases z⟩
set_option maxRecDepth 100000 in
set_option maxHeartbeats 4000000 in
theorem cs_flushS {a m : Nat} {cs fs : List Nat} {s : SA} (hH : HpC K I J R A B Ln n a m cs fs s) (hmd : s.2.2 + 520 < 2147483648) : EvM X mX6_writeMemoryOut (d + 8) [rV (some 7)] (K, I, J, R, A, B, Ln, n, sl) (fun r_ G' => ∃ (K' : Nat → Nat) (I' : Nat → Nat → Int32) (R' B' : Nat → Nat → Option Nat) (Ln' : Nat → Nat) (n' sl' a' m' : Nat) (cs' fs' : List Nat), r_ = some (iV (nI (s.1.countP (fun x => decide (eF x = 0))))) ∧ G' = (K', I', J, R', A, B', Ln', n', sl') ∧ HpC K' I' J R' A B' Ln' n' a' m' cs' fs' (fluS s) ∧ StF K I R B Ln n K' I' R' B' Ln' n' ∧ n' + m ≤ n + 1 + m' ∧ sl' + 800 * m ≤ sl + 6 + 800 * m' ∧ m ≤ m') := by
  obtain ⟨hC, hS, hF, hK, hn⟩ := hH
  refine (cs_flush (X := X) (d := d) (sl := sl) hC hS.1.1 hn hF hmd).mono ?_
  rintro r G' ⟨rfl, hz⟩
  have hc := hS.cnt0 (by omega)
  rw [hc] at hz ⊢
  rcases hz with ⟨z0, rfl⟩ | ⟨z0, K', I', R', B', Ln', n', sl', a', m', p1, p2, p3, p4, p5, p6, rfl⟩
  · have hfl : fluS s = s := by
      unfold fluS
      rw [if_neg]
      intro z
      obtain ⟨x, hx, hy⟩ := List.any_eq_true.mp z
      have := List.countP_eq_zero.mp z0 x hx
      exact this hy
    exact ⟨K, I, R, B, Ln, n, sl, a, m, cs, fs, rfl, rfl, by rw [hfl]; exact ⟨hC, hS, hF, hK, hn⟩, StF.refl, by omega, by omega, Nat.le_refl _⟩
  · exact ⟨K', I', R', B', Ln', n', sl', a', m', cs, fs ++ [n], rfl, rfl, ⟨p5.cfix hn hC, hS.flush hC hmd (by rw [hc]; exact z0) p1 p2 p3 p4 p5, hF.st p5, p5.frk hK, by have := p5.1; omega⟩, p5, by omega, by omega, by omega⟩
set_option maxRecDepth 100000 in
set_option maxHeartbeats 4000000 in
theorem cs_flushMerge {a m : Nat} {cs fs : List Nat} {s s' : SA} (hH : HpC K I J R A B Ln n a m cs fs s) (hmd : s.2.2 + 520 < 2147483648) {tn : Nat} {ti : Nat → Nat} (ht : I 517 3 = nI tn) (htb : tn ≤ 60) (hti : ∀ j, j < tn → B 6 j = some (ti j) ∧ K (ti j) = 7 ∧ ti j < n) {k : Nat} (hk : k ≤ 900) (hst : Stv (hzI (fun j => I 449 (ti j)) (fun j => I 448 (ti j)) (I 519 3) tn) k (fluS s) s') : EvM X mX8_flushAndMerge (d + 11) [rV (some 3)] (K, I, J, R, A, B, Ln, n, sl) (fun r_ G' => ∃ (K' : Nat → Nat) (I' : Nat → Nat → Int32) (R' B' : Nat → Nat → Option Nat) (Ln' : Nat → Nat) (n' sl' a' m' : Nat) (cs' fs' : List Nat), r_ = none ∧ G' = (K', I', J, R', A, B', Ln', n', sl') ∧ HpC K' I' J R' A B' Ln' n' a' m' cs' fs' s' ∧ StF K I R B Ln n K' I' R' B' Ln' n' ∧ n' + phS s' + m ≤ n + 1 + phS (fluS s) + m' ∧ sl' + 7 * phS s' + 800 * m ≤ sl + 6 + 7 * phS (fluS s) + 800 * m' ∧ m ≤ m') := by
  have hC := hH.1
  have hn := hH.2.2.2.2
  have sf := cs_flushS (X := X) (d := d + 2) (sl := sl) hH hmd
  show Ev X mX8_flushAndMerge (d + 11) 0 [some (rV (some 3)), none, none, none] [] (K, I, J, R, A, B, Ln, n, sl) _
  generalize hhz : (hzI (fun j => I 449 (ti j)) (fun j => I 448 (ti j)) (I 519 3) tn) = h at hst
  have fin : ∀ (K' : Nat → Nat) (I' : Nat → Nat → Int32) (R' B' : Nat → Nat → Option Nat) (Ln' : Nat → Nat) (n' sl' a' m' : Nat) (cs' fs' : List Nat), HpC K' I' J R' A B' Ln' n' a' m' cs' fs' (fluS s) → StF K I R B Ln n K' I' R' B' Ln' n' → n' + m ≤ n + 1 + m' → sl' + 800 * m ≤ sl + 6 + 800 * m' → m ≤ m' → ∀ w3, Ev X mX8_flushAndMerge (d + 11) 15 [some (rV (some 3)), some (iV h), some (iV (nI 0)), w3] [] (K', I', J, R', A, B', Ln', n', sl') (fun r_ G' => ∃ (K' : Nat → Nat) (I' : Nat → Nat → Int32) (R' B' : Nat → Nat → Option Nat) (Ln' : Nat → Nat) (n' sl' a' m' : Nat) (cs' fs' : List Nat), r_ = none ∧ G' = (K', I', J, R', A, B', Ln', n', sl') ∧ HpC K' I' J R' A B' Ln' n' a' m' cs' fs' s' ∧ StF K I R B Ln n K' I' R' B' Ln' n' ∧ n' + phS s' + m ≤ n + 1 + phS (fluS s) + m' ∧ sl' + 7 * phS s' + 800 * m ≤ sl + 6 + 7 * phS (fluS s) + 800 * m' ∧ m ≤ m') := by
    intro K1 I1 R1 B1 Ln1 n1 sl1 a1 m1 cs1 fs1 h1 h2 h3 h4 h5 w3
    refine lp_fm (Inv := fun k K' I' R' B' Ln' n' sl' => ∃ a' m' cs' fs' t, HpC K' I' J R' A B' Ln' n' a' m' cs' fs' t ∧ Stv h k t s' ∧ StF K I R B Ln n K' I' R' B' Ln' n' ∧ n' + phS t + m ≤ n + 1 + phS (fluS s) + m' ∧ sl' + 7 * phS t + 800 * m ≤ sl + 6 + 7 * phS (fluS s) + 800 * m' ∧ m ≤ m') ?_ ?_ ?_ k 0 K1 I1 R1 B1 Ln1 n1 sl1 w3 (by omega) ⟨a1, m1, cs1, fs1, fluS s, h1, hst, h2, by omega, by omega, h5⟩
    · rintro K' I' R' B' Ln' n' sl' ⟨a', m', cs', fs', t, q1, q2, -⟩
      exact ⟨q1.1, a', m', fs', q1.2.1.1.1.2.1, (lv_ov q1.2.1).1 q2.2.1⟩
    · rintro j K' I' R' B' Ln' n' sl' ⟨a', m', cs', fs', t, q1, ⟨q2, l, src, q3, q4, q5⟩, q6, q7, q8, q9⟩
      obtain ⟨z1, z2⟩ := (lv_ov q1.2.1).2 l q3
      refine ⟨q1.1, a', m', fs', q1.2.1.1.1.2.1, by rw [z1]; exact z2, ?_⟩
      rw [z1]
      refine (cs_mergeS (X := X) (d := d) (sl := sl') (h := h) q1 q2.2 q4).mono ?_
      rintro r G' ⟨K2, I2, R2, B2, Ln2, n2, sl2, a2, m2, cs2, fs2, rfl, rfl, y1, y2, y3, y4, y5⟩
      have hph := mrg_ph (h := h) q2.1 (srcS_mem q4) (by rcases ovS_lv q3 with ⟨z, -⟩ | ⟨z, -⟩; exact Or.inl z; exact Or.inr z)
      exact ⟨_, K2, I2, R2, B2, Ln2, n2, sl2, rfl, rfl, a2, m2, cs2, fs2, _, y1, q5, q6.trans y2, by omega, by omega, by omega⟩
    · rintro K' I' R' B' Ln' n' sl' ⟨a', m', cs', fs', t, q1, ⟨q2, q3, rfl⟩, q6, q7, q8, q9⟩
      exact ⟨K', I', R', B', Ln', n', sl', a', m', cs', fs', rfl, rfl, q1, q6, q7, q8, q9⟩
  refine ev_aload_n dX8_flushAndMerge_0 rfl ?_
  refine ev_getR dX8_flushAndMerge_1 fX8_27 hC.m hC.R_st ?_
  refine ev_callV dX8_flushAndMerge_4 okX6_writeMemoryOut inX6_writeMemoryOut seX6_writeMemoryOut mlX8_165 hC.K_st (by decide) rfl [] rfl rfl (Nat.le_of_ble_eq_true rfl) (Nat.le_of_ble_eq_true rfl) (sf) (fun r_ G_ h_ => ?_)
  obtain ⟨K', I', R', B', Ln', n', sl', a', m', cs', fs', rfl, rfl, y1, y2, y3, y4, y5⟩ := h_
  have hm' := y1.1.m
  have e3 : ∀ f, I' f 3 = I f 3 := fun f => y2.2.2.2.1 f 3 (by omega) (by rw [hC.m]; omega)
  have e6 : B' 6 = B 6 := y2.2.2.2.2.2 6 (by omega) (by rw [hC.K_tx]; omega)
  have eti : ∀ j, j < tn → ∀ f, I' f (ti j) = I f (ti j) := fun j hj f => by
    obtain ⟨z1, z2, z3⟩ := hti j hj
    refine y2.2.2.2.1 f (ti j) z3 (fun z => ?_)
    rcases z with z | z | z | z
    · omega
    · omega
    · rw [z.1, hC.K_st] at z2; omega
    · rw [z.1, hC.K_al] at z2; omega
  have hz := cs_horizon (X := X) (d := d + 9) (I := I') (J := J) (A := A) (B := B') (n := n') (sl := sl') y1.1 ((e3 517).trans ht) htb (ti := ti) (fun j hj => by
    obtain ⟨z1, z2, z3⟩ := hti j hj
    exact ⟨by rw [e6]; exact z1, by rw [(y2.2.1 _ z3).1]; exact z2⟩)
  have ehz : hzI (fun j => I' 449 (ti j)) (fun j => I' 448 (ti j)) (I' 519 3) tn = h := by
    rw [← hhz, e3 519]
    exact hzI_congr (fun j hj => ⟨eti j hj 449, eti j hj 448⟩)
  rw [ehz] at hz
  try dsimp only [Option.toList, List.cons_append, List.nil_append]
  refine ev_pop dX8_flushAndMerge_7 rfl ?_
  refine ev_aload_n dX8_flushAndMerge_8 rfl ?_
  refine ev_callV dX8_flushAndMerge_9 okX8_horizon inX8_horizon seX8_horizon mlX8_171 hm' (by decide) rfl [] rfl rfl (Nat.le_of_ble_eq_true rfl) (Nat.le_of_ble_eq_true rfl) (hz) (fun r_ G_ h_ => ?_)
  obtain ⟨rfl, rfl⟩ := h_
  try dsimp only [Option.toList, List.cons_append, List.nil_append]
  refine ev_istore_nS dX8_flushAndMerge_12 (by decide) rfl ?_
  refine ev_iconstN 0 dX8_flushAndMerge_13 (by decide) ?_
  refine ev_istore_nS dX8_flushAndMerge_14 (by decide) rfl ?_
  exact fin K' I' R' B' Ln' n' sl' a' m' cs' fs' y1 y2 y3 y4 y5 _
end C98
