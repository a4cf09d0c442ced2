theorem Ev.int {X : CX} {M : MD} {d pc : Nat} {L : List (Option LV)} {S : List LV} {G : GH} {Q : Option LV → GH → Prop} (hM : M.2.2.2.1 = some .int ∨ M.2.2.2.1 = some .boolean) (h : Ev X M d pc L S G Q) : Ev X M d pc L S G (fun r G' => ∃ v, r = some (iV v) ∧ ∃ r0, Q r0 G' ∧ (r0 = some (iV v) ∨ ((∀ w, r0 ≠ some (iV w)) ∧ v = 0))) := by
  obtain ⟨r, G', h1, h2, h3, h4⟩ := h
  by_cases hr : ∃ v, r = some (iV v)
  · obtain ⟨v, rfl⟩ := hr
    exact ⟨_, G', h1, h2, h3, v, rfl, _, h4, Or.inl rfl⟩
  · refine ⟨some (iV 0), G', h1, h2, ?_, 0, rfl, r, h4, Or.inr ⟨fun w z => hr ⟨w, z⟩, rfl⟩⟩
    intro p e R s m args below meth c C H locs cells slots ls Z hR hS hl hc hs k
    refine h3 p e R s m args below meth c C H locs cells slots ls Z hR hS hl hc hs (fun H' locs' ls' pc' _ _ hret => ?_)
    exfalso
    rcases hret with ⟨rfl, ht, _⟩ | ⟨v, rfl, ht, _⟩ | ⟨v, rfl, ht, _⟩ | ⟨q, t, rfl, ht, hq, _⟩
    · rcases hM with z | z <;> rw [ht] at z <;> cases z
    · exact hr ⟨v, rfl⟩
    · rcases hM with z | z <;> rw [ht] at z <;> cases z
    · rcases hM with z | z <;> rw [ht] at z <;> cases z <;> rcases hq with ⟨q, hn⟩ | ⟨q, hn⟩ <;> cases hn
/-- both calls answer, and alike -/
theorem op_int {X : CX} {Mc Mr : MD} {d d' : Nat} {As Bs : List LV} {G : GH} {P : GH → Prop} (hc : Mc.2.2.2.1 = some .int ∨ Mc.2.2.2.1 = some .boolean) (hr : Mr.2.2.2.1 = some .int ∨ Mr.2.2.2.1 = some .boolean) (h : EvM X Mc d As G (fun r1 G1 => G1.1 11 = 9 ∧ EvM X Mr d' Bs G1 (fun r2 G2 => r2 = r1 ∧ P G2))) : EvM X Mc d As G (fun r1 G1 => ∃ v, r1 = some (iV v) ∧ G1.1 11 = 9 ∧ EvM X Mr d' Bs G1 (fun r2 G2 => r2 = some (iV v) ∧ P G2)) := by
  refine (Ev.int hc h).mono ?_
  rintro r1 G1 ⟨v, rfl, r0, ⟨hk, h2⟩, hv⟩
  refine ⟨v, rfl, hk, (Ev.int hr h2).mono ?_⟩
  rintro r2 G2 ⟨v2, rfl, r0', ⟨rfl, hP⟩, hv2⟩
  refine ⟨?_, hP⟩
  rcases hv with rfl | ⟨z1, rfl⟩
  · rcases hv2 with z | ⟨z, -⟩
    · exact z.symm
    · exact absurd rfl (z v)
  · rcases hv2 with z | ⟨z, rfl⟩
    · exact absurd z (z1 v2)
    · rfl
theorem Ev.long {X : CX} {M : MD} {d pc : Nat} {L : List (Option LV)} {S : List LV} {G : GH} {Q : Option LV → GH → Prop} (hM : M.2.2.2.1 = some .long) (h : Ev X M d pc L S G Q) : Ev X M d pc L S G (fun r G' => ∃ v, r = some (lV v) ∧ ∃ r0, Q r0 G' ∧ (r0 = some (lV v) ∨ ((∀ w, r0 ≠ some (lV w)) ∧ v = 0))) := by
  obtain ⟨r, G', h1, h2, h3, h4⟩ := h
  by_cases hr : ∃ v, r = some (lV v)
  · obtain ⟨v, rfl⟩ := hr
    exact ⟨_, G', h1, h2, h3, v, rfl, _, h4, Or.inl rfl⟩
  · refine ⟨some (lV 0), G', h1, h2, ?_, 0, rfl, r, h4, Or.inr ⟨fun w z => hr ⟨w, z⟩, rfl⟩⟩
    intro p e R s m args below meth c C H locs cells slots ls Z hR hS hl hc hs k
    refine h3 p e R s m args below meth c C H locs cells slots ls Z hR hS hl hc hs (fun H' locs' ls' pc' _ _ hret => ?_)
    exfalso
    rcases hret with ⟨rfl, ht, _⟩ | ⟨v, rfl, ht, _⟩ | ⟨v, rfl, ht, _⟩ | ⟨q, t, rfl, ht, hq, _⟩
    · rw [ht] at hM; cases hM
    · rcases ht with ht | ⟨ht, -⟩ <;> rw [ht] at hM <;> cases hM
    · exact hr ⟨v, rfl⟩
    · rw [ht] at hM; cases hM; rcases hq with ⟨q, hn⟩ | ⟨q, hn⟩ <;> cases hn
/-- both calls answer, and alike -/
theorem op_long {X : CX} {Mc Mr : MD} {d d' : Nat} {As Bs : List LV} {G : GH} {P : GH → Prop} (hc : Mc.2.2.2.1 = some .long) (hr : Mr.2.2.2.1 = some .long) (h : EvM X Mc d As G (fun r1 G1 => G1.1 11 = 9 ∧ EvM X Mr d' Bs G1 (fun r2 G2 => r2 = r1 ∧ P G2))) : EvM X Mc d As G (fun r1 G1 => ∃ v, r1 = some (lV v) ∧ G1.1 11 = 9 ∧ EvM X Mr d' Bs G1 (fun r2 G2 => r2 = some (lV v) ∧ P G2)) := by
  refine (Ev.long hc h).mono ?_
  rintro r1 G1 ⟨v, rfl, r0, ⟨hk, h2⟩, hv⟩
  refine ⟨v, rfl, hk, (Ev.long hr h2).mono ?_⟩
  rintro r2 G2 ⟨v2, rfl, r0', ⟨rfl, hP⟩, hv2⟩
  refine ⟨?_, hP⟩
  rcases hv with rfl | ⟨z1, rfl⟩
  · rcases hv2 with z | ⟨z, -⟩
    · exact z.symm
    · exact absurd rfl (z v)
  · rcases hv2 with z | ⟨z, rfl⟩
    · exact absurd z (z1 v2)
    · rfl
theorem RmC.keep {c n sl m la : Nat} {s : SA} {n' sl' : Nat} (h : RmC c n sl m la s) (h1 : n' ≤ n + 3) (h2 : sl' ≤ sl + 69) : RmC (c + 1) n' sl' m la s := by
  unfold RmC at *
  omega
section C98W
variable {X : CX} {d : Nat} {K : Nat → Nat} {I : Nat → Nat → Int32} {J : Nat → Nat → Int64} {R : Nat → Nat → Option Nat} {A : Nat → Nat → Int32} {B : Nat → Nat → Option Nat} {Ln : Nat → Nat} {n sl : Nat} {a m : Nat} {cs fs : List Nat} {s : SA} {many tn la : Nat} {ti : Nat → Nat} {pn : Nat} {px : Nat → Nat} {pe : Nat → EX} {ixn : Nat} {ie : Nat → EX} {rn : Nat} {p : PP}
theorem StG.mk1 {c : Nat} (h1 : Sim K I J R A B Ln n a m cs fs s many tn la ti pn px pe ixn ie rn p) (h2 : RmC c n sl m la s) : StG c (K, I, J, R, A, B, Ln, n, sl) := ⟨K, I, J, R, A, B, Ln, n, sl, a, m, cs, fs, s, many, tn, la, ti, pn, px, pe, ixn, ie, rn, p, rfl, h1, h2⟩
theorem StG.k3 {c : Nat} {G : GH} (h : StG c G) : G.1 3 = 8 := by
  obtain ⟨K, I, J, R, A, B, Ln, n, sl, a, m, cs, fs, s, many, tn, la, ti, pn, px, pe, ixn, ie, rn, p, rfl, h1, h2⟩ := h
  exact h1.1.1.m
theorem StG.room {c : Nat} {G : GH} (h : StG c G) (hc : c ≤ 512) : gh_n G ≤ 600000 ∧ gh_s G ≤ 7302249 := by
  obtain ⟨K, I, J, R, A, B, Ln, n, sl, a, m, cs, fs, s, many, tn, la, ti, pn, px, pe, ixn, ie, rn, p, rfl, h1, h2⟩ := h
  have hm : m ≤ 800 := h1.1.2.1.1.1.2.1.2.2.2.2.1
  unfold RmC at h2
  show n ≤ 600000 ∧ sl ≤ 7302249
  omega
set_option maxRecDepth 100000 in
set_option maxHeartbeats 4000000 in
theorem sg_say {c : Nat} {G : GH} (h : StG c G) (hc : c ≤ 512) (x y : Int32) : EvM X mX8_say (d + 60) [rV (some 3), iV x, iV y] G (fun r1 G1 => G1.1 11 = 9 ∧ EvM X mX9_say (d + 60) [rV (some 11), iV x, iV y] G1 (fun r2 G2 => r2 = r1 ∧ StG (c + 1) G2)) := by
  obtain ⟨K, I, J, R, A, B, Ln, n, sl, a, m, cs, fs, s, many, tn, la, ti, pn, px, pe, ixn, ie, rn, p, rfl, h1, h2⟩ := h
  have hr := h2
  obtain ⟨r1, r2, r3⟩ := h2
  exact op_say h1 x y (StG.mk1 h1 (hr.keep (by omega) (by omega))) (fun K' I' R' A' B' pn' px' pe' hS => StG.mk1 hS (hr.keep (by omega) (by omega)))
set_option maxRecDepth 100000 in
set_option maxHeartbeats 4000000 in
theorem sg_index {c : Nat} {G : GH} (h : StG c G) (hc : c ≤ 512) : EvM X mX8_index (d + 60) [rV (some 3)] G (fun r1 G1 => G1.1 11 = 9 ∧ EvM X mX9_index (d + 60) [rV (some 11)] G1 (fun r2 G2 => r2 = r1 ∧ StG (c + 1) G2)) := by
  obtain ⟨K, I, J, R, A, B, Ln, n, sl, a, m, cs, fs, s, many, tn, la, ti, pn, px, pe, ixn, ie, rn, p, rfl, h1, h2⟩ := h
  have hr := h2
  obtain ⟨r1, r2, r3⟩ := h2
  exact op_index h1 (StG.mk1 h1 (hr.keep (by omega) (by omega))) (fun I' A' B' pn' ixn' ie' hS => StG.mk1 hS (hr.keep (by omega) (by omega)))
set_option maxRecDepth 100000 in
set_option maxHeartbeats 4000000 in
theorem sg_begin {c : Nat} {G : GH} (h : StG c G) (hc : c ≤ 512) : EvM X mX8_begin (d + 60) [rV (some 3)] G (fun r1 G1 => G1.1 11 = 9 ∧ EvM X mX9_begin (d + 60) [rV (some 11)] G1 (fun r2 G2 => r2 = r1 ∧ StG (c + 1) G2)) := by
  obtain ⟨K, I, J, R, A, B, Ln, n, sl, a, m, cs, fs, s, many, tn, la, ti, pn, px, pe, ixn, ie, rn, p, rfl, h1, h2⟩ := h
  have hr := h2
  obtain ⟨r1, r2, r3⟩ := h2
  exact op_begin h1 (StG.mk1 h1 (hr.keep (by omega) (by omega))) (fun K' I' R' A' B' Ln' ti' hS => StG.mk1 hS (hr.keep (by omega) (by omega)))
set_option maxRecDepth 100000 in
set_option maxHeartbeats 4000000 in
theorem sg_read {c : Nat} {G : GH} (h : StG c G) (hc : c ≤ 512) (x y z : Int32) : EvM X mX8_read (d + 60) [rV (some 3), iV x, iV y, iV z] G (fun r1 G1 => G1.1 11 = 9 ∧ EvM X mX9_read (d + 60) [rV (some 11), iV x, iV y, iV z] G1 (fun r2 G2 => r2 = r1 ∧ StG (c + 1) G2)) := by
  obtain ⟨K, I, J, R, A, B, Ln, n, sl, a, m, cs, fs, s, many, tn, la, ti, pn, px, pe, ixn, ie, rn, p, rfl, h1, h2⟩ := h
  have hr := h2
  obtain ⟨r1, r2, r3⟩ := h2
  exact op_read h1 (by omega) x y z (fun A' hS => StG.mk1 hS (hr.keep (by omega) (by omega)))
set_option maxRecDepth 100000 in
set_option maxHeartbeats 4000000 in
theorem sg_write {c : Nat} {G : GH} (h : StG c G) (hc : c ≤ 512) (x y v z u : Int32) : EvM X mX8_write (d + 60) [rV (some 3), iV x, iV y, iV v, iV z, iV u] G (fun r1 G1 => G1.1 11 = 9 ∧ EvM X mX9_write (d + 60) [rV (some 11), iV x, iV y, iV v, iV z, iV u] G1 (fun r2 G2 => r2 = r1 ∧ StG (c + 1) G2)) := by
  obtain ⟨K, I, J, R, A, B, Ln, n, sl, a, m, cs, fs, s, many, tn, la, ti, pn, px, pe, ixn, ie, rn, p, rfl, h1, h2⟩ := h
  have hr := h2
  obtain ⟨r1, r2, r3⟩ := h2
  exact op_write h1 x y v z u (StG.mk1 h1 (hr.keep (by omega) (by omega))) (fun K' I' A' B' hS => StG.mk1 hS (hr.keep (by omega) (by omega)))
set_option maxRecDepth 100000 in
set_option maxHeartbeats 4000000 in
theorem sg_remove {c : Nat} {G : GH} (h : StG c G) (hc : c ≤ 512) (x y : Int32) : EvM X mX8_remove (d + 60) [rV (some 3), iV x, iV y] G (fun r1 G1 => G1.1 11 = 9 ∧ EvM X mX9_remove (d + 60) [rV (some 11), iV x, iV y] G1 (fun r2 G2 => r2 = r1 ∧ StG (c + 1) G2)) := by
  obtain ⟨K, I, J, R, A, B, Ln, n, sl, a, m, cs, fs, s, many, tn, la, ti, pn, px, pe, ixn, ie, rn, p, rfl, h1, h2⟩ := h
  have hr := h2
  obtain ⟨r1, r2, r3⟩ := h2
  exact op_remove h1 x y (fun I' A' B' hS => StG.mk1 hS (hr.keep (by omega) (by omega)))
set_option maxRecDepth 100000 in
set_option maxHeartbeats 4000000 in
theorem sg_query {c : Nat} {G : GH} (h : StG c G) (hc : c ≤ 512) (x : Int32) : EvM X mX8_query (d + 60) [rV (some 3), iV x] G (fun r1 G1 => G1.1 11 = 9 ∧ EvM X mX9_query (d + 60) [rV (some 11), iV x] G1 (fun r2 G2 => r2 = r1 ∧ StG (c + 1) G2)) := by
  obtain ⟨K, I, J, R, A, B, Ln, n, sl, a, m, cs, fs, s, many, tn, la, ti, pn, px, pe, ixn, ie, rn, p, rfl, h1, h2⟩ := h
  have hr := h2
  obtain ⟨r1, r2, r3⟩ := h2
  exact op_query h1 (by omega) x (StG.mk1 h1 (hr.keep (by omega) (by omega))) (fun K' I' J' R' A' n' sl' pn' rn' p' hS q1 q2 => StG.mk1 hS (hr.keep (by omega) (by omega)))
set_option maxRecDepth 100000 in
set_option maxHeartbeats 4000000 in
theorem sg_commit {c : Nat} {G : GH} (h : StG c G) (hc : c ≤ 512) (x : Int32) : EvM X mX8_commit (d + 60) [rV (some 3), iV x] G (fun r1 G1 => G1.1 11 = 9 ∧ EvM X mX9_commit (d + 60) [rV (some 11), iV x] G1 (fun r2 G2 => r2 = r1 ∧ StG (c + 1) G2)) := by
  obtain ⟨K, I, J, R, A, B, Ln, n, sl, a, m, cs, fs, s, many, tn, la, ti, pn, px, pe, ixn, ie, rn, p, rfl, h1, h2⟩ := h
  have hr := h2
  obtain ⟨r1, r2, r3⟩ := h2
  have tk : ∀ {K' : Nat → Nat} {I' : Nat → Nat → Int32} {J' : Nat → Nat → Int64} {R' : Nat → Nat → Option Nat} {A' : Nat → Nat → Int32} {B' : Nat → Nat → Option Nat} {Ln' : Nat → Nat} {n' sl' a' m' : Nat} {cs' fs' : List Nat} {s' : SA} {many' : Nat}, Sim K' I' J' R' A' B' Ln' n' a' m' cs' fs' s' many' tn (la + 1) ti pn px pe ixn ie rn p → n' + phT s' + m ≤ n + 2711 + phT s + m' → sl' + 7 * phT s' + 800 * m ≤ sl + 18976 + 7 * phT s + 800 * m' → m ≤ m' → s'.2.2 ≤ s.2.2 + 24000 → RmC (c + 1) n' sl' m' (la + 1) s' := by
    intro K' I' J' R' A' B' Ln' n' sl' a' m' cs' fs' s' many' hS q1 q2 q3 q4
    have t1 := hS.2.2.2.1.1
    unfold RmC
    omega
  exact op_commit h1 (by omega) x (fun I' A' hS => StG.mk1 hS (hr.keep (by omega) (by omega))) (fun K' I' J' R' A' B' Ln' n' sl' a' m' cs' fs' s' many' hS q1 q2 q3 q4 => StG.mk1 hS (tk hS q1 q2 q3 q4))
set_option maxRecDepth 100000 in
set_option maxHeartbeats 4000000 in
theorem sg_tear {c : Nat} {G : GH} (h : StG c G) (hc : c ≤ 512) (x y : Int32) : EvM X mX8_tear (d + 60) [rV (some 3), iV x, iV y] G (fun r1 G1 => G1.1 11 = 9 ∧ EvM X mX9_tear (d + 60) [rV (some 11), iV x, iV y] G1 (fun r2 G2 => r2 = r1 ∧ StG (c + 1) G2)) := by
  obtain ⟨K, I, J, R, A, B, Ln, n, sl, a, m, cs, fs, s, many, tn, la, ti, pn, px, pe, ixn, ie, rn, p, rfl, h1, h2⟩ := h
  have hr := h2
  obtain ⟨r1, r2, r3⟩ := h2
  have tk : ∀ {K' : Nat → Nat} {I' : Nat → Nat → Int32} {J' : Nat → Nat → Int64} {R' : Nat → Nat → Option Nat} {A' : Nat → Nat → Int32} {B' : Nat → Nat → Option Nat} {Ln' : Nat → Nat} {n' sl' a' m' : Nat} {cs' fs' : List Nat} {s' : SA} {many' : Nat}, Sim K' I' J' R' A' B' Ln' n' a' m' cs' fs' s' many' tn (la + 1) ti pn px pe ixn ie rn p → n' + phT s' + m ≤ n + 2711 + phT s + m' → sl' + 7 * phT s' + 800 * m ≤ sl + 18976 + 7 * phT s + 800 * m' → m ≤ m' → s'.2.2 ≤ s.2.2 + 24000 → RmC (c + 1) n' sl' m' (la + 1) s' := by
    intro K' I' J' R' A' B' Ln' n' sl' a' m' cs' fs' s' many' hS q1 q2 q3 q4
    have t1 := hS.2.2.2.1.1
    unfold RmC
    omega
  exact op_tear h1 (by omega) x y (fun I' A' hS => StG.mk1 hS (hr.keep (by omega) (by omega))) (fun K' I' J' R' A' B' Ln' n' sl' a' m' cs' fs' s' many' hS q1 q2 q3 q4 => StG.mk1 hS (tk hS q1 q2 q3 q4))
set_option maxRecDepth 100000 in
set_option maxHeartbeats 4000000 in
theorem sg_abort {c : Nat} {G : GH} (h : StG c G) (hc : c ≤ 512) (x : Int32) : EvM X mX8_abort (d + 60) [rV (some 3), iV x] G (fun r1 G1 => G1.1 11 = 9 ∧ EvM X mX9_abort (d + 60) [rV (some 11), iV x] G1 (fun r2 G2 => r2 = r1 ∧ StG (c + 1) G2)) := by
  obtain ⟨K, I, J, R, A, B, Ln, n, sl, a, m, cs, fs, s, many, tn, la, ti, pn, px, pe, ixn, ie, rn, p, rfl, h1, h2⟩ := h
  have hr := h2
  obtain ⟨r1, r2, r3⟩ := h2
  exact op_abort h1 x (fun I' A' hS => StG.mk1 hS (hr.keep (by omega) (by omega)))
set_option maxRecDepth 100000 in
set_option maxHeartbeats 4000000 in
theorem sg_flush {c : Nat} {G : GH} (h : StG c G) (hc : c ≤ 512) : EvM X mX8_flush (d + 60) [rV (some 3)] G (fun r1 G1 => G1.1 11 = 9 ∧ EvM X mX9_flush (d + 60) [rV (some 11)] G1 (fun r2 G2 => r2 = r1 ∧ StG (c + 1) G2)) := by
  obtain ⟨K, I, J, R, A, B, Ln, n, sl, a, m, cs, fs, s, many, tn, la, ti, pn, px, pe, ixn, ie, rn, p, rfl, h1, h2⟩ := h
  have hr := h2
  obtain ⟨r1, r2, r3⟩ := h2
  have fl : ∀ {n' sl' m' : Nat}, n' + m ≤ n + 1 + m' → sl' + 800 * m ≤ sl + 6 + 800 * m' → RmC (c + 1) n' sl' m' la (fluS s) := by
    intro n' sl' m' q1 q2
    obtain ⟨f1, f2, f3, -⟩ := h1.2.2.2.2.2.2.2.2.flush (by omega)
    unfold RmC
    omega
  exact op_flush h1 (by omega) (fun K' I' R' A' B' Ln' n' sl' a' m' cs' fs' many' hS q1 q2 => StG.mk1 hS (fl q1 q2))
set_option maxRecDepth 100000 in
set_option maxHeartbeats 4000000 in
theorem sg_compact {c : Nat} {G : GH} (h : StG c G) (hc : c ≤ 512) : EvM X mX8_compact (d + 60) [rV (some 3)] G (fun r1 G1 => G1.1 11 = 9 ∧ EvM X mX9_compact (d + 60) [rV (some 11)] G1 (fun r2 G2 => r2 = r1 ∧ StG (c + 1) G2)) := by
  obtain ⟨K, I, J, R, A, B, Ln, n, sl, a, m, cs, fs, s, many, tn, la, ti, pn, px, pe, ixn, ie, rn, p, rfl, h1, h2⟩ := h
  have hr := h2
  obtain ⟨r1, r2, r3⟩ := h2
  have mg : ∀ l src, (l = nI 0 ∨ l = nI 1) → (src, l) ∈ s.2.1 → ∀ {n' sl' m' : Nat}, n' + m ≤ n + 43 + m' → sl' + 800 * m ≤ sl + 256 + 800 * m' → RmC (c + 1) n' sl' m' la (mrgS (hzI (A 25) (A 26) (I 594 11) tn) l src s) := by
    intro l src hl hs n' sl' m' q1 q2
    obtain ⟨-, -, hv⟩ := h1.vld (by omega)
    obtain ⟨f1, f2, f3⟩ := h1.2.2.2.2.2.2.2.2.merge (h := hzI (A 25) (A 26) (I 594 11) tn) hv (by omega) hs hl
    unfold RmC
    omega
  exact op_compact h1 (by omega) (StG.mk1 h1 (hr.keep (by omega) (by omega))) (fun l src hl hs K' I' R' A' B' Ln' n' sl' a' m' cs' fs' many' hS q1 q2 => StG.mk1 hS (mg l src hl hs q1 q2))
set_option maxRecDepth 100000 in
set_option maxHeartbeats 4000000 in
theorem sg_crash {c : Nat} {G : GH} (h : StG c G) (hc : c ≤ 512) : EvM X mX8_crash (d + 60) [rV (some 3)] G (fun r1 G1 => G1.1 11 = 9 ∧ EvM X mX9_crash (d + 60) [rV (some 11)] G1 (fun r2 G2 => r2 = r1 ∧ StG (c + 1) G2)) := by
  obtain ⟨K, I, J, R, A, B, Ln, n, sl, a, m, cs, fs, s, many, tn, la, ti, pn, px, pe, ixn, ie, rn, p, rfl, h1, h2⟩ := h
  have hr := h2
  obtain ⟨r1, r2, r3⟩ := h2
  exact op_crash h1 (fun I' A' hS => StG.mk1 hS (hr.keep (by omega) (by omega)))
set_option maxRecDepth 100000 in
set_option maxHeartbeats 4000000 in
theorem sg_result {c : Nat} {G : GH} (h : StG c G) (hc : c ≤ 512) (x : Int32) : EvM X mX8_result (d + 60) [rV (some 3), iV x] G (fun r1 G1 => G1.1 11 = 9 ∧ EvM X mX9_result (d + 60) [rV (some 11), iV x] G1 (fun r2 G2 => r2 = r1 ∧ StG (c + 1) G2)) := by
  obtain ⟨K, I, J, R, A, B, Ln, n, sl, a, m, cs, fs, s, many, tn, la, ti, pn, px, pe, ixn, ie, rn, p, rfl, h1, h2⟩ := h
  have hr := h2
  obtain ⟨r1, r2, r3⟩ := h2
  exact op_result h1 x (StG.mk1 h1 (hr.keep (by omega) (by omega)))
set_option maxRecDepth 100000 in
set_option maxHeartbeats 4000000 in
theorem sg_plan {c : Nat} {G : GH} (h : StG c G) (hc : c ≤ 512) (x : Int32) : EvM X mX8_plan (d + 60) [rV (some 3), iV x] G (fun r1 G1 => G1.1 11 = 9 ∧ EvM X mX9_plan (d + 60) [rV (some 11), iV x] G1 (fun r2 G2 => r2 = r1 ∧ StG (c + 1) G2)) := by
  obtain ⟨K, I, J, R, A, B, Ln, n, sl, a, m, cs, fs, s, many, tn, la, ti, pn, px, pe, ixn, ie, rn, p, rfl, h1, h2⟩ := h
  have hr := h2
  obtain ⟨r1, r2, r3⟩ := h2
  exact op_plan h1 x (StG.mk1 h1 (hr.keep (by omega) (by omega)))
set_option maxRecDepth 100000 in
set_option maxHeartbeats 4000000 in
theorem sg_state {c : Nat} {G : GH} (h : StG c G) (hc : c ≤ 512) (x : Int32) : EvM X mX8_state (d + 60) [rV (some 3), iV x] G (fun r1 G1 => G1.1 11 = 9 ∧ EvM X mX9_state (d + 60) [rV (some 11), iV x] G1 (fun r2 G2 => r2 = r1 ∧ StG (c + 1) G2)) := by
  obtain ⟨K, I, J, R, A, B, Ln, n, sl, a, m, cs, fs, s, many, tn, la, ti, pn, px, pe, ixn, ie, rn, p, rfl, h1, h2⟩ := h
  have hr := h2
  obtain ⟨r1, r2, r3⟩ := h2
  exact op_state h1 x (StG.mk1 h1 (hr.keep (by omega) (by omega)))
set_option maxRecDepth 100000 in
set_option maxHeartbeats 4000000 in
theorem sg_about {c : Nat} {G : GH} (h : StG c G) (hc : c ≤ 512) (x : Int32) : EvM X mX8_about (d + 60) [rV (some 3), iV x] G (fun r1 G1 => G1.1 11 = 9 ∧ EvM X mX9_about (d + 60) [rV (some 11), iV x] G1 (fun r2 G2 => r2 = r1 ∧ StG (c + 1) G2)) := by
  obtain ⟨K, I, J, R, A, B, Ln, n, sl, a, m, cs, fs, s, many, tn, la, ti, pn, px, pe, ixn, ie, rn, p, rfl, h1, h2⟩ := h
  have hr := h2
  obtain ⟨r1, r2, r3⟩ := h2
  exact op_about h1 (by omega) x (StG.mk1 h1 (hr.keep (by omega) (by omega)))
set_option maxRecDepth 100000 in
set_option maxHeartbeats 4000000 in
theorem sg_files {c : Nat} {G : GH} (h : StG c G) (hc : c ≤ 512) (x : Int32) : EvM X mX8_files (d + 60) [rV (some 3), iV x] G (fun r1 G1 => G1.1 11 = 9 ∧ EvM X mX9_files (d + 60) [rV (some 11), iV x] G1 (fun r2 G2 => r2 = r1 ∧ StG (c + 1) G2)) := by
  obtain ⟨K, I, J, R, A, B, Ln, n, sl, a, m, cs, fs, s, many, tn, la, ti, pn, px, pe, ixn, ie, rn, p, rfl, h1, h2⟩ := h
  have hr := h2
  obtain ⟨r1, r2, r3⟩ := h2
  exact op_files h1 (by omega) x (StG.mk1 h1 (hr.keep (by omega) (by omega)))
set_option maxRecDepth 100000 in
set_option maxHeartbeats 4000000 in
theorem sg_file {c : Nat} {G : GH} (h : StG c G) (hc : c ≤ 512) (x y z : Int32) : EvM X mX8_file (d + 60) [rV (some 3), iV x, iV y, iV z] G (fun r1 G1 => G1.1 11 = 9 ∧ EvM X mX9_file (d + 60) [rV (some 11), iV x, iV y, iV z] G1 (fun r2 G2 => r2 = r1 ∧ StG (c + 1) G2)) := by
  obtain ⟨K, I, J, R, A, B, Ln, n, sl, a, m, cs, fs, s, many, tn, la, ti, pn, px, pe, ixn, ie, rn, p, rfl, h1, h2⟩ := h
  have hr := h2
  obtain ⟨r1, r2, r3⟩ := h2
  exact op_file h1 (by omega) x y z (StG.mk1 h1 (hr.keep (by omega) (by omega)))
end C98W
