theorem anyM_mrg {h l src : Int32} {s : SA} (hv : SaV s) (hmd : s.2.2 + 520 < 2147483648) (hs : (src, l) ∈ s.2.1) (z : anyM (mrgS h l src s) = true) : anyM s = true := by
  have hm0 : 0 < s.2.2 := by
    obtain ⟨-, k, k1, k2, -⟩ := hv.2.2.1 _ hs
    omega
  obtain ⟨x, hx, hz⟩ := List.any_eq_true.mp z
  obtain ⟨j, hj, hjm, rfl⟩ := mrg_mem hx
  have hz : nuS h l src s j = 0 := of_decide_eq_true hz
  refine List.any_eq_true.mpr ⟨_, hjm, decide_eq_true ?_⟩
  unfold nuS at hz
  by_cases hk : ∃ p ∈ (mgS h l src s).1, p.1 = j
  · obtain ⟨p, hp, rfl⟩ := hk
    have hn : ((mgS h l src s).1.map (fun p => p.1)).Nodup := by
      unfold mgS
      rw [mgF_keysL]
      exact List.Pairwise.filter _ List.nodup_range
    rw [upF_mem hn hp] at hz
    have hlr := List.length_filter_le (fun j => takS s l src (xsL s.1 j)) (List.range s.1.length)
    rw [List.length_range] at hlr
    have := hv.2.2.2.2.1
    exact absurd hz (mgF_nz hm0 (by omega) p hp)
  · rw [upF_out (fun p hp z => hk ⟨p, hp, z⟩)] at hz
    exact hz
theorem stv_E {h : Int32} {la : Nat} : ∀ (k : Nat) {s s' : SA}, SmE s la → anyM s = false → Stv h k s s' → SmE s' la ∧ anyM s' = false ∧ s'.2.2 ≤ s.2.2 + 42 * k
  | 0, s, s', hE, ha, hst => by
    obtain ⟨-, -, rfl⟩ := hst
    exact ⟨hE, ha, by omega⟩
  | k + 1, s, s', hE, ha, hst => by
    obtain ⟨⟨hv, hmd⟩, l, src, ho, hs, hst⟩ := hst
    have hl : l = nI 0 ∨ l = nI 1 := by
      rcases ovS_lv ho with ⟨z, -⟩ | ⟨z, -⟩
      · exact Or.inl z
      · exact Or.inr z
    obtain ⟨m1, m2, m3⟩ := hE.merge (h := h) hv hmd (srcS_mem hs) hl
    have ha' : anyM (mrgS h l src s) = false := by
      cases hq : anyM (mrgS h l src s) with
      | false => rfl
      | true => rw [anyM_mrg hv hmd (srcS_mem hs) hq] at ha; cases ha
    obtain ⟨r1, r2, r3⟩ := stv_E k m1 ha' hst
    exact ⟨r1, r2, by omega⟩
theorem ixL_len {had has : Bool} {ro rn : Nat → Int32} {ie : Nat → EX} {k : Int32} : ∀ {i : Nat}, (ixL had has ro rn ie k i).length ≤ 2 * i
  | 0 => Nat.le_refl _
  | i + 1 => by
    rw [ixL_s, List.length_append]
    have := ixL_len (had := had) (has := has) (ro := ro) (rn := rn) (ie := ie) (k := k) (i := i)
    have h2 : (ixE had has (vlE ro (ie i)) (vlE rn (ie i)) i k).length ≤ 2 := by
      unfold ixE
      rw [List.length_append]
      split <;> split <;> simp
    omega
theorem bat_len {la : Nat} {wr had has : Nat → Bool} {ro rn : Nat → Nat → Int32} {ie : Nat → EX} {ixn : Nat} (h3 : ixn ≤ 3) : ∀ {k : Nat}, (batL la wr had has ro rn ie ixn k).length ≤ 7 * k
  | 0 => Nat.le_refl _
  | k + 1 => by
    rw [batL_s, List.length_append]
    have := bat_len (la := la) (wr := wr) (had := had) (has := has) (ro := ro) (rn := rn) (ie := ie) h3 (k := k)
    have h2 : (if wr k = true then (keyE (had k) (has k) (ro k) (rn k) ie k ixn).map (mkE la (rn k)) else []).length ≤ 7 := by
      split
      · rw [List.length_map]
        unfold keyE
        rw [List.length_append]
        have := ixL_len (had := had k) (has := has k) (ro := ro k) (rn := rn k) (ie := ie) (k := nI k) (i := ixn)
        simp only [List.length_singleton]
        omega
      · simp
    omega
section C98S
variable {X : CX} {d : Nat} {K : Nat → Nat} {I : Nat → Nat → Int32} {J : Nat → Nat → Int64} {R : Nat → Nat → Option Nat} {A : Nat → Nat → Int32} {B : Nat → Nat → Option Nat} {Ln : Nat → Nat} {n sl : Nat} {a m : Nat} {cs fs : List Nat} {s : SA} {many tn la : Nat} {ti : Nat → Nat} {pn : Nat} {px : Nat → Nat} {pe : Nat → EX} {ixn : Nat} {ie : Nat → EX} {rn : Nat} {p : PP}
set_option maxRecDepth 100000 in
set_option maxHeartbeats 4000000 in
theorem StF.of11 {K' : Nat → Nat} {I' I1 I1' : Nat → Nat → Int32} {R' B' : Nat → Nat → Option Nat} {Ln' : Nat → Nat} {n' : Nat} (hF : StF K I R B Ln n K' I' R' B' Ln' n') (hn : 34 ≤ n) (e : ∀ f i, i ≠ 11 → I1 f i = I f i) (e' : ∀ f i, i ≠ 11 → I1' f i = I' f i) (e11 : ∀ f, I1' f 11 = I1 f 11) : StF K I1 R B Ln n K' I1' R' B' Ln' n' := by
  obtain ⟨h1, h2, h3, h4, h5, h6⟩ := hF
  refine ⟨h1, h2, fun i hi => ?_, fun f i hi hz => ?_, h5, h6⟩
  · obtain ⟨z1, z2, z3, z4⟩ := h3 i hi
    exact ⟨z1, fun f => by rw [e' f i (by omega), e f i (by omega)]; exact z2 f, z3, z4⟩
  · by_cases hi11 : i = 11
    · rw [hi11]; exact e11 f
    · rw [e' f i hi11, e f i hi11]; exact h4 f i hi hz
theorem ref_flush (hM : MFix K R Ln) (hR : RfR I A many s) (hv : SaV s) : EvM X mX9_flush (d + 1) [rV (some 11)] (K, I, J, R, A, B, Ln, n, sl) (fun r G' => ∃ x I' A', r = some (iV x) ∧ G' = (K, I', J, R, A', B, Ln, n, sl) ∧ RfR I' A' many (fluS s) ∧ (∀ i, i ∉ [16, 17, 18, 19, 20, 21, 22, 23, 24, 32, 33] → A' i = A i) ∧ ∀ f i, ¬ (i = 11 ∧ (f = 582 ∨ f = 590 ∨ f = 593 ∨ f = 612)) → I' f i = I f i) := by
  have hlen := hR.len
  have h5 := hv.2.2.2.2.1
  have h6 := hv.2.2.2.2.2
  by_cases hz : s.1.countP (fun x => decide (eF x = 0)) = 0
  · have hfl : fluS s = s := by
      unfold fluS
      rw [if_neg]
      intro z
      obtain ⟨x, hx, hy⟩ := List.any_eq_true.mp z
      exact List.countP_eq_zero.mp hz x hx hy
    refine (sp_flush0 (d := d) hM hR.1 (by omega) (by rw [hR.cnt0]; exact hz)).mono (fun r G' ⟨e1, e2⟩ => ?_)
    exact ⟨_, I, A, e1, e2, by rw [hfl]; exact hR, fun _ _ => rfl, fun _ _ _ => rfl⟩
  · refine (sp_flush1 (d := d) hM hR.1 (by omega) hR.2.2.2.2 hR.2.2.2.1 (by omega) (by rw [hR.cnt0]; omega)).mono (fun r G' ⟨e1, e2⟩ => ?_)
    refine ⟨_, _, _, e1, e2, hR.flush (by omega), fun i hi => ?_, fun f i hi => ?_⟩
    · funext q
      unfold flA
      rw [if_neg (fun z => hi (by rw [z.1]; decide)), u2_row' (fun z => hi (by rw [z]; decide)), u2_row' (fun z => hi (by rw [z]; decide))]
    · unfold u2
      rw [if_neg (fun z => hi ⟨z.2, by omega⟩), if_neg (fun z => hi ⟨z.2, by omega⟩)]
set_option maxRecDepth 100000 in
set_option maxHeartbeats 4000000 in
theorem ref_settle {K1 : Nat → Nat} {I1 : Nat → Nat → Int32} {R1 : Nat → Nat → Option Nat} {A1 : Nat → Nat → Int32} {B1 : Nat → Nat → Option Nat} {Ln1 : Nat → Nat} {n1 a m : Nat} {cs fs : List Nat} {hh : Int32} {t s' : SA} (hM : MFix K R Ln) (htb : tn ≤ 60) {k : Nat} (hk : k ≤ 600) (hH : HpC K1 I1 J R1 A1 B1 Ln1 n1 a m cs fs t) (hR : RfR I A many t) (ht : I 595 11 = nI tn) (hz : hzI (A 25) (A 26) (I 594 11) tn = hh) (hst : Stv hh k t s') : EvM X mX9_settle (d + 5) [rV (some 11)] (K, I, J, R, A, B, Ln, n, sl) (fun r G' => r = none ∧ ∃ I' A', G' = (K, I', J, R, A', B, Ln, n, sl) ∧ (∃ many', RfR I' A' many' s') ∧ (∀ i, i ∉ [16, 17, 18, 19, 20, 21, 22, 23, 24, 32, 33] → A' i = A i) ∧ ∀ f i, ¬ (i = 11 ∧ (f = 582 ∨ f = 590 ∨ f = 593 ∨ f = 612)) → I' f i = I f i) := by
  refine (sp_settle (X := X) (d := d + 3) (J := J) (B := B) (n := n) (sl := sl) (Inv := fun k I' A' => ∃ (K1 : Nat → Nat) (I1 : Nat → Nat → Int32) (R1 : Nat → Nat → Option Nat) (A1 : Nat → Nat → Int32) (B1 : Nat → Nat → Option Nat) (Ln1 : Nat → Nat) (n1 a m : Nat) (cs fs : List Nat) (t : SA) (many' : Nat), HpC K1 I1 J R1 A1 B1 Ln1 n1 a m cs fs t ∧ RfR I' A' many' t ∧ Stv hh k t s' ∧ (∀ i, i ∉ [16, 17, 18, 19, 20, 21, 22, 23, 24, 32, 33] → A' i = A i) ∧ ∀ f i, ¬ (i = 11 ∧ (f = 582 ∨ f = 590 ∨ f = 593 ∨ f = 612)) → I' f i = I f i) hM ?_ hk ⟨K1, I1, R1, A1, B1, Ln1, n1, a, m, cs, fs, t, many, hH, hR, hst, fun _ _ => rfl, fun _ _ _ => rfl⟩).mono ?_
  · rintro k I' A' ⟨K1, I1, R1, A1, B1, Ln1, n1, a, m, cs, fs, t, many', q1, q2, q3, q4, q5⟩
    have hv : SvS t := by
      cases k with
      | zero => exact q3.1
      | succ k => exact q3.1
    have el0 : (t.2.1.filter (fun p => decide (p.2 = 0))).length = lvS t (nI 0) := by rw [← List.countP_eq_length_filter]; rfl
    have el1 : (t.2.1.filter (fun p => decide (p.2 = 1))).length = lvS t (nI 1) := by rw [← List.countP_eq_length_filter]; rfl
    have h6 := hv.1.2.2.2.2.2
    have h5 := hv.1.2.2.2.2.1
    refine ⟨t.2.1, q2.2.2.1, q2.2.2.2.1, by omega, fun hk0 => ?_, fun j hkj => ?_⟩
    · subst hk0
      obtain ⟨-, ho, -⟩ := q3
      rw [el0, el1]
      unfold ovS at ho
      by_cases h1 : 2 < lvS t (nI 0)
      · rw [if_pos h1] at ho; cases ho
      · rw [if_neg h1] at ho
        by_cases h2 : 3 < lvS t (nI 1)
        · rw [if_pos h2] at ho; cases ho
        · exact ⟨h1, h2⟩
    · subst hkj
      obtain ⟨-, l, src, ho, hs, q6⟩ := q3
      have hlv := ovS_lv ho
      have hl : nI (if 2 < (t.2.1.filter (fun p => decide (p.2 = 0))).length then 0 else 1) = l := by
        rw [el0]
        rcases hlv with ⟨z1, z2⟩ | ⟨z1, z2, z3⟩
        · rw [if_pos z2, z1]
        · rw [if_neg z2, z1]
      refine ⟨by rw [el0, el1]; omega, ?_⟩
      rw [hl]
      have hz' : hzI (A' 25) (A' 26) (I' 594 11) tn = hh := by
        rw [q4 25 (by decide), q4 26 (by decide), q5 594 11 (by omega)]; exact hz
      obtain ⟨r, G', -, -, -, K2, I2, R2, B2, Ln2, n2, sl2, a2, m2, cs2, fs2, -, -, hH', -⟩ := cs_mergeS (X := X) (d := 0) (sl := 0) (h := hh) q1 hv.2 hs
      refine (ref_comp (X := X) (d := d) (J := J) (B := B) (n := n) (sl := sl) q1 hM q2 hv.1 hv.2 ((q5 595 11 (by omega)).trans ht) htb hs).mono ?_
      rintro r G' ⟨I3, A3, e1, e2, e3, e4, e5⟩
      rw [hz'] at e1 e3
      exact ⟨_, I3, A3, e1, by omega, e2, K2, I2, R2, A1, B2, Ln2, n2, a2, m2, cs2, fs2, _, _, hH', e3, q6, fun i hi => (e4 i hi).trans (q4 i hi), fun f i hi => (e5 f i hi).trans (q5 f i hi)⟩
  · rintro r G' ⟨rfl, I', A', rfl, K1, I1, R1, A1, B1, Ln1, n1, a, m, cs, fs, t, many', q1, q2, q3, q4, q5⟩
    obtain ⟨-, -, rfl⟩ := q3
    exact ⟨rfl, I', A', rfl, ⟨_, q2⟩, q4, q5⟩
set_option maxRecDepth 100000 in
set_option maxHeartbeats 4000000 in
/-- flush and merges: the reference behind the class -/
theorem Sim.fm {Ic I' Ir A0 : Nat → Nat → Int32} {K' : Nat → Nat} {R' B' : Nat → Nat → Option Nat} {Ln' : Nat → Nat} {n' a' m' k : Nat} {cs' fs' : List Nat} {s' : SA} (h : Sim K I J R A B Ln n a m cs fs s many tn la ti pn px pe ixn ie rn p) (hmd : s.2.2 + 520 < 2147483648) (hk : k ≤ 600) (hst : Stv (hzI (A 25) (A 26) (I 594 11) tn) k (fluS s) s') (hF : StF K Ic R B Ln n K' I' R' B' Ln' n') (hH' : HpC K' I' J R' A0 B' Ln' n' a' m' cs' fs' s') (e1 : ∀ f i, i ≠ 11 → Ic f i = I f i) (e2 : ∀ f i, i ≠ 11 → Ir f i = I' f i) (e3 : ∀ f, Ir f 11 = I f 11) (e4 : ∀ i, 34 ≤ i → A0 i = A i) : EvM X mX9_flush (d + 5) [rV (some 11)] (K', Ir, J, R', A, B', Ln', n', sl) (fun r G1 => ∃ x I1 A1, r = some (iV x) ∧ G1 = (K', I1, J, R', A1, B', Ln', n', sl) ∧ EvM X mX9_settle (d + 5) [rV (some 11)] (K', I1, J, R', A1, B', Ln', n', sl) (fun r G2 => r = none ∧ ∃ I2 A2, G2 = (K', I2, J, R', A2, B', Ln', n', sl) ∧ I2 594 11 = nI la ∧ ∃ many', Sim K' I2 J R' A2 B' Ln' n' a' m' cs' fs' s' many' tn la ti pn px pe ixn ie rn p)) := by
  obtain ⟨hm5, hf5, hv⟩ := h.vld (by omega)
  have h0 := h
  obtain ⟨hH, hM, hR, hT, -, -, -, -, hE⟩ := h
  obtain ⟨⟨t1, t2⟩, t3, t4, t5, t6, t7, t8, t9, t10, t11⟩ := hT
  have hn := hH.2.2.2.2
  have k11 := hM.1
  have hF' : StF K I R B Ln n K' Ir R' B' Ln' n' := hF.of11 hn (fun f i hi => (e1 f i hi).symm) e2 e3
  have hM' : MFix K' R' Ln' := hM.of (fun i hi => (hF.2.1 i (by omega)).1) (fun i hi => (hF.2.1 i (by omega)).2) (fun f => hF.2.2.2.2.1 f 11 (by omega) (by rw [k11]; omega))
  have hR' : RfR Ir A many s := ⟨(e3 _).trans hR.1, hR.2.1, hR.2.2.1, (e3 _).trans hR.2.2.2.1, (e3 _).trans hR.2.2.2.2⟩
  have k11' : K' 11 = 9 := (hF.2.1 11 (by omega)).1.trans k11
  have hnn := hF.1
  have hHr : HpC K' Ir J R' A B' Ln' n' a' m' cs' fs' s' := by
    refine hH'.ns k11' ⟨Nat.le_refl _, fun i hi => ⟨rfl, rfl, fun f => Or.inl rfl, fun _ h11 _ f => e2 f i h11, fun _ _ => rfl, fun _ => rfl⟩⟩ (fun i hi => ?_) hH'.2.2.2.1
    obtain ⟨z1, z2, z3, z4, z5⟩ := hH'.2.2.1 i hi
    exact ⟨fun f => by rw [e2 f i (by omega)]; exact z1 f, z2, z3, fun q => by rw [← e4 i (by omega)]; exact z4 q, z5⟩
  obtain ⟨f1, f2, f3, f4, f5, f6⟩ := hE.flush (by omega)
  obtain ⟨g1, g2, g3⟩ := stv_E k f1 f6 hst
  obtain ⟨r, G', -, -, -, K2, I2, R2, B2, Ln2, n2, sl2, a2, m2, cs2, fs2, -, -, hHf, -⟩ := cs_flushS (X := X) (d := 0) (sl := 0) hH hmd
  refine (ref_flush (X := X) (d := d + 4) (J := J) (B := B') (n := n') (sl := sl) hM' hR' hv).mono ?_
  rintro r G1 ⟨x, I1, A1, rfl, rfl, q1, q2, q3⟩
  refine ⟨x, I1, A1, rfl, rfl, ?_⟩
  have hz : hzI (A1 25) (A1 26) (I1 594 11) tn = hzI (A 25) (A 26) (I 594 11) tn := by
    rw [q2 25 (by decide), q2 26 (by decide), q3 594 11 (by omega), e3]
  refine (ref_settle (X := X) (d := d) (B := B') (n := n') (sl := sl) hM' t1 hk hHf q1 ((q3 595 11 (by omega)).trans ((e3 _).trans t4)) hz hst).mono ?_
  rintro r G2 ⟨rfl, I4, A4, rfl, ⟨many', p1⟩, p2, p3⟩
  refine ⟨rfl, I4, A4, rfl, by rw [p3 594 11 (by omega), q3 594 11 (by omega), e3]; exact t6, many', ?_⟩
  exact h0.store hF' hHr (fun f i hi => (p3 f i hi).trans (q3 f i hi)) (fun i hi => (p2 i hi).trans (q2 i hi)) p1 g1
set_option maxRecDepth 100000 in
set_option maxHeartbeats 4000000 in
theorem SmT.A30 {A' : Nat → Nat → Int32} (h : SmT K I R A B Ln n tn la ti) (hA : ∀ i, i ≠ 29 → i ≠ 30 → A' i = A i) : SmT K I R A' B Ln n tn la ti := by
  obtain ⟨t1, t3, t4, t5, t6, t7, t8, t9, t10, t11⟩ := h
  refine ⟨t1, t3, t4, t5, t6, t7, fun j hj => ?_, by rw [hA 25 (by decide) (by decide)]; exact t9, fun i hi => by rw [hA 27 (by decide) (by decide)]; exact t10 i hi, fun q hq => by rw [hA 27 (by decide) (by decide)] at hq; rw [hA 28 (by decide) (by decide)]; exact t11 q hq⟩
  obtain ⟨z1, z2, z3, z4, z5, z6, z7, z8⟩ := t8 j hj
  refine ⟨z1, z2, z3, by rw [hA 25 (by decide) (by decide)]; exact z4, by rw [hA 26 (by decide) (by decide)]; exact z5, by rw [hA 26 (by decide) (by decide)]; exact z6, by rw [hA 27 (by decide) (by decide)]; exact z7, fun k hk => ?_⟩
  have hw := z8 k hk
  unfold WrJ at hw ⊢
  rw [hA 27 (by decide) (by decide), hA 28 (by decide) (by decide), hA (ti j + 1) (by omega) (by omega)]
  exact hw
theorem Sim.A30 {A' : Nat → Nat → Int32} (h : Sim K I J R A B Ln n a m cs fs s many tn la ti pn px pe ixn ie rn p) (hA : ∀ i, i ≠ 29 → i ≠ 30 → A' i = A i) : Sim K I J R A' B Ln n a m cs fs s many tn la ti pn px pe ixn ie rn p := by
  have hH := h.1
  refine h.tx ⟨Nat.le_refl _, fun i hi => ⟨rfl, rfl, fun f => Or.inl rfl, fun _ _ _ _ => rfl, fun _ _ => rfl, fun _ => rfl⟩⟩ (fun _ _ => rfl) (fun _ _ => rfl) rfl ⟨rfl, rfl⟩ (fun i _ _ _ _ _ h29 h30 => hA i h29 h30) (fun i hi => ?_) hH.2.2.2.1 (h.2.2.2.1.A30 hA)
  obtain ⟨z1, z2, z3, z4, z5⟩ := hH.2.2.1 i hi
  have := hH.2.2.2.2
  exact ⟨z1, z2, z3, fun j => by rw [hA i (by omega) (by omega)]; exact z4 j, z5⟩
theorem Sim.scr {I' A' : Nat → Nat → Int32} (h : Sim K I J R A B Ln n a m cs fs s many tn la ti pn px pe ixn ie rn p) (hba : BatI A many la A' []) (h582 : I' 582 11 = nI many) (hI : ∀ f i, ¬ (f = 582 ∧ i = 11) → I' f i = I f i) : Sim K I' J R A' B Ln n a m cs fs s many tn la ti pn px pe ixn ie rn p := by
  have e : I' = I := by
    funext f i
    by_cases z : f = 582 ∧ i = 11
    · rw [z.1, z.2, h582]; exact h.2.2.1.1.symm
    · exact hI f i z
  rw [e]
  have hR := h.2.2.1
  have hA3 : ∀ i, i ≠ 29 → i ≠ 30 → (fun i => if i = 29 ∨ i = 30 then A i else A' i) i = A' i := fun i h1 h2 => by
    show (if i = 29 ∨ i = 30 then A i else A' i) = A' i
    rw [if_neg (fun z => z.elim h1 h2)]
  have h1 : Sim K I J R (fun i => if i = 29 ∨ i = 30 then A i else A' i) B Ln n a m cs fs s many tn la ti pn px pe ixn ie rn p := by
    refine h.store StF.refl h.1 (fun _ _ _ => rfl) (fun i hi => ?_) ⟨hR.1, ?_, hR.2.2.1.congr ?_ ?_, hR.2.2.2.1, hR.2.2.2.2⟩ h.2.2.2.2.2.2.2.2
    · show (if i = 29 ∨ i = 30 then A i else A' i) = A i
      by_cases z : i = 29 ∨ i = 30
      · rw [if_pos z]
      · rw [if_neg z]
        exact hba.1 i (by simp at hi ⊢; omega)
    · have e1 : (List.range many).map (fun e => nrmE (entA (fun i => if i = 29 ∨ i = 30 then A i else A' i) e)) = (List.range many).map (fun e => nrmE (entA A e)) := List.map_congr_left (fun e he => by
        rw [← hba.2.1 e (List.mem_range.mp he)]
        rfl)
      rw [e1]; exact hR.2.1
    · exact hba.1 23 (by decide)
    · exact hba.1 24 (by decide)
  exact h1.A30 (fun i h1 h2 => (hA3 i h1 h2).symm)
end C98S
