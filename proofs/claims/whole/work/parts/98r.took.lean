theorem cnt_lt {p q : Nat → Bool} {j : Nat} (hq : q j = true) (hp : p j = false) : ∀ {e : Nat}, j < e → (∀ i, i < e → p i = true → q i = true) → cnt p e + 1 ≤ cnt q e
  | 0, h, _ => absurd h (Nat.not_lt_zero _)
  | e + 1, h, hm => by
    rw [cnt.eq_2, cnt.eq_2]
    by_cases hj : j = e
    · subst hj
      rw [hq, hp]
      have := cnt_mono (p := p) (q := q) (e := j) (fun i hi => hm i (by omega))
      simp; omega
    · have ih := cnt_lt hq hp (e := e) (by omega) (fun i hi => hm i (by omega))
      have h2 := hm e (by omega)
      cases hpe : p e with
      | false => simp; omega
      | true => rw [h2 hpe]; simp; omega
theorem nrm_l (y : EE) : (nrmE y).2.2.2.2.2.2.2.2 = 0 ∨ (nrmE y).2.2.2.2.2.2.2.2 = y.2.2.2.2.2.2.2.2 := by
  unfold nrmE
  split
  · exact Or.inl rfl
  · exact Or.inr rfl
theorem ph_took {s : SA} {L : List EE} : phT (L, s.2.1, s.2.2) ≤ phT s + 2210 := by
  unfold phT
  have e : phS (L, s.2.1, s.2.2) = phS s := rfl
  rw [e]
  split <;> split <;> omega
section C98R
variable {X : CX} {d : Nat} {K : Nat → Nat} {I : Nat → Nat → Int32} {J : Nat → Nat → Int64} {R : Nat → Nat → Option Nat} {A : Nat → Nat → Int32} {B : Nat → Nat → Option Nat} {Ln : Nat → Nat} {n sl : Nat} {a m : Nat} {cs fs : List Nat} {s : SA} {many tn la : Nat} {ti : Nat → Nat} {pn : Nat} {px : Nat → Nat} {pe : Nat → EX} {ixn : Nat} {ie : Nat → EX} {rn : Nat} {p : PP}
set_option maxRecDepth 100000 in
set_option maxHeartbeats 4000000 in
/-- a batch taken in, in both -/
theorem Sim.took {K1 : Nat → Nat} {I1 I2 : Nat → Nat → Int32} {J1 : Nat → Nat → Int64} {R1 B1 : Nat → Nat → Option Nat} {A1 : Nat → Nat → Int32} {n1 sl0 sl1 : Nat} {cs1 : List Nat} (h : Sim K I J R A B Ln n a m cs fs s many tn la ti pn px pe ixn ie rn p) (hmd : s.2.2 < 2147483648) {j : Nat} (hj : j < tn) (hs : A 25 j = 1) (hbt : BtI K I J R B Ln n sl0 a m cs fs s.2.2 la A ((batA A j many la ie ixn 32).map nrmE) (NbP 32 0) K1 I1 J1 R1 B1 n1 sl1 cs1) (hba : BatI A many la A1 (batA A j many la ie ixn 32)) (hI : ∀ f i, ¬ (i = 11 ∧ (f = 582 ∨ f = 594)) → I2 f i = u2 (u2 I1 519 3 (nI (la + 1))) 449 (ti j) (nI 2) f i) (h582 : I2 582 11 = nI (many + (batA A j many la ie ixn 32).length)) (h594 : I2 594 11 = nI (la + 1)) : Sim K1 I2 J1 R1 (u2 A1 25 j 2) B1 Ln n1 a m cs1 fs (cs1.map (entC I1 R1), s.2.1, s.2.2) (many + (batA A j many la ie ixn 32).length) tn (la + 1) ti pn px pe ixn ie rn p := by
  have hnm2 := fun {q : Nat} (hq : q < 32) => rf_nm h hmd hj hq
  obtain ⟨hm5, -, hv⟩ := h.vld hmd
  obtain ⟨hH, hM, hRf, hT0, hP, hX, hRe, hL, hE⟩ := h
  obtain ⟨b1, b2, b3, b4, b5, b6, b7, b8, b9⟩ := hbt
  obtain ⟨a1, a2, a3, a4⟩ := hba
  have hn := hH.2.2.2.2
  have hC := hH.1
  have k11 := hM.1
  have hnn := b2.1
  have hF := b2.2
  obtain ⟨kE, kF⟩ := CsR.kinds hH.2.1.1
  obtain ⟨⟨t1, t2⟩, t3, t4, t5, t6, t7, t8, t9, t10, t11⟩ := hT0
  have htj := (t8 j hj).2.1
  have ktj : K (ti j) = 7 := (t8 j hj).2.2.1.1
  have hI1 : ∀ f i, ¬ (i = 11 ∧ (f = 582 ∨ f = 594)) → ¬ (i = 3 ∧ f = 519) → ¬ (i = ti j ∧ f = 449) → I2 f i = I1 f i := fun f i z2 z3 z4 => by
    rw [hI f i z2]
    unfold u2
    rw [if_neg (fun z => z4 ⟨z.2, z.1⟩), if_neg (fun z => z3 ⟨z.2, z.1⟩)]
  have hI2 : ∀ f i, i < n → ¬ (i = 7 ∧ (f = 385 ∨ f = 386)) → ¬ (i = 11 ∧ (f = 582 ∨ f = 594)) → ¬ (i = 3 ∧ f = 519) → ¬ (i = ti j ∧ f = 449) → I2 f i = I f i := fun f i hi z1 z2 z3 z4 => (hI1 f i z2 z3 z4).trans ((hF i hi).2.2.2.2.1 f z1)
  have hA2 : ∀ i, i ≠ 25 → i ∉ [16, 17, 18, 19, 20, 21, 22, 29, 30] → (u2 A1 25 j 2) i = A i := fun i h25 hi => by
    rw [u2_row' h25]
    exact a1 i hi
  have eA : ∀ e, entA (u2 A1 25 j 2) e = entA A1 e := fun e => by
    unfold entA
    rw [u2_row' (by decide), u2_row' (by decide), u2_row' (by decide), u2_row' (by decide), u2_row' (by decide), u2_row' (by decide), u2_row' (by decide)]
  have k11' : K1 11 = 9 := (hF 11 (by omega)).1.trans k11
  have k3' : K1 3 = 8 := (hF 3 (by omega)).1.trans hC.m
  have ktj' : K1 (ti j) = 7 := (hF _ (by omega)).1.trans ktj
  have hHI1 : HpC K1 I1 J1 R1 A B1 Ln n1 a m cs1 fs (cs1.map (entC I1 R1), s.2.1, s.2.2) := by
    refine ⟨b2.cfix hn hC, ⟨b1, rfl, ?_⟩, b3, b4, by omega⟩
    show s.2.1 = _
    rw [hH.2.1.2.2]
    refine List.map_congr_left (fun g hg => ?_)
    obtain ⟨z1, z2, z3⟩ := kF g hg
    rw [(hF g z2).2.2.2.2.1 320 (by omega), (hF g z2).2.2.2.2.1 321 (by omega)]
  have hHI2 : HpC K1 I2 J1 R1 (u2 A1 25 j 2) B1 Ln n1 a m cs1 fs (cs1.map (entC I1 R1), s.2.1, s.2.2) := by
    refine hHI1.ns k11' ⟨Nat.le_refl _, fun i hi => ⟨rfl, rfl, fun f => Or.inl rfl, fun h3 h11 h7 f => hI1 f i (fun z => h11 z.1) (fun z => h3 z.1) (fun z => h7 (by rw [z.1]; exact ktj')), fun _ _ => rfl, fun _ => rfl⟩⟩ (fun i hi => ?_) b4
    obtain ⟨z1, z2, z3, z4, z5⟩ := b3 i hi
    exact ⟨fun f => by rw [hI1 f i (by omega) (by omega) (by omega)]; exact z1 f, z2, z3, fun q => by rw [hA2 i (by omega) (by simp; omega)]; exact z4 q, z5⟩
  have hM' : MFix K1 R1 Ln := hM.of (fun i hi => (hF i (by omega)).1) (fun _ _ => rfl) (fun f => (hF 11 (by omega)).2.2.2.1 f)
  have i3 : ∀ f, f ≠ 519 → I2 f 3 = I f 3 := fun f hf => hI2 f 3 (by omega) (by omega) (by omega) (by omega) (by omega)
  have i11 : ∀ f, f ≠ 582 → f ≠ 594 → I2 f 11 = I f 11 := fun f hf hg => hI2 f 11 (by omega) (by omega) (by omega) (by omega) (by omega)
  have hex : ∀ {f i : Nat} {e : EX}, ExpR K I R f i e → ExpR K1 I2 R1 f i e := fun he => (b2.expr hH.2.2.2.1 hC.K_st he).congr (fun i hi => ⟨hi, fun f => hI1 f i (fun z => by rw [z.1, k11'] at hi; omega) (fun z => by rw [z.1, k3'] at hi; omega) (fun z => by rw [z.1, ktj'] at hi; omega), fun _ => rfl⟩)
  have bO : ∀ i, i < n → i ≠ 8 → B1 i = B i := fun i hi h8 => (hF i hi).2.2.2.2.2 h8
  refine ⟨hHI2, hM', ⟨h582, ?_, hRf.2.2.1.congr (hA2 23 (by decide) (by decide)) (hA2 24 (by decide) (by decide)), (i11 _ (by decide) (by decide)).trans hRf.2.2.2.1, (i11 _ (by decide) (by decide)).trans hRf.2.2.2.2⟩, ?_, ?_, ?_, ?_, ?_, ?_⟩
  · refine List.Perm.trans ?_ b5.symm
    rw [List.range_add, List.map_append, List.map_map]
    have e1 : (List.range many).map (fun e => nrmE (entA (u2 A1 25 j 2) e)) = (List.range many).map (fun e => nrmE (entA A e)) := List.map_congr_left (fun e he => by rw [eA, a2 e (List.mem_range.mp he)])
    have e2 : (List.range (batA A j many la ie ixn 32).length).map ((fun e => nrmE (entA (u2 A1 25 j 2) e)) ∘ (fun x => many + x)) = (batA A j many la ie ixn 32).map nrmE := by
      refine List.ext_getElem (by rw [List.length_map, List.length_map, List.length_range]) (fun i h1 h2 => ?_)
      rw [List.getElem_map, List.getElem_map, List.getElem_range]
      have hi : i < (batA A j many la ie ixn 32).length := by rw [List.length_map] at h2; exact h2
      show nrmE (entA (u2 A1 25 j 2) (many + i)) = _
      rw [eA, a3 i _ (List.getElem?_eq_getElem hi)]
    rw [e1, e2, ← hH.2.1.2.1]
    exact hRf.2.1.append_right _
  · have hcl : cnt (fun i => decide ((u2 A1 25 j 2) 25 i = 1)) tn + 1 ≤ cnt (fun i => decide (A 25 i = 1)) tn := cnt_lt (j := j) (decide_eq_true hs) (by rw [u2_self]; decide) hj (fun i hi z => by
      by_cases hij : i = j
      · subst hij; rw [u2_self] at z; cases of_decide_eq_true z
      · rw [u2_ne2 hij, a1 25 (by decide)] at z; exact z)
    obtain ⟨t91, t92⟩ := t9
    have e27 := hA2 27 (by decide) (by decide)
    have e28 := hA2 28 (by decide) (by decide)
    refine ⟨⟨t1, by omega⟩, (i3 _ (by decide)).trans t3, (i11 _ (by decide) (by decide)).trans t4, ?_, h594, t7, fun i hi => ?_, ⟨by omega, by omega⟩, fun i hi => by rw [e27]; exact t10 i hi, fun q hq => by rw [e27] at hq; rw [e28]; exact t11 q hq⟩
    · rw [hI 519 3 (by omega), u2_ne1 (by decide)]; exact u2_self
    obtain ⟨c1, c2, c3, c4, c5, ⟨b, c6, c6'⟩, c7, c8⟩ := t8 i hi
    have hrk : ∀ k, k < 32 → ∀ r, B (ti i + 2) k = some r → r < n := fun k hk r hr => by
      have h3 := c3.2.2.2.2.2.2.2 k hk r hr
      by_cases z : r < n
      · exact z
      · have := hH.2.2.2.1 r (by omega); omega
    have bt : B1 (ti i + 2) = B (ti i + 2) := bO _ (by omega) (by omega)
    have e26 := hA2 26 (by decide) (by decide)
    refine ⟨by rw [bO 6 (by omega) (by decide)]; exact c1, ⟨c2.1, by omega⟩, b2.txo hn c2.1 c3 hrk c2.2, ?_, by rw [hI2 448 _ (by omega) (by omega) (by omega) (by omega) (by omega), e26]; exact c5, ⟨b, by omega, by rw [e26]; exact c6'⟩, by rw [hI2 450 _ (by omega) (by omega) (by omega) (by omega) (by omega), e27]; exact c7, fun k hk => ?_⟩
    · by_cases hij : i = j
      · subst hij
        rw [hI 449 _ (by omega), u2_self, u2_self]; rfl
      · have := ti_ne t7 hi hj hij
        rw [hI2 449 _ (by omega) (by omega) (by omega) (by omega) (by omega), u2_ne2 hij, a1 25 (by decide)]; exact c4
    · have hw := c8 k hk
      unfold WrJ at hw ⊢
      rw [e27, e28, hA2 (ti i + 1) (by omega) (by simp; omega), bt]
      rcases hw with w | ⟨w1, w2, r, w3, w4, w5⟩ | w
      · exact Or.inl w
      · have h3 := c3.2.2.2.2.2.2.2 k hk r w3
        exact Or.inr (Or.inl ⟨w1, w2, r, w3, by omega, fun f hf => by rw [hI2 _ r w4 (by omega) (by omega) (by omega) (by omega)]; exact w5 f hf⟩)
      · exact Or.inr (Or.inr w)
  · obtain ⟨p1, p2, p3, p4⟩ := hP
    refine ⟨(i3 _ (by decide)).trans p1, (i11 _ (by decide) (by decide)).trans p2, p3, fun i hi => ?_⟩
    obtain ⟨z1, z2, z3, z4⟩ := p4 i hi
    refine ⟨by rw [bO 4 (by omega) (by decide)]; exact z1, hex z2, ?_, by rw [hA2 15 (by decide) (by decide)]; exact z4⟩
    unfold ExA
    rw [hA2 12 (by decide) (by decide), hA2 13 (by decide) (by decide), hA2 14 (by decide) (by decide)]
    exact z3
  · obtain ⟨⟨x1, x2, x3⟩, x4, x5⟩ := hX
    refine ⟨⟨(i3 _ (by decide)).trans x1, x2, fun i hi => ?_⟩, (i11 _ (by decide) (by decide)).trans x4, fun i hi => ?_⟩
    · obtain ⟨x, y1, y2, y3⟩ := x3 i hi
      exact ⟨x, by rw [bO 5 (by omega) (by decide)]; exact y1, hex y2, y3⟩
    · unfold ExA
      rw [hA2 12 (by decide) (by decide), hA2 13 (by decide) (by decide), hA2 14 (by decide) (by decide)]
      exact x5 i hi
  · obtain ⟨z1, z2, z3, z4⟩ := hRe
    exact ⟨(i3 _ (by decide)).trans z1, (i11 _ (by decide) (by decide)).trans z2, z3, fun i hi => by rw [hA2 10 (by decide) (by decide), hA2 31 (by decide) (by decide)]; exact z4 i hi⟩
  · obtain ⟨⟨l1, lq⟩, l2, l3, l4, l5, l6⟩ := hL
    have r3 : R1 523 3 = R 523 3 := (hF 3 (by omega)).2.2.2.1 523
    have j11 : ∀ f, J1 f 11 = J f 11 := (hF 11 (by omega)).2.2.1
    refine ⟨⟨(i3 _ (by decide)).trans l1, ?_⟩, (i11 _ (by decide) (by decide)).trans l2, (j11 _).trans l3, (j11 _).trans l4, l5, by rw [i3 _ (by decide), i11 _ (by decide) (by decide)]; exact l6⟩
    rcases lq with ⟨z1, z2⟩ | ⟨z1, q, z2, z3, z4, z5⟩
    · exact Or.inl ⟨z1, r3.trans z2⟩
    · have hq : q < n := by
        by_cases z : q < n
        · exact z
        · have := hH.2.2.2.1 q (by omega); omega
      exact Or.inr ⟨z1, q, r3.trans z2, (hF q hq).1.trans z3, ((hF q hq).2.2.1 _).trans z4, ((hF q hq).2.2.1 _).trans z5⟩
  · obtain ⟨e1, e2, e3⟩ := hE
    refine ⟨fun x hx => ?_, ?_, e3⟩
    · rcases List.mem_append.mp (b5.mem_iff.mp hx) with hx | hx
      · rw [← hH.2.1.2.1] at hx
        obtain ⟨z1, z2, z3⟩ := e1 x hx
        exact ⟨Int32.le_trans z1 ((nle (by omega) (by omega)).mpr (by omega)), z2, z3⟩
      · obtain ⟨y, hy, rfl⟩ := List.mem_map.mp hx
        obtain ⟨k, hk, y1, y2, y3, y4⟩ := bat_mem hX.1.2.1 hy
        obtain ⟨nm, n1', n2'⟩ := hnm2 hk
        rw [(nrm_S _).1, (nrm_S _).2.1, (nrm_S _).2.2.2.1]
        refine ⟨by rw [y2]; exact Int32.le_refl _, y1, ?_⟩
        rcases nrm_l y with z | z
        · exact ⟨0, by decide, z⟩
        · exact ⟨nm, n1', z.trans (y4.trans n2')⟩
    · have el : lvS (cs1.map (entC I1 R1), s.2.1, s.2.2) (nI 0) = lvS s (nI 0) := rfl
      rw [el]
      have : (if anyM (cs1.map (entC I1 R1), s.2.1, s.2.2) = true then 1 else 0) ≤ 1 := by split <;> omega
      omega
end C98R
