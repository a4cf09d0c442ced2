theorem cnt_mono {p q : Nat → Bool} : ∀ {e : Nat}, (∀ j, j < e → p j = true → q j = true) → cnt p e ≤ cnt q e
  | 0, _ => Nat.le_refl _
  | e + 1, h => by
    rw [cnt.eq_2, cnt.eq_2]
    have := cnt_mono (p := p) (q := q) (e := e) (fun j hj => h j (by omega))
    have h2 := h e (by omega)
    cases hp : p e with
    | false => simp; omega
    | true => rw [h2 hp]; simp; omega
theorem allN_congr {p q : Nat → Bool} : ∀ {e : Nat}, (∀ j, j < e → p j = q j) → allN p e = allN q e
  | 0, _ => rfl
  | e + 1, h => by
    unfold allN
    rw [allN_congr (fun j hj => h j (by omega)), h e (by omega)]
theorem allN_no {p : Nat → Bool} {k : Nat} (hp : p k = false) : ∀ {e : Nat}, k < e → allN p e = false
  | 0, h => absurd h (Nat.not_lt_zero _)
  | e + 1, h => by
    unfold allN
    by_cases hk : k = e
    · subst hk; rw [hp, Bool.and_false]
    · rw [allN_no hp (by omega)]; rfl
theorem SmT.st {K : Nat → Nat} {I I' : Nat → Nat → Int32} {R : Nat → Nat → Option Nat} {A A' : Nat → Nat → Int32} {B : Nat → Nat → Option Nat} {Ln : Nat → Nat} {n tn la : Nat} {ti : Nat → Nat} (h : SmT K I R A B Ln n tn la ti) (hI : ∀ f i, f ≠ 449 → I' f i = I f i) (hA : ∀ i, i ≠ 25 → A' i = A i) (he : ∀ j, j < tn → I' 449 (ti j) = A' 25 j) (hc : cnt (fun j => decide (A' 25 j = 1)) tn ≤ cnt (fun j => decide (A 25 j = 1)) tn) : SmT K I' R A' B Ln n tn la ti := by
  obtain ⟨t1, t3, t4, t5, t6, t7, t8, t9, t10, t11⟩ := h
  refine ⟨t1, (hI _ _ (by decide)).trans t3, (hI _ _ (by decide)).trans t4, (hI _ _ (by decide)).trans t5, (hI _ _ (by decide)).trans t6, t7, fun j hj => ?_, ⟨Nat.le_trans hc t9.1, by have := t9.2; omega⟩, fun i hi => by rw [hA 27 (by decide)]; exact t10 i hi, fun q hq => by rw [hA 27 (by decide)] at hq; rw [hA 28 (by decide)]; exact t11 q hq⟩
  obtain ⟨z1, z2, z3, z4, z5, z6, z7, z8⟩ := t8 j hj
  refine ⟨z1, z2, z3, he j hj, by rw [hI _ _ (by decide), hA 26 (by decide)]; exact z5, by rw [hA 26 (by decide)]; exact z6, by rw [hI _ _ (by decide), hA 27 (by decide)]; exact z7, fun k hk => ?_⟩
  have hw := z8 k hk
  unfold WrJ at hw ⊢
  rw [hA 27 (by decide), hA 28 (by decide), hA (ti j + 1) (by omega)]
  rcases hw with w | ⟨w1, w2, r, w3, w4, w5⟩ | w
  · exact Or.inl w
  · exact Or.inr (Or.inl ⟨w1, w2, r, w3, w4, fun f hf => by rw [hI _ _ (by omega)]; exact w5 f hf⟩)
  · exact Or.inr (Or.inr w)
theorem ti_ne {tn : Nat} {ti : Nat → Nat} (h : ∀ i j, i < j → j < tn → ti i + 3 ≤ ti j) {i j : Nat} (hi : i < tn) (hj : j < tn) (hne : i ≠ j) : ti i + 3 ≤ ti j ∨ ti j + 3 ≤ ti i := by
  rcases Nat.lt_trichotomy i j with c | c | c
  · exact Or.inl (h i j c hj)
  · exact absurd c hne
  · exact Or.inr (h j i c hi)
/-- a key written or removed -/
theorem SmT.wr {K K' : Nat → Nat} {I I' : Nat → Nat → Int32} {R R' : Nat → Nat → Option Nat} {A A' : Nat → Nat → Int32} {B B' : Nat → Nat → Option Nat} {Ln Ln' : Nat → Nat} {n n' tn la : Nat} {ti : Nat → Nat} (h : SmT K I R A B Ln n tn la ti) {j k : Nat} (hj : j < tn) (hk : k < 32) (hn : n ≤ n') (hK : ∀ i, i < n → K' i = K i ∧ Ln' i = Ln i ∧ ∀ f, R' f i = R f i) (hI : ∀ f i, i < n → ¬ (i = ti j ∧ f = 450) → I' f i = I f i) (hB : ∀ i, i < n → i ≠ ti j + 2 → B' i = B i) (hB2 : ∀ q, q ≠ k → B' (ti j + 2) q = B (ti j + 2) q) (hBk : ∀ r, B' (ti j + 2) k = some r → K' r = 3) (hA : ∀ i, i ≠ 27 → i ≠ 28 → i ≠ ti j + 1 → A' i = A i) (hA1 : ∀ q, q ≠ k → A' (ti j + 1) q = A (ti j + 1) q) (hA7 : ∀ q, q ≠ 32 * j + k → A' 27 q = A 27 q) (hA8 : ∀ q f, f < 3 → q ≠ 32 * j + k → A' 28 (3 * q + f) = A 28 (3 * q + f)) (hW : WrJ I' A' B' n' (ti j) j k) (h450 : I' 450 (ti j) = 1) (hne : ¬ A' 27 (32 * j + k) = 0) (hnm : A' 27 (32 * j + k) = 1 → ∃ nm, nm < 2147483648 ∧ A' 28 (3 * (32 * j + k) + 2) = nI nm) (hrk : ∀ i, i < tn → ∀ q, q < 32 → ∀ r, B (ti i + 2) q = some r → r < n) (h3n : 34 ≤ n) (hr7 : ∀ r, r < n → K r = 3 → r ≠ ti j) : SmT K' I' R' A' B' Ln' n' tn la ti := by
  obtain ⟨t1, t3, t4, t5, t6, t7, t8, t9, t10, t11⟩ := h
  have htj := (t8 j hj).2.1
  refine ⟨t1, (hI _ 3 (by omega) (by omega)).trans t3, (hI _ 11 (by omega) (by omega)).trans t4, (hI _ 3 (by omega) (by omega)).trans t5, (hI _ 11 (by omega) (by omega)).trans t6, t7, fun i hi => ?_, by rw [hA 25 (by decide) (by decide) (by omega)]; exact t9, fun q hq => ?_, fun q hq => ?_⟩
  · obtain ⟨z1, z2, z3, z4, z5, z6, z7, z8⟩ := t8 i hi
    have hsp : i ≠ j → ti i + 3 ≤ ti j ∨ ti j + 3 ≤ ti i := fun z => ti_ne t7 hi hj z
    obtain ⟨o1, o2, o3, o4, o5, o6, o7, o8⟩ := z3
    refine ⟨by rw [hB 6 (by omega) (by omega)]; exact z1, ⟨z2.1, by omega⟩, ⟨(hK _ (by omega)).1.trans o1, ((hK _ (by omega)).2.2 _).trans o2, (hK _ (by omega)).1.trans o3, (hK _ (by omega)).2.1.trans o4, ((hK _ (by omega)).2.2 _).trans o5, (hK _ (by omega)).1.trans o6, (hK _ (by omega)).2.1.trans o7, fun q hq r hr => ?_⟩, by rw [hI _ _ (by omega) (by omega), hA 25 (by decide) (by decide) (by omega)]; exact z4, by rw [hI _ _ (by omega) (by omega), hA 26 (by decide) (by decide) (by omega)]; exact z5, by rw [hA 26 (by decide) (by decide) (by omega)]; exact z6, ?_, fun q hq => ?_⟩
    · by_cases hij : i = j
      · subst hij
        by_cases hqk : q = k
        · subst hqk; exact hBk r hr
        · rw [hB2 q hqk] at hr
          exact (hK r (hrk i hi q hq r hr)).1.trans (o8 q hq r hr)
      · have := hsp hij
        rw [hB _ (by omega) (by omega)] at hr
        exact (hK r (hrk i hi q hq r hr)).1.trans (o8 q hq r hr)
    · by_cases hij : i = j
      · subst hij
        rw [h450, allN_no (p := fun q => decide (A' 27 (32 * i + q) = 0)) (decide_eq_false hne) hk]
        rfl
      · have hs := hsp hij
        have e : allN (fun q => decide (A' 27 (32 * i + q) = 0)) 32 = allN (fun q => decide (A 27 (32 * i + q) = 0)) 32 := allN_congr (fun q hq => by rw [hA7 (32 * i + q) (by omega)])
        rw [hI _ _ (by omega) (by omega), z7, e]
    · by_cases hij : i = j
      · subst hij
        by_cases hqk : q = k
        · subst hqk; exact hW
        · have hw := z8 q hq
          unfold WrJ at hw ⊢
          rw [hA1 q hqk, hA7 (32 * i + q) (by omega), hB2 q hqk]
          rcases hw with w | ⟨w1, w2, r, w3, w4, w5⟩ | w
          · exact Or.inl w
          · exact Or.inr (Or.inl ⟨w1, w2, r, w3, by omega, fun f hf => by rw [hA8 (32 * i + q) f hf (by omega), hI _ r w4 (by omega)]; exact w5 f hf⟩)
          · exact Or.inr (Or.inr w)
      · have hs := hsp hij
        have hw := z8 q hq
        unfold WrJ at hw ⊢
        rw [hA (ti i + 1) (by omega) (by omega) (by omega), hA7 (32 * i + q) (by omega), hB (ti i + 2) (by omega) (by omega)]
        rcases hw with w | ⟨w1, w2, r, w3, w4, w5⟩ | w
        · exact Or.inl w
        · exact Or.inr (Or.inl ⟨w1, w2, r, w3, by omega, fun f hf => by rw [hA8 (32 * i + q) f hf (by omega), hI _ r w4 (by omega)]; exact w5 f hf⟩)
        · exact Or.inr (Or.inr w)
  · rw [hA7 q (by omega)]; exact t10 q hq
  · by_cases hqq : q = 32 * j + k
    · rw [hqq] at hq ⊢; exact hnm hq
    · rw [hA7 q hqq] at hq
      rw [hA8 q 2 (by decide) hqq]; exact t11 q hq
section C98D
variable {X : CX} {d : Nat} {K : Nat → Nat} {I : Nat → Nat → Int32} {J : Nat → Nat → Int64} {R : Nat → Nat → Option Nat} {A : Nat → Nat → Int32} {B : Nat → Nat → Option Nat} {Ln : Nat → Nat} {n sl : Nat} {a m : Nat} {cs fs : List Nat} {s : SA} {many tn la : Nat} {ti : Nat → Nat} {pn : Nat} {px : Nat → Nat} {pe : Nat → EX} {ixn : Nat} {ie : Nat → EX} {rn : Nat} {p : PP}
set_option maxRecDepth 100000 in
set_option maxHeartbeats 4000000 in
theorem Sim.st {I' A' : Nat → Nat → Int32} (h : Sim K I J R A B Ln n a m cs fs s many tn la ti pn px pe ixn ie rn p) (hI : ∀ f i, ¬ (f = 449 ∧ K i = 7 ∧ i < n) → I' f i = I f i) (hA : ∀ i, i ≠ 25 → A' i = A i) (he : ∀ j, j < tn → I' 449 (ti j) = A' 25 j) (hc : cnt (fun j => decide (A' 25 j = 1)) tn ≤ cnt (fun j => decide (A 25 j = 1)) tn) : Sim K I' J R A' B Ln n a m cs fs s many tn la ti pn px pe ixn ie rn p := by
  have hH := h.1
  have hT := h.2.2.2.1
  have hn := hH.2.2.2.2
  have k3 := hH.1.m
  have k11 := h.2.1.1
  have hC := hH.1
  refine h.tx ⟨Nat.le_refl _, fun i hi => ⟨rfl, rfl, fun f => Or.inl rfl, fun _ _ h7 f => hI f i (fun z => h7 z.2.1), fun f _ => rfl, fun _ => rfl⟩⟩ (fun f _ => hI f 3 (by rw [k3]; omega)) (fun f _ => hI f 11 (by rw [k11]; omega)) rfl ⟨rfl, rfl⟩ (fun i _ h25 _ _ _ _ _ => hA i h25) (fun i hi => ?_) hH.2.2.2.1 (hT.st (fun f i hf => hI f i (fun z => hf z.1)) hA he hc)
  obtain ⟨z1, z2, z3, z4, z5⟩ := hH.2.2.1 i hi
  exact ⟨fun f => by rw [hI f i (by omega)]; exact z1 f, z2, z3, fun j => by rw [hA i (by omega)]; exact z4 j, z5⟩
theorem op_abort (h : Sim K I J R A B Ln n a m cs fs s many tn la ti pn px pe ixn ie rn p) (x : Int32) {P : GH → Prop} (hP : ∀ I' A', Sim K I' J R A' B Ln n a m cs fs s many tn la ti pn px pe ixn ie rn p → P (K, I', J, R, A', B, Ln, n, sl)) : EvM X mX8_abort (d + 60) [rV (some 3), iV x] (K, I, J, R, A, B, Ln, n, sl) (fun r1 G1 => G1.1 11 = 9 ∧ EvM X mX9_abort (d + 60) [rV (some 11), iV x] G1 (fun r2 G2 => r2 = r1 ∧ P G2)) := by
  have hti := h.tis
  have h0 := h
  obtain ⟨hH, hM, hR, hT, -⟩ := h
  obtain ⟨⟨t1, t2⟩, t3, t4, t5, t6, t7, t8, t9, t10, t11⟩ := hT
  have hC := hH.1
  have hsI : ∀ j, j < tn → I 449 (ti j) = A 25 j := fun j hj => (t8 j hj).2.2.2.1
  show Ev X mX8_abort (d + 60) 0 [some (rV (some 3)), some (iV x), none] [] (K, I, J, R, A, B, Ln, n, sl) _
  rcases open_cases A tn x with ⟨j, hj, rfl, hs⟩ | hno
  · obtain ⟨z1, z2⟩ := hti j hj
    have so := cs_openOne (X := X) (d := d + 58) (J := J) (A := A) (n := n) (sl := sl) hC t3 t1 hj z1 z2 ((hsI j hj).trans hs)
    have k11 := hM.1
    have htn := (t8 j hj).2.1
    have e595 : u2 I 449 (ti j) (nI 4) 595 11 = nI tn := by rw [u2_ne1 (by decide)]; exact t4
    have fin : EvM X mX9_abort (d + 60) [rV (some 11), iV (nI j)] (K, u2 I 449 (ti j) (nI 4), J, R, A, B, Ln, n, sl) (fun r2 G2 => r2 = some (iV (nI 1)) ∧ P G2) := (sp_abort_yes (d := d + 59) hM e595 t1 hj hs).mono (fun r G' ⟨h1, h2⟩ => ⟨h1, by
      rw [h2]
      refine hP _ _ (h0.st (fun f i hi => ?_) (fun i hi => u2_row' hi) (fun i hi => ?_) ?_)
      · unfold u2
        rw [if_neg (fun z => hi ⟨z.1, by rw [z.2]; exact z2, by rw [z.2]; omega⟩)]
      · by_cases hij : i = j
        · subst hij; rw [u2_self, u2_self]; rfl
        · have := ti_ne t7 hi hj hij
          rw [u2_ne2 (by omega), u2_ne2 hij]; exact hsI i hi
      · refine cnt_mono (fun i hi z => ?_)
        by_cases hij : i = j
        · subst hij; rw [u2_self] at z; cases of_decide_eq_true z
        · rw [u2_ne2 hij] at z; exact z⟩)
    refine ev_aload_n dX8_abort_0 rfl ?_
    refine ev_iload_n dX8_abort_1 rfl ?_
    refine ev_callV dX8_abort_2 okX8_openOne inX8_openOne seX8_openOne mlX8_88 hC.m (by decide) rfl [iV _] rfl rfl (Nat.le_of_ble_eq_true rfl) (Nat.le_of_ble_eq_true rfl) (so) (fun r_ G_ h_ => ?_)
    obtain ⟨rfl, rfl⟩ := h_
    try dsimp only [Option.toList, List.cons_append, List.nil_append]
    refine ev_astore_nS dX8_abort_5 (by decide) rfl ?_
    refine ev_aload_n dX8_abort_6 rfl ?_
    refine ev_ifnonnull 12 dX8_abort_7 (by decide) (fun x c7 => ?_) (fun c7 => by cases c7)
    refine ev_aload_n dX8_abort_12 rfl ?_
    refine ev_iconstN 4 dX8_abort_13 (by decide) ?_
    refine ev_putI dX8_abort_14 fX8_138 (Or.inl rfl) (Or.inl rfl) z2 ?_
    refine ev_iconstN 1 dX8_abort_17 (by decide) ?_
    refine ev_zreturn dX8_abort_18 rfl (by decide) ?_
    refine ⟨by first | exact hM.1 | exact h_.1 | exact hM1.1 | exact (hq2.2.1 11 (by omega)).1.trans hM1.1 | exact (y2.2.1 11 (by omega)).1.trans hM.1 | exact (q1.2 11 (by omega)).1.trans hM.1 | exact (va_up_ne _ _ (by omega)).trans hM.1 | exact (va_up_ne _ _ (by omega)).trans ((va_up_ne _ _ (by omega)).trans ((va_up_ne _ _ (by omega)).trans hM.1)), ?_⟩
    exact fin
  · have so := cs_openOne_no (X := X) (d := d + 58) (J := J) (A := A) (n := n) (sl := sl) hC t3 t1 hti (t := x) (fun j hj z => by rw [hsI j hj]; exact hno j hj z)
    have fin : EvM X mX9_abort (d + 60) [rV (some 11), iV x] (K, I, J, R, A, B, Ln, n, sl) (fun r2 G2 => r2 = some (iV (nI 0)) ∧ P G2) := (sp_abort_no (d := d + 59) hM t4 t1 hno).mono (fun r G' ⟨h1, h2⟩ => ⟨h1, by rw [h2]; exact hP I A h0⟩)
    refine ev_aload_n dX8_abort_0 rfl ?_
    refine ev_iload_n dX8_abort_1 rfl ?_
    refine ev_callV dX8_abort_2 okX8_openOne inX8_openOne seX8_openOne mlX8_88 hC.m (by decide) rfl [iV _] rfl rfl (Nat.le_of_ble_eq_true rfl) (Nat.le_of_ble_eq_true rfl) (so) (fun r_ G_ h_ => ?_)
    obtain ⟨rfl, rfl⟩ := h_
    try dsimp only [Option.toList, List.cons_append, List.nil_append]
    refine ev_astore_nS dX8_abort_5 (by decide) rfl ?_
    refine ev_aload_n dX8_abort_6 rfl ?_
    refine ev_ifnonnull 12 dX8_abort_7 (by decide) (fun x c7 => by cases c7) (fun c7 => ?_)
    refine ev_iconstN 0 dX8_abort_10 (by decide) ?_
    refine ev_zreturn dX8_abort_11 rfl (by decide) ?_
    refine ⟨by first | exact hM.1 | exact h_.1 | exact hM1.1 | exact (hq2.2.1 11 (by omega)).1.trans hM1.1 | exact (y2.2.1 11 (by omega)).1.trans hM.1 | exact (q1.2 11 (by omega)).1.trans hM.1 | exact (va_up_ne _ _ (by omega)).trans hM.1 | exact (va_up_ne _ _ (by omega)).trans ((va_up_ne _ _ (by omega)).trans ((va_up_ne _ _ (by omega)).trans hM.1)), ?_⟩
    exact fin
theorem Sim.lose (h : Sim K I J R A B Ln n a m cs fs s many tn la ti pn px pe ixn ie rn p) : Sim K (loI I ti tn) J R (crA A tn) B Ln n a m cs fs s many tn la ti pn px pe ixn ie rn p := by
  have hti := h.tis
  have h0 := h
  obtain ⟨hH, hM, hR, hT, -⟩ := h
  obtain ⟨⟨t1, t2⟩, t3, t4, t5, t6, t7, t8, t9, t10, t11⟩ := hT
  have hcr : ∀ j, j < tn → crA A tn 25 j = if A 25 j = 1 then 5 else A 25 j := fun j hj => by
    unfold crA
    by_cases z : A 25 j = 1
    · rw [if_pos ⟨rfl, hj, z⟩, if_pos z]
    · rw [if_neg (fun y => z y.2.2), if_neg z]
  refine h0.st (fun f i hi => ?_) (fun i hi => ?_) (fun j hj => ?_) ?_
  · unfold loI
    rw [if_neg]
    rintro ⟨z1, z2, z3⟩
    obtain ⟨j, hj, hz⟩ := anyN_iff.mp z3
    have hz := of_decide_eq_true hz
    have := (t8 j hj).2.1
    exact hi ⟨z1, by rw [← hz]; exact (hti j hj).2, by omega⟩
  · funext q
    unfold crA
    rw [if_neg (fun z => hi z.1)]
  · rw [hcr j hj]
    have e := (t8 j hj).2.2.2.1
    unfold loI
    rw [e]
    by_cases z : A 25 j = 1
    · rw [if_pos ⟨rfl, z, anyN_iff.mpr ⟨j, hj, decide_eq_true rfl⟩⟩, if_pos z]
    · rw [if_neg (fun y => z y.2.1), if_neg z]
  · refine cnt_mono (q := fun j => decide (A 25 j = 1)) (fun j hj z => ?_)
    rw [hcr j hj] at z
    by_cases y : A 25 j = 1
    · exact decide_eq_true y
    · rw [if_neg y] at z; exact z
theorem op_crash (h : Sim K I J R A B Ln n a m cs fs s many tn la ti pn px pe ixn ie rn p) {P : GH → Prop} (hP : ∀ I' A', Sim K I' J R A' B Ln n a m cs fs s many tn la ti pn px pe ixn ie rn p → P (K, I', J, R, A', B, Ln, n, sl)) : EvM X mX8_crash (d + 60) [rV (some 3)] (K, I, J, R, A, B, Ln, n, sl) (fun r1 G1 => G1.1 11 = 9 ∧ EvM X mX9_crash (d + 60) [rV (some 11)] G1 (fun r2 G2 => r2 = r1 ∧ P G2)) := by
  have hti := h.tis
  have hl := h.lose
  obtain ⟨hH, hM, hR, hT, -⟩ := h
  obtain ⟨⟨t1, t2⟩, t3, t4, t5, t6, t7, t8, t9, t10, t11⟩ := hT
  have hC := hH.1
  have hinj : ∀ a b, a < tn → b < tn → ti a = ti b → a = b := fun a b ha hb z => by
    by_cases y : a = b
    · exact y
    · have := ti_ne t7 ha hb y; omega
  have sl' := cs_lose (X := X) (d := d + 58) (I := I) (J := J) (A := A) (n := n) (sl := sl) hC t3 t1 hti hinj
  have ec : cnt (fun j => decide (I 449 (ti j) = 1)) tn = cnt (fun j => decide (A 25 j = 1)) tn := Nat.le_antisymm (cnt_mono (fun j hj z => by rw [← (t8 j hj).2.2.2.1]; exact z)) (cnt_mono (fun j hj z => by rw [(t8 j hj).2.2.2.1]; exact z))
  rw [ec] at sl'
  have e595 : loI I ti tn 595 11 = nI tn := by rw [loI_ne (by decide)]; exact t4
  have fin : EvM X mX9_crash (d + 60) [rV (some 11)] (K, loI I ti tn, J, R, A, B, Ln, n, sl) (fun r2 G2 => r2 = some (iV (nI (cnt (fun j => decide (A 25 j = 1)) tn))) ∧ P G2) := (sp_crash (d := d + 60) hM e595 t1).mono (fun r G' ⟨h1, h2⟩ => ⟨h1, by rw [h2]; exact hP _ _ hl⟩)
  show Ev X mX8_crash (d + 60) 0 [some (rV (some 3))] [] (K, I, J, R, A, B, Ln, n, sl) _
  refine ev_aload_n dX8_crash_0 rfl ?_
  refine ev_callV dX8_crash_1 okX8_loseOpenOnes inX8_loseOpenOnes seX8_loseOpenOnes mlX8_162 hC.m (by decide) rfl [] rfl rfl (Nat.le_of_ble_eq_true rfl) (Nat.le_of_ble_eq_true rfl) (sl') (fun r_ G_ h_ => ?_)
  obtain ⟨rfl, rfl⟩ := h_
  try dsimp only [Option.toList, List.cons_append, List.nil_append]
  refine ev_ireturn dX8_crash_4 rfl ?_
  refine ⟨by first | exact hM.1 | exact h_.1 | exact hM1.1 | exact (hq2.2.1 11 (by omega)).1.trans hM1.1 | exact (y2.2.1 11 (by omega)).1.trans hM.1 | exact (q1.2 11 (by omega)).1.trans hM.1 | exact (va_up_ne _ _ (by omega)).trans hM.1 | exact (va_up_ne _ _ (by omega)).trans ((va_up_ne _ _ (by omega)).trans ((va_up_ne _ _ (by omega)).trans hM.1)), ?_⟩
  exact fin
end C98D
