section C98H
variable {X : CX} {d : Nat} {K : Nat → Nat} {I : Nat → Nat → Int32} {J : Nat → Nat → Int64} {R : Nat → Nat → Option Nat} {A : Nat → Nat → Int32} {B : Nat → Nat → Option Nat} {Ln : Nat → Nat} {n sl : Nat} {a m : Nat} {cs fs : List Nat} {s : SA} {many tn la : Nat} {ti : Nat → Nat} {pn : Nat} {px : Nat → Nat} {pe : Nat → EX} {ixn : Nat} {ie : Nat → EX} {rn : Nat} {p : PP}
set_option maxRecDepth 100000 in
set_option maxHeartbeats 4000000 in
/-- doings of the store alone -/
theorem Sim.store {K' : Nat → Nat} {I' I2 : Nat → Nat → Int32} {R' B' : Nat → Nat → Option Nat} {A2 : Nat → Nat → Int32} {Ln' : Nat → Nat} {n' a' m' many' : Nat} {cs' fs' : List Nat} {s' : SA} (h : Sim K I J R A B Ln n a m cs fs s many tn la ti pn px pe ixn ie rn p) (hF : StF K I R B Ln n K' I' R' B' Ln' n') (hH' : HpC K' I' J R' A B' Ln' n' a' m' cs' fs' s') (hI : ∀ f i, ¬ (i = 11 ∧ (f = 582 ∨ f = 590 ∨ f = 593 ∨ f = 612)) → I2 f i = I' f i) (hA : ∀ i, i ∉ [16, 17, 18, 19, 20, 21, 22, 23, 24, 32, 33] → A2 i = A i) (hR : RfR I2 A2 many' s') (hE : SmE s' la) : Sim K' I2 J R' A2 B' Ln' n' a' m' cs' fs' s' many' tn la ti pn px pe ixn ie rn p := by
  obtain ⟨hH, hM, hRf, hT0, hP, hX, hRe, hL, -⟩ := h
  have hn := hH.2.2.2.2
  have hC := hH.1
  have k11 := hM.1
  have hnn := hF.1
  have k11' : K' 11 = 9 := (hF.2.1 11 (by omega)).1.trans k11
  have hA34 : ∀ i, 34 ≤ i → A2 i = A i := fun i hi => hA i (by simp; omega)
  have hHI : HpC K' I2 J R' A2 B' Ln' n' a' m' cs' fs' s' := by
    refine hH'.ns k11' ⟨Nat.le_refl _, fun i hi => ⟨rfl, rfl, fun f => Or.inl rfl, fun _ h11 _ f => hI f i (fun z => h11 z.1), fun _ _ => rfl, fun _ => rfl⟩⟩ (fun i hi => ?_) hH'.2.2.2.1
    obtain ⟨z1, z2, z3, z4, z5⟩ := hH'.2.2.1 i hi
    exact ⟨fun f => by rw [hI f i (by omega)]; exact z1 f, z2, z3, fun j => by rw [hA34 i (by omega)]; exact z4 j, z5⟩
  have hM' : MFix K' R' Ln' := hM.of (fun i hi => (hF.2.1 i (by omega)).1) (fun i hi => (hF.2.1 i (by omega)).2) (fun f => hF.2.2.2.2.1 f 11 (by omega) (by rw [k11]; omega))
  have hex : ∀ {f i : Nat} {e : EX}, ExpR K I R f i e → ExpR K' I2 R' f i e := fun he => he.congr (fun i hi => by
    have hin : i < n := by
      by_cases z : i < n
      · exact z
      · have := hH.2.2.2.1 i (by omega); omega
    refine ⟨(hF.2.1 i hin).1.trans hi, fun f => ?_, fun f => hF.2.2.2.2.1 f i hin (by rw [hi]; intro z; rcases z with z | z | z | z <;> first | omega | (rw [z.1, hC.K_al] at hi; omega))⟩
    rw [hI f i (fun z => by rw [z.1, k11] at hi; omega)]
    refine hF.2.2.2.1 f i hin (fun z => ?_)
    rcases z with z | z | z | z
    · omega
    · omega
    · rw [z.1, hC.K_st] at hi; omega
    · rw [z.1, hC.K_al] at hi; omega)
  have i3 : ∀ f, I2 f 3 = I f 3 := fun f => (hI f 3 (by omega)).trans (hF.2.2.2.1 f 3 (by omega) (by rw [hC.m]; omega))
  have i11 : ∀ f, f ≠ 582 → f ≠ 590 → f ≠ 593 → f ≠ 612 → I2 f 11 = I f 11 := fun f a1 a2 a3 a4 => (hI f 11 (by omega)).trans (hF.2.2.2.1 f 11 (by omega) (by rw [k11]; omega))
  have bO : ∀ i, i < n → i ≠ 8 → K i ≠ 106 → B' i = B i := fun i hi h8 hk => hF.2.2.2.2.2 i hi (fun z => z.elim h8 hk)
  refine ⟨hHI, hM', hR, ?_, ?_, ?_, ?_, ?_, hE⟩
  · obtain ⟨t1, t3, t4, t5, t6, t7, t8, t9, t10, t11⟩ := hT0
    have e27 := hA 27 (by decide)
    have e28 := hA 28 (by decide)
    refine ⟨t1, (i3 _).trans t3, (i11 _ (by decide) (by decide) (by decide) (by decide)).trans t4, (i3 _).trans t5, (i11 _ (by decide) (by decide) (by decide) (by decide)).trans t6, t7, fun j hj => ?_, by rw [hA 25 (by decide)]; exact t9, fun i hi => by rw [e27]; exact t10 i hi, fun q hq => by rw [e27] at hq; rw [e28]; exact t11 q hq⟩
    obtain ⟨c1, c2, ⟨o1, o2, o3, o4, o5, o6, o7, o8⟩, c4, c5, c6, c7, c8⟩ := t8 j hj
    have it : ∀ f, I2 f (ti j) = I f (ti j) := fun f => (hI f _ (by omega)).trans (hF.2.2.2.1 f _ (by omega) (by rw [o1]; intro z; rcases z with z | z | z | z <;> omega))
    have rt : ∀ f, R' f (ti j) = R f (ti j) := fun f => hF.2.2.2.2.1 f _ (by omega) (by rw [o1]; intro z; rcases z with z | z | z | z <;> omega)
    have bt : B' (ti j + 2) = B (ti j + 2) := bO _ (by omega) (by omega) (by rw [o6]; decide)
    refine ⟨by rw [bO 6 (by omega) (by decide) (by rw [hC.K_tx]; decide)]; exact c1, ⟨c2.1, by omega⟩, ⟨(hF.2.1 _ (by omega)).1.trans o1, (rt _).trans o2, (hF.2.1 _ (by omega)).1.trans o3, (hF.2.1 _ (by omega)).2.trans o4, (rt _).trans o5, (hF.2.1 _ (by omega)).1.trans o6, (hF.2.1 _ (by omega)).2.trans o7, fun k hk r hr => ?_⟩, by rw [it, hA 25 (by decide)]; exact c4, by rw [it, hA 26 (by decide)]; exact c5, by rw [hA 26 (by decide)]; exact c6, by rw [it, e27]; exact c7, fun k hk => ?_⟩
    · rw [bt] at hr
      have h3 := o8 k hk r hr
      have hrn : r < n := by
        by_cases z : r < n
        · exact z
        · have := hH.2.2.2.1 r (by omega); omega
      exact (hF.2.1 r hrn).1.trans h3
    · have hw := c8 k hk
      unfold WrJ at hw ⊢
      rw [e27, e28, hA34 (ti j + 1) (by omega), bt]
      rcases hw with w | ⟨w1, w2, r, w3, w4, w5⟩ | w
      · exact Or.inl w
      · have h3 := o8 k hk r w3
        refine Or.inr (Or.inl ⟨w1, w2, r, w3, by omega, fun f hf => ?_⟩)
        rw [hI _ r (fun z => by rw [z.1, k11] at h3; omega), hF.2.2.2.1 (192 + f) r w4 (fun z => ?_)]
        · exact w5 f hf
        · rcases z with z | z | z | z
          · omega
          · omega
          · rw [z.1, hC.K_st] at h3; omega
          · rw [z.1, hC.K_al] at h3; omega
      · exact Or.inr (Or.inr w)
  · obtain ⟨p1, p2, p3, p4⟩ := hP
    refine ⟨(i3 _).trans p1, (i11 _ (by decide) (by decide) (by decide) (by decide)).trans p2, p3, fun j hj => ?_⟩
    obtain ⟨z1, z2, z3, z4⟩ := p4 j hj
    refine ⟨by rw [bO 4 (by omega) (by decide) (by rw [hC.K_pile]; decide)]; exact z1, hex z2, ?_, by rw [hA 15 (by decide)]; exact z4⟩
    unfold ExA
    rw [hA 12 (by decide), hA 13 (by decide), hA 14 (by decide)]
    exact z3
  · obtain ⟨⟨x1, x2, x3⟩, x4, x5⟩ := hX
    refine ⟨⟨(i3 _).trans x1, x2, fun i hi => ?_⟩, (i11 _ (by decide) (by decide) (by decide) (by decide)).trans x4, fun i hi => ?_⟩
    · obtain ⟨x, y1, y2, y3⟩ := x3 i hi
      exact ⟨x, by rw [bO 5 (by omega) (by decide) (by rw [hC.K_ix]; decide)]; exact y1, hex y2, y3⟩
    · unfold ExA
      rw [hA 12 (by decide), hA 13 (by decide), hA 14 (by decide)]
      exact x5 i hi
  · obtain ⟨z1, z2, z3, z4⟩ := hRe
    exact ⟨(i3 _).trans z1, (i11 _ (by decide) (by decide) (by decide) (by decide)).trans z2, z3, fun j hj => by rw [hA 10 (by decide), hA 31 (by decide)]; exact z4 j hj⟩
  · obtain ⟨⟨l1, lq⟩, l2, l3, l4, l5, l6⟩ := hL
    have r3 : R' 523 3 = R 523 3 := hF.2.2.2.2.1 523 3 (by omega) (by rw [hC.m]; omega)
    refine ⟨⟨(i3 _).trans l1, ?_⟩, (i11 _ (by decide) (by decide) (by decide) (by decide)).trans l2, l3, l4, l5, by rw [i3, i11 _ (by decide) (by decide) (by decide) (by decide)]; exact l6⟩
    rcases lq with ⟨z1, z2⟩ | ⟨z1, q, z2, z3, z4, z5⟩
    · exact Or.inl ⟨z1, r3.trans z2⟩
    · have hq : q < n := by
        by_cases z : q < n
        · exact z
        · have := hH.2.2.2.1 q (by omega); omega
      exact Or.inr ⟨z1, q, r3.trans z2, (hF.2.1 q hq).1.trans z3, z4, z5⟩
theorem SmE.flush (h : SmE s la) (hb : s.2.2 + 1 < 2147483648) : SmE (fluS s) la ∧ phT (fluS s) ≤ phT s ∧ (fluS s).2.2 ≤ s.2.2 + 1 ∧ phS (fluS s) ≤ phT s ∧ lvS (fluS s) (nI 0) ≤ la ∧ anyM (fluS s) = false := by
  obtain ⟨h1, h2, h3⟩ := h
  unfold fluS
  by_cases hz : s.1.any (fun x => decide (eF x = 0)) = true
  · rw [if_pos hz]
    have ha : anyM s = true := hz
    rw [ha, if_pos rfl] at h2
    have hl : ∀ x : Int32, lvS (s.1.map (fun x => if eF x = 0 then wF x (nI (s.2.2 + 1)) else x), s.2.1 ++ [(nI (s.2.2 + 1), nI 0)], s.2.2 + 1) x = lvS s x + (if nI 0 = x then 1 else 0) := fun x => by
      show (s.2.1 ++ [(nI (s.2.2 + 1), nI 0)]).countP (fun p => decide (p.2 = x)) = s.2.1.countP (fun p => decide (p.2 = x)) + _
      rw [List.countP_append, List.countP_cons, List.countP_nil]
      simp
    have e0 := hl (nI 0)
    have e1 := hl (nI 1)
    rw [if_pos rfl] at e0
    rw [if_neg (by decide)] at e1
    have hno : anyM (s.1.map (fun x => if eF x = 0 then wF x (nI (s.2.2 + 1)) else x), s.2.1 ++ [(nI (s.2.2 + 1), nI 0)], s.2.2 + 1) = false := by
      cases hq : anyM (s.1.map (fun x => if eF x = 0 then wF x (nI (s.2.2 + 1)) else x), s.2.1 ++ [(nI (s.2.2 + 1), nI 0)], s.2.2 + 1) with
      | false => rfl
      | true =>
        exfalso
        obtain ⟨x, hx, hxz⟩ := List.any_eq_true.mp hq
        obtain ⟨y, hy, rfl⟩ := List.mem_map.mp hx
        have hxz := of_decide_eq_true hxz
        by_cases hy0 : eF y = 0
        · rw [if_pos hy0] at hxz
          have : nI (s.2.2 + 1) = nI 0 := hxz
          have := (neq (by omega) (by omega)).mp this
          omega
        · rw [if_neg hy0] at hxz; exact hy0 hxz
    refine ⟨⟨fun x hx => ?_, ?_, fun p hp => ?_⟩, ?_, Nat.le_refl _, ?_, by omega, hno⟩
    · obtain ⟨y, hy, rfl⟩ := List.mem_map.mp hx
      have := h1 y hy
      show eT (if eF y = 0 then wF y _ else y) ≤ _ ∧ _
      split
      · exact this
      · exact this
    · rw [hno, if_neg (by decide)]; omega
    · rcases List.mem_append.mp hp with hp | hp
      · exact h3 p hp
      · rw [List.mem_singleton.mp hp]; exact Or.inl rfl
    · unfold phT phS
      rw [hno, ha, if_neg (by decide), if_pos rfl]; omega
    · unfold phT phS
      rw [ha, if_pos rfl]; omega
  · rw [if_neg hz]
    have ha : anyM s = false := by
      cases hq : anyM s with
      | false => rfl
      | true => exact absurd hq hz
    rw [ha] at h2
    rw [if_neg (by decide)] at h2
    exact ⟨⟨h1, by rw [ha, if_neg (by decide)]; exact h2, h3⟩, Nat.le_refl _, by omega, by unfold phT; omega, by omega, ha⟩
set_option maxRecDepth 100000 in
set_option maxHeartbeats 4000000 in
theorem op_flush (h : Sim K I J R A B Ln n a m cs fs s many tn la ti pn px pe ixn ie rn p) (hmd : s.2.2 + 520 < 2147483648) {P : GH → Prop} (hP : ∀ K' I' R' A' B' Ln' n' sl' a' m' cs' fs' many', Sim K' I' J R' A' B' Ln' n' a' m' cs' fs' (fluS s) many' tn la ti pn px pe ixn ie rn p → n' + m ≤ n + 1 + m' → sl' + 800 * m ≤ sl + 6 + 800 * m' → P (K', I', J, R', A', B', Ln', n', sl')) : EvM X mX8_flush (d + 60) [rV (some 3)] (K, I, J, R, A, B, Ln, n, sl) (fun r1 G1 => G1.1 11 = 9 ∧ EvM X mX9_flush (d + 60) [rV (some 11)] G1 (fun r2 G2 => r2 = r1 ∧ P G2)) := by
  obtain ⟨hm5, hf5, hv⟩ := h.vld (by omega)
  have h0 := h
  obtain ⟨hH, hM, hR, hT, -, -, -, -, hE⟩ := h
  have hC := hH.1
  have hn := hH.2.2.2.2
  have sf := cs_flushS (X := X) (d := d + 51) (sl := sl) hH hmd
  show Ev X mX8_flush (d + 60) 0 [some (rV (some 3))] [] (K, I, J, R, A, B, Ln, n, sl) _
  have fin : ∀ (K' : Nat → Nat) (I' : Nat → Nat → Int32) (R' B' : Nat → Nat → Option Nat) (Ln' : Nat → Nat) (n' sl' a' m' : Nat) (cs' fs' : List Nat), HpC K' I' J R' A B' Ln' n' a' m' cs' fs' (fluS s) → StF K I R B Ln n K' I' R' B' Ln' n' → n' + m ≤ n + 1 + m' → sl' + 800 * m ≤ sl + 6 + 800 * m' → EvM X mX9_flush (d + 60) [rV (some 11)] (K', I', J, R', A, B', Ln', n', sl') (fun r2 G2 => r2 = some (iV (nI (s.1.countP (fun x => decide (eF x = 0))))) ∧ P G2) := by
    intro K' I' R' B' Ln' n' sl' a' m' cs' fs' q1 q2 q3 q4
    have k11 := hM.1
    have i11 : ∀ f, I' f 11 = I f 11 := fun f => q2.2.2.2.1 f 11 (by omega) (by rw [k11]; omega)
    have hM' : MFix K' R' Ln' := hM.of (fun i hi => (q2.2.1 i (by omega)).1) (fun i hi => (q2.2.1 i (by omega)).2) (fun f => q2.2.2.2.2.1 f 11 (by omega) (by rw [k11]; omega))
    have hR' : RfR I' A many s := ⟨(i11 _).trans hR.1, hR.2.1, hR.2.2.1, (i11 _).trans hR.2.2.2.1, (i11 _).trans hR.2.2.2.2⟩
    by_cases hz : s.1.countP (fun x => decide (eF x = 0)) = 0
    · have hfl : fluS s = s := by
        unfold fluS
        rw [if_neg]
        intro z
        obtain ⟨x, hx, hy⟩ := List.any_eq_true.mp z
        exact List.countP_eq_zero.mp hz x hx hy
      refine (sp_flush0 (d := d + 59) hM' hR'.1 (by omega) (by rw [hR.cnt0]; exact hz)).mono (fun r G' ⟨e1, e2⟩ => ⟨by rw [e1, hz], ?_⟩)
      rw [e2]
      refine hP K' I' R' A B' Ln' n' sl' a' m' cs' fs' many ?_ q3 q4
      exact h0.store q2 q1 (fun _ _ _ => rfl) (fun _ _ => rfl) (by rw [hfl]; exact hR') (by rw [hfl]; exact hE)
    · refine (sp_flush1 (d := d + 59) hM' hR'.1 (by omega) hR'.2.2.2.2 hR'.2.2.2.1 (by omega) (by rw [hR.cnt0]; omega)).mono (fun r G' ⟨e1, e2⟩ => ⟨by rw [e1, hR.cnt0], ?_⟩)
      rw [e2]
      refine hP K' _ R' _ B' Ln' n' sl' a' m' cs' fs' many ?_ q3 q4
      refine h0.store q2 q1 (fun f i hi => ?_) (fun i hi => ?_) (hR'.flush (by omega)) (hE.flush (by omega)).1
      · unfold u2
        rw [if_neg (fun z => hi ⟨z.2, by omega⟩), if_neg (fun z => hi ⟨z.2, by omega⟩)]
      · funext q
        unfold flA
        rw [if_neg (fun z => hi (by rw [z.1]; decide)), u2_row' (fun z => hi (by rw [z]; decide)), u2_row' (fun z => hi (by rw [z]; decide))]
  refine ev_aload_n dX8_flush_0 rfl ?_
  refine ev_getR dX8_flush_1 fX8_27 hC.m hC.R_st ?_
  refine ev_callV dX8_flush_4 okX6_writeMemoryOut inX6_writeMemoryOut seX6_writeMemoryOut mlX8_165 hC.K_st (by decide) rfl [] rfl rfl (Nat.le_of_ble_eq_true rfl) (Nat.le_of_ble_eq_true rfl) (sf) (fun r_ G_ h_ => ?_)
  obtain ⟨K', I', R', B', Ln', n', sl', a', m', cs', fs', rfl, rfl, y1, y2, y3, y4, y5⟩ := h_
  try dsimp only [Option.toList, List.cons_append, List.nil_append]
  refine ev_ireturn dX8_flush_7 rfl ?_
  refine ⟨by first | exact hM.1 | exact h_.1 | exact hM1.1 | exact (hq2.2.1 11 (by omega)).1.trans hM1.1 | exact (y2.2.1 11 (by omega)).1.trans hM.1 | exact (q1.2 11 (by omega)).1.trans hM.1 | exact (va_up_ne _ _ (by omega)).trans hM.1 | exact (va_up_ne _ _ (by omega)).trans ((va_up_ne _ _ (by omega)).trans ((va_up_ne _ _ (by omega)).trans hM.1)), ?_⟩
  exact fin K' I' R' B' Ln' n' sl' a' m' cs' fs' y1 y2 y3 y4
end C98H
