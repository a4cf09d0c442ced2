section C98T
variable {X : CX} {d : Nat} {K : Nat → Nat} {I : Nat → Nat → Int32} {J : Nat → Nat → Int64} {R : Nat → Nat → Option Nat} {A : Nat → Nat → Int32} {B : Nat → Nat → Option Nat} {Ln : Nat → Nat} {n sl : Nat} {a m : Nat} {cs fs : List Nat} {s : SA} {many tn la : Nat} {ti : Nat → Nat} {pn : Nat} {px : Nat → Nat} {pe : Nat → EX} {ixn : Nat} {ie : Nat → EX} {rn : Nat} {p : PP}
set_option maxRecDepth 100000 in
set_option maxHeartbeats 4000000 in
theorem Sim.took_H {K1 : Nat → Nat} {I1 : Nat → Nat → Int32} {J1 : Nat → Nat → Int64} {R1 B1 : Nat → Nat → Option Nat} {n1 sl0 sl1 : Nat} {cs1 : List Nat} (h : Sim K I J R A B Ln n a m cs fs s many tn la ti pn px pe ixn ie rn p) (hmd : s.2.2 < 2147483648) {j : Nat} (hj : j < tn) (hbt : BtI K I J R B Ln n sl0 a m cs fs s.2.2 la A ((batA A j many la ie ixn 32).map nrmE) (NbP 32 0) K1 I1 J1 R1 B1 n1 sl1 cs1) : HpC K1 (u2 (u2 I1 519 3 (nI (la + 1))) 449 (ti j) (nI 2)) J1 R1 A B1 Ln n1 a m cs1 fs (cs1.map (entC I1 R1), s.2.1, s.2.2) ∧ SmE (cs1.map (entC I1 R1), s.2.1, s.2.2) (la + 1) := by
  have hnm2 := fun {q : Nat} (hq : q < 32) => rf_nm h hmd hj hq
  obtain ⟨hH, hM, hRf, hT0, hP, hX, hRe, hL, hE⟩ := h
  obtain ⟨b1, b2, b3, b4, b5, b6, b7, b8, b9⟩ := hbt
  have hn := hH.2.2.2.2
  have hC := hH.1
  have k11 := hM.1
  have hnn := b2.1
  have hF := b2.2
  obtain ⟨kE, kF⟩ := CsR.kinds hH.2.1.1
  obtain ⟨⟨t1, t2⟩, t3, t4, t5, t6, t7, t8, t9, t10, t11⟩ := hT0
  have htj := (t8 j hj).2.1
  have ktj : K (ti j) = 7 := (t8 j hj).2.2.1.1
  have hI1 : ∀ f i, ¬ (i = 3 ∧ f = 519) → ¬ (i = ti j ∧ f = 449) → (u2 (u2 I1 519 3 (nI (la + 1))) 449 (ti j) (nI 2)) f i = I1 f i := fun f i z3 z4 => by
    unfold u2
    rw [if_neg (fun z => z4 ⟨z.2, z.1⟩), if_neg (fun z => z3 ⟨z.2, z.1⟩)]
  have k11' : K1 11 = 9 := (hF 11 (by omega)).1.trans k11
  have ktj' : K1 (ti j) = 7 := (hF _ (by omega)).1.trans ktj
  have hHI1 : HpC K1 I1 J1 R1 A B1 Ln n1 a m cs1 fs (cs1.map (entC I1 R1), s.2.1, s.2.2) := by
    refine ⟨b2.cfix hn hC, ⟨b1, rfl, ?_⟩, b3, b4, by omega⟩
    show s.2.1 = _
    rw [hH.2.1.2.2]
    refine List.map_congr_left (fun g hg => ?_)
    obtain ⟨z1, z2, z3⟩ := kF g hg
    rw [(hF g z2).2.2.2.2.1 320 (by omega), (hF g z2).2.2.2.2.1 321 (by omega)]
  refine ⟨?_, fun x hx => ?_, ?_, hE.2.2⟩
  · refine hHI1.ns k11' ⟨Nat.le_refl _, fun i hi => ⟨rfl, rfl, fun f => Or.inl rfl, fun h3 h11 h7 f => hI1 f i (fun z => h3 z.1) (fun z => h7 (by rw [z.1]; exact ktj')), fun _ _ => rfl, fun _ => rfl⟩⟩ (fun i hi => ?_) b4
    obtain ⟨z1, z2, z3, z4, z5⟩ := b3 i hi
    exact ⟨fun f => by rw [hI1 f i (by omega) (by omega)]; exact z1 f, z2, z3, z4, z5⟩
  · rcases List.mem_append.mp (b5.mem_iff.mp hx) with hx | hx
    · rw [← hH.2.1.2.1] at hx
      obtain ⟨z1, z2, z3⟩ := hE.1 x hx
      exact ⟨Int32.le_trans z1 ((nle (by omega) (by omega)).mpr (by omega)), z2, z3⟩
    · obtain ⟨y, hy, rfl⟩ := List.mem_map.mp hx
      obtain ⟨k, hk, y1, y2, y3, y4⟩ := bat_mem hX.1.2.1 hy
      obtain ⟨nm, n1', n2'⟩ := hnm2 hk
      rw [(nrm_S _).1, (nrm_S _).2.1, (nrm_S _).2.2.2.1]
      refine ⟨by rw [y2]; exact Int32.le_refl _, y1, ?_⟩
      rcases nrm_l y with z | z
      · exact ⟨0, by decide, z⟩
      · exact ⟨nm, n1', z.trans (y4.trans n2')⟩
  · have el : lvS (cs1.map (entC I1 R1), s.2.1, s.2.2) (nI 0) = lvS s (nI 0) := rfl
    have e2 := hE.2.1
    rw [el]
    have : (if anyM (cs1.map (entC I1 R1), s.2.1, s.2.2) = true then 1 else 0) ≤ 1 := by split <;> omega
    omega
theorem Sim.st1 (h : Sim K I J R A B Ln n a m cs fs s many tn la ti pn px pe ixn ie rn p) {j : Nat} (hj : j < tn) {v : Int32} (hv : v ≠ 1) : Sim K (u2 I 449 (ti j) v) J R (u2 A 25 j v) B Ln n a m cs fs s many tn la ti pn px pe ixn ie rn p := by
  have hti := h.tis
  have h0 := h
  obtain ⟨hH, hM, hR, hT, -⟩ := h
  obtain ⟨⟨t1, t2⟩, t3, t4, t5, t6, t7, t8, t9, t10, t11⟩ := hT
  obtain ⟨z1, z2⟩ := hti j hj
  have htn := (t8 j hj).2.1
  refine h0.st (fun f i hi => ?_) (fun i hi => u2_row' hi) (fun i hi => ?_) ?_
  · unfold u2
    rw [if_neg (fun z => hi ⟨z.1, by rw [z.2]; exact z2, by rw [z.2]; omega⟩)]
  · by_cases hij : i = j
    · subst hij; rw [u2_self, u2_self]
    · have := ti_ne t7 hi hj hij
      rw [u2_ne2 (by omega), u2_ne2 hij]; exact (t8 i hi).2.2.2.1
  · refine cnt_mono (fun i hi z => ?_)
    by_cases hij : i = j
    · subst hij; rw [u2_self] at z; exact absurd (of_decide_eq_true z) hv
    · rw [u2_ne2 hij] at z; exact z
set_option maxRecDepth 100000 in
set_option maxHeartbeats 4000000 in
theorem op_commit (h : Sim K I J R A B Ln n a m cs fs s many tn la ti pn px pe ixn ie rn p) (hmd : s.2.2 + 700000 < 2147483648) (x : Int32) {P : GH → Prop} (hP0 : ∀ I' A', Sim K I' J R A' B Ln n a m cs fs s many tn la ti pn px pe ixn ie rn p → P (K, I', J, R, A', B, Ln, n, sl)) (hP : ∀ K' I' J' R' A' B' Ln' n' sl' a' m' cs' fs' s' many', Sim K' I' J' R' A' B' Ln' n' a' m' cs' fs' s' many' tn (la + 1) ti pn px pe ixn ie rn p → n' + phT s' + m ≤ n + 2711 + phT s + m' → sl' + 7 * phT s' + 800 * m ≤ sl + 18976 + 7 * phT s + 800 * m' → m ≤ m' → s'.2.2 ≤ s.2.2 + 24000 → P (K', I', J', R', A', B', Ln', n', sl')) : EvM X mX8_commit (d + 60) [rV (some 3), iV x] (K, I, J, R, A, B, Ln, n, sl) (fun r1 G1 => G1.1 11 = 9 ∧ EvM X mX9_commit (d + 60) [rV (some 11), iV x] G1 (fun r2 G2 => r2 = r1 ∧ P G2)) := by
  obtain ⟨hm5, -, hv⟩ := h.vld (by omega)
  obtain ⟨ky, hky⟩ := ky_ex h.2.2.1 hv
  have hlt := fun {j : Nat} (hj : j < tn) => late_S h (by omega) hj hky
  have hbS := fun {j : Nat} (hj : j < tn) => bat_S h (by omega) hj
  have hn1 := fun (k : Nat) (hk : k < 32) => ra_nm h (by omega) hk (u := nI la)
  have hn2 := fun {j : Nat} (hj : j < tn) (k : Nat) (hk : k < 32) => rf_nm h (by omega) hj hk
  have htk := fun {K1 : Nat → Nat} {I1 : Nat → Nat → Int32} {J1 : Nat → Nat → Int64} {R1 B1 : Nat → Nat → Option Nat} {n1 sl0 sl1 : Nat} {cs1 : List Nat} {j : Nat} (hj : j < tn) => Sim.took_H (K1 := K1) (I1 := I1) (J1 := J1) (R1 := R1) (B1 := B1) (n1 := n1) (sl0 := sl0) (sl1 := sl1) (cs1 := cs1) h (by omega) hj
  have hti := h.tis
  have h0 := h
  obtain ⟨hH, hM, hR, hT, -⟩ := h
  have hT0 := hT
  obtain ⟨⟨t1, t2⟩, t3, t4, t5, t6, t7, t8, t9, t10, t11⟩ := hT
  have hC := hH.1
  have hn := hH.2.2.2.2
  have hsI : ∀ j, j < tn → I 449 (ti j) = A 25 j := fun j hj => (t8 j hj).2.2.2.1
  have hrk : ∀ i, i < tn → ∀ q, q < 32 → ∀ r, B (ti i + 2) q = some r → r < n := fun i hi q hq r hr => by
    have := (t8 i hi).2.2.1.2.2.2.2.2.2.2 q hq r hr
    by_cases z : r < n
    · exact z
    · have := hH.2.2.2.1 r (by omega); omega
  have h0' := h0
  obtain ⟨-, -, -, -, -, ⟨hX, x4, x5⟩, -, -, hE⟩ := h0'
  have hxE : ∀ i, i < ixn → ExA A (8 + i) (ie i) ∧ TreeE (ie i) := fun i hi => ⟨x5 i hi, by obtain ⟨xx, _, w2, _⟩ := hX.2.2 i hi; exact w2.tree⟩
  show Ev X mX8_commit (d + 60) 0 [some (rV (some 3)), some (iV x), none] [] (K, I, J, R, A, B, Ln, n, sl) _
  rcases open_cases A tn x with ⟨j, hj, rfl, hs⟩ | hno
  · skip
    obtain ⟨z1, z2⟩ := hti j hj
    have so := cs_openOne (X := X) (d := d + 58) (J := J) (A := A) (n := n) (sl := sl) hC t3 t1 hj z1 z2 ((hsI j hj).trans hs)
    have hTj := t8 j hj
    obtain ⟨-, htn, hTx, -, c5, ⟨bb, c6, c6'⟩, cW, -⟩ := hTj
    have hbe : A 26 j ≤ nI la := by rw [c6']; exact (nle (by omega) (by omega)).mpr c6
    have sl_ := cs_isTooLate (X := X) (d := d + 55) (A := A) (n := n) (sl := sl) hC hH.2.1.1.1.1 hH.2.1.1.2.2.1 hTx
    rw [hlt hj] at sl_
    have hlen : (batA A j many la ie ixn 32).length ≤ 224 := bat_len hX.2.1
    have ecs : cs.length = many := by rw [hR.len, hH.2.1.2.1, List.length_map]
    cases hbt_ : anyN (btP A j ky) many with
    | true =>
      rw [hbt_] at sl_
      have fin : EvM X mX9_commit (d + 60) [rV (some 11), iV (nI j)] (K, u2 I 449 (ti j) (nI 3), J, R, A, B, Ln, n, sl) (fun r2 G2 => r2 = some (iV (-2)) ∧ P G2) := (sp_commit_beaten (d := d + 59) hM (by rw [u2_ne1 (by decide)]; exact hR.1) (by omega) (by rw [u2_ne1 (by decide)]; exact t4) t1 hj hs hky hbt_).mono (fun r G' ⟨h1, h2⟩ => ⟨h1, by rw [h2]; exact hP0 _ _ (h0.st1 hj (by decide))⟩)
      refine ev_aload_n dX8_commit_0 rfl ?_
      refine ev_iload_n dX8_commit_1 rfl ?_
      refine ev_callV dX8_commit_2 okX8_openOne inX8_openOne seX8_openOne mlX8_88 hC.m (by decide) rfl [iV _] rfl rfl (Nat.le_of_ble_eq_true rfl) (Nat.le_of_ble_eq_true rfl) (so) (fun r_ G_ h_ => ?_)
      obtain ⟨rfl, rfl⟩ := h_
      try dsimp only [Option.toList, List.cons_append, List.nil_append]
      refine ev_astore_nS dX8_commit_5 (by decide) rfl ?_
      refine ev_aload_n dX8_commit_6 rfl ?_
      refine ev_ifnonnull 12 dX8_commit_7 (by decide) (fun x c7 => ?_) (fun c7 => by cases c7)
      refine ev_aload_n dX8_commit_12 rfl ?_
      refine ev_aload_n dX8_commit_13 rfl ?_
      refine ev_callV dX8_commit_14 okX8_isTooLate inX8_isTooLate seX8_isTooLate mlX8_134 hC.m (by decide) rfl [rV _] rfl rfl (Nat.le_of_ble_eq_true rfl) (Nat.le_of_ble_eq_true rfl) (sl_) (fun r_ G_ h_ => ?_)
      obtain ⟨rfl, rfl⟩ := h_
      try dsimp only [Option.toList, List.cons_append, List.nil_append]
      refine ev_if_eq 28 dX8_commit_17 (by decide) (fun c17 => absurd c17 (by decide)) (fun c17 => ?_)
      refine ev_aload_n dX8_commit_20 rfl ?_
      refine ev_iconstN 3 dX8_commit_21 (by decide) ?_
      refine ev_putI dX8_commit_22 fX8_138 (Or.inl rfl) (Or.inl rfl) z2 ?_
      refine ev_bipush (-2) dX8_commit_25 (by decide) ?_
      refine ev_ireturn dX8_commit_27 rfl ?_
      refine ⟨by first | exact hM.1 | exact h_.1 | exact hM1.1 | exact (hq2.2.1 11 (by omega)).1.trans hM1.1 | exact (y2.2.1 11 (by omega)).1.trans hM.1 | exact (q1.2 11 (by omega)).1.trans hM.1 | exact (va_up_ne _ _ (by omega)).trans hM.1 | exact (va_up_ne _ _ (by omega)).trans ((va_up_ne _ _ (by omega)).trans ((va_up_ne _ _ (by omega)).trans hM.1)), ?_⟩
      exact fin
    | false =>
      rw [hbt_] at sl_
      cases hrd : allN (fun k => decide (A 27 (32 * j + k) = 0)) 32 with
      | true =>
        rw [hrd] at cW
        have e448 : u2 I 449 (ti j) (nI 2) 448 (ti j) = A 26 j := by rw [u2_ne1 (by decide)]; exact c5
        have fin : EvM X mX9_commit (d + 60) [rV (some 11), iV (nI j)] (K, u2 I 449 (ti j) (nI 2), J, R, A, B, Ln, n, sl) (fun r2 G2 => r2 = some (iV (A 26 j)) ∧ P G2) := (sp_commit_reads (d := d + 59) hM (by rw [u2_ne1 (by decide)]; exact hR.1) (by omega) (by rw [u2_ne1 (by decide)]; exact t4) t1 hj hs hky hbt_ hrd).mono (fun r G' ⟨h1, h2⟩ => ⟨h1, by rw [h2]; exact hP0 _ _ (h0.st1 hj (by decide))⟩)
        refine ev_aload_n dX8_commit_0 rfl ?_
        refine ev_iload_n dX8_commit_1 rfl ?_
        refine ev_callV dX8_commit_2 okX8_openOne inX8_openOne seX8_openOne mlX8_88 hC.m (by decide) rfl [iV _] rfl rfl (Nat.le_of_ble_eq_true rfl) (Nat.le_of_ble_eq_true rfl) (so) (fun r_ G_ h_ => ?_)
        obtain ⟨rfl, rfl⟩ := h_
        try dsimp only [Option.toList, List.cons_append, List.nil_append]
        refine ev_astore_nS dX8_commit_5 (by decide) rfl ?_
        refine ev_aload_n dX8_commit_6 rfl ?_
        refine ev_ifnonnull 12 dX8_commit_7 (by decide) (fun x c7 => ?_) (fun c7 => by cases c7)
        refine ev_aload_n dX8_commit_12 rfl ?_
        refine ev_aload_n dX8_commit_13 rfl ?_
        refine ev_callV dX8_commit_14 okX8_isTooLate inX8_isTooLate seX8_isTooLate mlX8_134 hC.m (by decide) rfl [rV _] rfl rfl (Nat.le_of_ble_eq_true rfl) (Nat.le_of_ble_eq_true rfl) (sl_) (fun r_ G_ h_ => ?_)
        obtain ⟨rfl, rfl⟩ := h_
        try dsimp only [Option.toList, List.cons_append, List.nil_append]
        refine ev_if_eq 28 dX8_commit_17 (by decide) (fun c17 => ?_) (fun c17 => absurd c17 (fun z => z rfl))
        refine ev_aload_n dX8_commit_28 rfl ?_
        refine ev_getIv dX8_commit_29 fX8_141 z2 cW ?_
        refine ev_if_ne 45 dX8_commit_32 (by decide) (fun c32 => absurd c32 (fun z => z rfl)) (fun c32 => ?_)
        refine ev_aload_n dX8_commit_35 rfl ?_
        refine ev_iconstN 2 dX8_commit_36 (by decide) ?_
        refine ev_putI dX8_commit_37 fX8_138 (Or.inl rfl) (Or.inl rfl) z2 ?_
        refine ev_aload_n dX8_commit_40 rfl ?_
        refine ev_getIv dX8_commit_41 fX8_121 z2 e448 ?_
        refine ev_ireturn dX8_commit_44 rfl ?_
        refine ⟨by first | exact hM.1 | exact h_.1 | exact hM1.1 | exact (hq2.2.1 11 (by omega)).1.trans hM1.1 | exact (y2.2.1 11 (by omega)).1.trans hM.1 | exact (q1.2 11 (by omega)).1.trans hM.1 | exact (va_up_ne _ _ (by omega)).trans hM.1 | exact (va_up_ne _ _ (by omega)).trans ((va_up_ne _ _ (by omega)).trans ((va_up_ne _ _ (by omega)).trans hM.1)), ?_⟩
        exact fin
      | false =>
        rw [hrd] at cW
        have sb := cs_batchSize (X := X) (d := d + 39) (A := A) (n := n) (sl := sl) hC hH.2.1.1.1.1 hH.2.1.1.2.2.1 (fun e he r hr => (hH.2.1.1.2.2.2 e he r hr).1) hTx hX t5
        rw [hbS hj] at sb
        have sh := cs_hasRoom (X := X) (d := d + 59) (J := J) (R := R) (A := A) (B := B) (Ln := Ln) (n := n) (sl := sl) (m := (batA A j many la ie ixn 32).length) hC.K_st hH.2.1.1.1.1.1 (by omega)
        rw [ecs] at sh
        by_cases hful : 500 < many + (batA A j many la ie ixn 32).length
        · rw [decide_eq_false (by omega)] at sh
          have fin : EvM X mX9_commit (d + 60) [rV (some 11), iV (nI j)] (K, I, J, R, A, B, Ln, n, sl) (fun r2 G2 => r2 = some (iV (-3)) ∧ P G2) := (sp_commit_full (d := d + 56) hM hR.1 (by omega) (by omega) t6 x4 hX.2.1 hbe hxE hn1 (hn2 hj) t4 t1 hj hs hky hbt_ hrd hful (by omega)).mono (fun r G' ⟨h1, I', A', h2, h3, h4, h5⟩ => ⟨h1, by rw [h2]; exact hP0 _ _ (h0.scr h3 h4 h5)⟩)
          refine ev_aload_n dX8_commit_0 rfl ?_
          refine ev_iload_n dX8_commit_1 rfl ?_
          refine ev_callV dX8_commit_2 okX8_openOne inX8_openOne seX8_openOne mlX8_88 hC.m (by decide) rfl [iV _] rfl rfl (Nat.le_of_ble_eq_true rfl) (Nat.le_of_ble_eq_true rfl) (so) (fun r_ G_ h_ => ?_)
          obtain ⟨rfl, rfl⟩ := h_
          try dsimp only [Option.toList, List.cons_append, List.nil_append]
          refine ev_astore_nS dX8_commit_5 (by decide) rfl ?_
          refine ev_aload_n dX8_commit_6 rfl ?_
          refine ev_ifnonnull 12 dX8_commit_7 (by decide) (fun x c7 => ?_) (fun c7 => by cases c7)
          refine ev_aload_n dX8_commit_12 rfl ?_
          refine ev_aload_n dX8_commit_13 rfl ?_
          refine ev_callV dX8_commit_14 okX8_isTooLate inX8_isTooLate seX8_isTooLate mlX8_134 hC.m (by decide) rfl [rV _] rfl rfl (Nat.le_of_ble_eq_true rfl) (Nat.le_of_ble_eq_true rfl) (sl_) (fun r_ G_ h_ => ?_)
          obtain ⟨rfl, rfl⟩ := h_
          try dsimp only [Option.toList, List.cons_append, List.nil_append]
          refine ev_if_eq 28 dX8_commit_17 (by decide) (fun c17 => ?_) (fun c17 => absurd c17 (fun z => z rfl))
          refine ev_aload_n dX8_commit_28 rfl ?_
          refine ev_getIv dX8_commit_29 fX8_141 z2 cW ?_
          refine ev_if_ne 45 dX8_commit_32 (by decide) (fun c32 => ?_) (fun c32 => absurd c32 (by decide))
          refine ev_aload_n dX8_commit_45 rfl ?_
          refine ev_getR dX8_commit_46 fX8_27 hC.m hC.R_st ?_
          refine ev_aload_n dX8_commit_49 rfl ?_
          refine ev_aload_n dX8_commit_50 rfl ?_
          refine ev_callV dX8_commit_51 okX8_batchSize inX8_batchSize seX8_batchSize mlX8_145 hC.m (by decide) rfl [rV _] rfl rfl (Nat.le_of_ble_eq_true rfl) (Nat.le_of_ble_eq_true rfl) (sb) (fun r_ G_ h_ => ?_)
          obtain ⟨rfl, rfl⟩ := h_
          try dsimp only [Option.toList, List.cons_append, List.nil_append]
          refine ev_callV dX8_commit_54 okX6_hasRoomFor inX6_hasRoomFor seX6_hasRoomFor mlX8_149 hC.K_st (by decide) rfl [iV _] rfl rfl (Nat.le_of_ble_eq_true rfl) (Nat.le_of_ble_eq_true rfl) (sh) (fun r_ G_ h_ => ?_)
          obtain ⟨rfl, rfl⟩ := h_
          try dsimp only [Option.toList, List.cons_append, List.nil_append]
          refine ev_if_ne 63 dX8_commit_57 (by decide) (fun c57 => absurd c57 (fun z => z rfl)) (fun c57 => ?_)
          refine ev_bipush (-3) dX8_commit_60 (by decide) ?_
          refine ev_ireturn dX8_commit_62 rfl ?_
          refine ⟨by first | exact hM.1 | exact h_.1 | exact hM1.1 | exact (hq2.2.1 11 (by omega)).1.trans hM1.1 | exact (y2.2.1 11 (by omega)).1.trans hM.1 | exact (q1.2 11 (by omega)).1.trans hM.1 | exact (va_up_ne _ _ (by omega)).trans hM.1 | exact (va_up_ne _ _ (by omega)).trans ((va_up_ne _ _ (by omega)).trans ((va_up_ne _ _ (by omega)).trans hM.1)), ?_⟩
          exact fin
        · rw [decide_eq_true (by omega)] at sh
          have st := cs_takeBatch (X := X) (d := d + 39) (sl0 := sl) hC hn hH.2.2.2.1 hX (by omega) hTx htn.1 htn.2 (hrk j hj) hH.2.1.1.2.2.2 (fun e he => (hH.2.1.1.1.2.2.2.1 e he).2) t5 (by rw [hbS hj]; omega) hH.2.1.1 hH.2.2.1 (fun e he => (hE.1 (entC I R e) (by rw [hH.2.1.2.1]; exact List.mem_map_of_mem he)).1)
          rw [hbS hj] at st
          have put : ∀ (K' : Nat → Nat) (Ir : Nat → Nat → Int32) (J' : Nat → Nat → Int64) (R' B' : Nat → Nat → Option Nat) (Ln' : Nat → Nat) (n' sl' : Nat) (Q : Option LV → GH → Prop), MFix K' R' Ln' → (∀ f, Ir f 11 = I f 11) → _ → EvM X mX9_commit (d + 60) [rV (some 11), iV (nI j)] (K', Ir, J', R', A, B', Ln', n', sl') Q := fun K' Ir J' R' B' Ln' n' sl' Q hM' e hfin => sp_commit_put (X := X) (d := d + 54) (Q := Q) hM' ((e _).trans hR.1) (by omega) (by omega) ((e _).trans t6) ((e _).trans x4) hX.2.1 hbe hxE hn1 (hn2 hj) ((e _).trans t4) t1 hj hs hky hbt_ hrd hful hfin
          have fin : ∀ (K1 : Nat → Nat) (I1 : Nat → Nat → Int32) (J1 : Nat → Nat → Int64) (R1 B1 : Nat → Nat → Option Nat) (n1 sl1 : Nat) (cs1 : List Nat), BtI K I J R B Ln n sl a m cs fs s.2.2 la A ((batA A j many la ie ixn 32).map nrmE) (NbP 32 0) K1 I1 J1 R1 B1 n1 sl1 cs1 → Ev X mX8_commit (d + 60) 68 [some (rV (some 3)), some (iV (nI j)), some (rV (some (ti j)))] [] (K1, u2 (u2 I1 519 3 (nI (la + 1))) 449 (ti j) (nI 2), J1, R1, A, B1, Ln, n1, sl1) (fun r1 G1 => G1.1 11 = 9 ∧ EvM X mX9_commit (d + 60) [rV (some 11), iV (nI j)] G1 (fun r2 G2 => r2 = r1 ∧ P G2)) := by
            intro K1 I1 J1 R1 B1 n1 sl1 cs1 hbt
            have hbt0 := hbt
            obtain ⟨-, b2, -, -, -, -, -, b8, b9⟩ := hbt0
            rw [List.length_map] at b8 b9
            obtain ⟨hHc, hE1⟩ := htk hj hbt
            have hF := b2.2
            have hnn := b2.1
            have k11 := hM.1
            have e11 : ∀ f, (u2 (u2 I1 519 3 (nI (la + 1))) 449 (ti j) (nI 2)) f 11 = I f 11 := fun f => by
              rw [u2_ne2 (by omega), u2_ne2 (by omega)]; exact (hF 11 (by omega)).2.2.2.2.1 f (by omega)
            have e3 : ∀ f, f ≠ 519 → (u2 (u2 I1 519 3 (nI (la + 1))) 449 (ti j) (nI 2)) f 3 = I f 3 := fun f hf => by
              rw [u2_ne2 (by omega), u2_ne1 hf]; exact (hF 3 (by omega)).2.2.2.2.1 f (by omega)
            have e519 : (u2 (u2 I1 519 3 (nI (la + 1))) 449 (ti j) (nI 2)) 519 3 = nI (la + 1) := by rw [u2_ne1 (by decide)]; exact u2_self
            have hC1 := hHc.1
            have hM1 : MFix K1 R1 Ln := hM.of (fun i hi => (hF i (by omega)).1) (fun _ _ => rfl) (fun f => (hF 11 (by omega)).2.2.2.1 f)
            have kt1 : K1 (ti j) = 7 := (hF _ (by omega)).1.trans z2
            have hv1 := hHc.2.1.valid (show s.2.2 < 2147483648 by omega)
            have e386 : (u2 (u2 I1 519 3 (nI (la + 1))) 449 (ti j) (nI 2)) 386 7 = nI ((cs1.map (entC I1 R1), s.2.1, s.2.2).1.countP (fun x => decide (eF x = 0))) := by
              rw [← hHc.2.1.cnt0 (show s.2.2 < 2147483648 by omega)]
              exact hHc.2.1.1.1.2.2.2.2.2.2.1
            have hc5 : (cs1.map (entC I1 R1), s.2.1, s.2.2).1.countP (fun x => decide (eF x = 0)) ≤ 500 := Nat.le_trans List.countP_le_length hv1.2.2.2.2.1
            generalize hcn : (cs1.map (entC I1 R1), s.2.1, s.2.2).1.countP (fun x => decide (eF x = 0)) = cn at e386 hc5
            by_cases h20 : cn < 20
            · have last : EvM X mX9_commit (d + 60) [rV (some 11), iV (nI j)] (K1, u2 (u2 I1 519 3 (nI (la + 1))) 449 (ti j) (nI 2), J1, R1, A, B1, Ln, n1, sl1) (fun r2 G2 => r2 = some (iV (nI (la + 1))) ∧ P G2) := put K1 _ J1 R1 B1 Ln n1 sl1 _ hM1 e11 (fun I' A' q1 q2 q3 => by
                have hS := h0.took (I2 := u2 I' 594 11 (nI (la + 1))) (by omega) hj hs hbt q1 (fun f i hz => by
                  rw [← q3 f i (fun z => hz ⟨z.2, Or.inl z.1⟩)]
                  unfold u2
                  rw [if_neg (fun z => hz ⟨z.2, Or.inr z.1⟩)]) (by rw [u2_ne1 (by decide)]; exact q2) u2_self
                have hct := hS.2.2.1.cnt0 (x := 0)
                rw [u2_row' (by decide), hcn] at hct
                refine Or.inl ⟨by rw [hct]; exact h20, rfl, ?_⟩
                have hph : phT (cs1.map (entC I1 R1), s.2.1, s.2.2) ≤ phT s + 2210 := ph_took
                exact hP K1 _ J1 R1 _ B1 Ln n1 sl1 a m cs1 fs _ _ hS (by omega) (by omega) (Nat.le_refl _) (by show s.2.2 ≤ _; omega))
              refine ev_aload_n dX8_commit_68 rfl ?_
              refine ev_getR dX8_commit_69 fX8_27 hC1.m hC1.R_st ?_
              refine ev_getIv dX8_commit_72 fX8_156 hC1.K_st e386 ?_
              refine ev_bipushN 20 dX8_commit_75 (by decide) ?_
              refine ev_icmp_ltN 84 dX8_commit_77 (by decide) (by omega) (by omega) (fun c77 => ?_) (fun c77 => absurd c77 (by omega))
              refine ev_aload_n dX8_commit_84 rfl ?_
              refine ev_getIv dX8_commit_85 fX8_75 hC1.m e519 ?_
              refine ev_ireturn dX8_commit_88 rfl ?_
              refine ⟨by first | exact hM.1 | exact h_.1 | exact hM1.1 | exact (hq2.2.1 11 (by omega)).1.trans hM1.1 | exact (y2.2.1 11 (by omega)).1.trans hM.1 | exact (q1.2 11 (by omega)).1.trans hM.1 | exact (va_up_ne _ _ (by omega)).trans hM.1 | exact (va_up_ne _ _ (by omega)).trans ((va_up_ne _ _ (by omega)).trans ((va_up_ne _ _ (by omega)).trans hM.1)), ?_⟩
              exact last
            · have ht1 : ∀ i, i < tn → B1 6 i = some (ti i) ∧ K1 (ti i) = 7 ∧ ti i < n1 := fun i hi => by
                have hz := (t8 i hi).2.1
                exact ⟨by rw [(hF 6 (by omega)).2.2.2.2.2 (by decide)]; exact (hti i hi).1, (hF _ (by omega)).1.trans (hti i hi).2, by omega⟩
              obtain ⟨f1, f2, f3, f4, f5, f6⟩ := hE1.flush (show s.2.2 + 1 < 2147483648 by omega)
              obtain ⟨rr, GG, -, -, -, K2, I2, R2, B2, Ln2, n2, sl2, a2, m2, cs2, fs2, -, -, hHf, -⟩ := cs_flushS (X := X) (d := 0) (sl := 0) hHc (show s.2.2 + 520 < 2147483648 by omega)
              have f3' : (fluS (cs1.map (entC I1 R1), s.2.1, s.2.2)).2.2 ≤ s.2.2 + 1 := f3
              have hvf := hHf.2.1.valid (show (fluS (cs1.map (entC I1 R1), s.2.1, s.2.2)).2.2 < 2147483648 by omega)
              have hl1 : lvS (fluS (cs1.map (entC I1 R1), s.2.1, s.2.2)) (nI 1) ≤ 500 := Nat.le_trans List.countP_le_length hvf.2.2.2.2.2
              obtain ⟨kk, s', hk1, hst⟩ := stv_ex (J := J1) (A := A) (h := hzI (fun i => (u2 (u2 I1 519 3 (nI (la + 1))) 449 (ti j) (nI 2)) 449 (ti i)) (fun i => (u2 (u2 I1 519 3 (nI (la + 1))) 449 (ti j) (nI 2)) 448 (ti i)) ((u2 (u2 I1 519 3 (nI (la + 1))) 449 (ti j) (nI 2)) 519 3) tn) X 562 (by unfold muS; split <;> omega) (by omega) hHf
              obtain ⟨g1, g2, g3⟩ := stv_E kk f1 f6 hst
              have sfm := cs_flushMerge (X := X) (d := d + 48) (sl := sl1) hHc (show s.2.2 + 520 < 2147483648 by omega) ((e3 _ (by decide)).trans t3) t1 ht1 (by omega) hst
              have last : ∀ (K' : Nat → Nat) (I' : Nat → Nat → Int32) (R' B' : Nat → Nat → Option Nat) (Ln' : Nat → Nat) (n' sl' a' m' : Nat) (cs' fs' : List Nat), HpC K' I' J1 R' A B' Ln' n' a' m' cs' fs' s' → StF K1 (u2 (u2 I1 519 3 (nI (la + 1))) 449 (ti j) (nI 2)) R1 B1 Ln n1 K' I' R' B' Ln' n' → n' + phS s' + m ≤ n1 + 1 + phS (fluS (cs1.map (entC I1 R1), s.2.1, s.2.2)) + m' → sl' + 7 * phS s' + 800 * m ≤ sl1 + 6 + 7 * phS (fluS (cs1.map (entC I1 R1), s.2.1, s.2.2)) + 800 * m' → m ≤ m' → EvM X mX9_commit (d + 60) [rV (some 11), iV (nI j)] (K', I', J1, R', A, B', Ln', n', sl') (fun r2 G2 => r2 = some (iV (nI (la + 1))) ∧ P G2) := by
                intro K' I' R' B' Ln' n' sl' a' m' cs' fs' w1 w2 w3 w4 w5
                have k11' := hM1.1
                have i11 : ∀ f, I' f 11 = (u2 (u2 I1 519 3 (nI (la + 1))) 449 (ti j) (nI 2)) f 11 := fun f => w2.2.2.2.1 f 11 (by omega) (by rw [k11']; omega)
                have hM2 : MFix K' R' Ln' := hM1.of (fun i hi => (w2.2.1 i (by omega)).1) (fun i hi => (w2.2.1 i (by omega)).2) (fun f => w2.2.2.2.2.1 f 11 (by omega) (by rw [k11']; omega))
                refine put K' I' J1 R' B' Ln' n' sl' _ hM2 (fun f => (i11 f).trans (e11 f)) (fun I2' A2' q1 q2 q3 => ?_)
                have hS := h0.took (I2 := (fun f i => if i = 11 then u2 I2' 594 11 (nI (la + 1)) f i else (u2 (u2 I1 519 3 (nI (la + 1))) 449 (ti j) (nI 2)) f i)) (by omega) hj hs hbt q1 (fun f i hz => by
                  by_cases hi : i = 11
                  · subst hi
                    show (if 11 = 11 then u2 I2' 594 11 (nI (la + 1)) f 11 else _) = _
                    rw [if_pos rfl, u2_ne1 (fun z => hz ⟨rfl, Or.inr z⟩), q3 f 11 (fun z => hz ⟨rfl, Or.inl z.1⟩)]
                    exact i11 f
                  · show (if i = 11 then u2 I2' 594 11 (nI (la + 1)) f i else _) = _
                    rw [if_neg hi]) (by show (if 11 = 11 then u2 I2' 594 11 (nI (la + 1)) 582 11 else _) = _; rw [if_pos rfl, u2_ne1 (by decide)]; exact q2) (by show (if 11 = 11 then u2 I2' 594 11 (nI (la + 1)) 594 11 else _) = _; rw [if_pos rfl]; exact u2_self)
                have hct := hS.2.2.1.cnt0 (x := 0)
                rw [u2_row' (by decide), hcn] at hct
                refine Or.inr ⟨by rw [hct]; omega, ?_⟩
                have hti' : ∀ i, i < tn → ∀ f, (fun f i => if i = 11 then u2 I2' 594 11 (nI (la + 1)) f i else (u2 (u2 I1 519 3 (nI (la + 1))) 449 (ti j) (nI 2)) f i) f (ti i) = (u2 (u2 I1 519 3 (nI (la + 1))) 449 (ti j) (nI 2)) f (ti i) := fun i hi f => by
                  have := (t8 i hi).2.1
                  show (if ti i = 11 then u2 I2' 594 11 (nI (la + 1)) f (ti i) else _) = _
                  rw [if_neg (by omega)]
                have hzz := hS.hz
                have hz2 : hzI (fun i => (fun f i => if i = 11 then u2 I2' 594 11 (nI (la + 1)) f i else (u2 (u2 I1 519 3 (nI (la + 1))) 449 (ti j) (nI 2)) f i) 449 (ti i)) (fun i => (fun f i => if i = 11 then u2 I2' 594 11 (nI (la + 1)) f i else (u2 (u2 I1 519 3 (nI (la + 1))) 449 (ti j) (nI 2)) f i) 448 (ti i)) ((fun f i => if i = 11 then u2 I2' 594 11 (nI (la + 1)) f i else (u2 (u2 I1 519 3 (nI (la + 1))) 449 (ti j) (nI 2)) f i) 519 3) tn = hzI (fun i => (u2 (u2 I1 519 3 (nI (la + 1))) 449 (ti j) (nI 2)) 449 (ti i)) (fun i => (u2 (u2 I1 519 3 (nI (la + 1))) 449 (ti j) (nI 2)) 448 (ti i)) ((u2 (u2 I1 519 3 (nI (la + 1))) 449 (ti j) (nI 2)) 519 3) tn := by
                  have e : (fun f i => if i = 11 then u2 I2' 594 11 (nI (la + 1)) f i else (u2 (u2 I1 519 3 (nI (la + 1))) 449 (ti j) (nI 2)) f i) 519 3 = (u2 (u2 I1 519 3 (nI (la + 1))) 449 (ti j) (nI 2)) 519 3 := by
                    show (if 3 = 11 then u2 I2' 594 11 (nI (la + 1)) 519 3 else _) = _
                    rw [if_neg (by decide)]
                  rw [e]
                  exact hzI_congr (fun i hi => ⟨hti' i hi 449, hti' i hi 448⟩)
                rw [hz2] at hzz
                rw [hzz] at hst
                have hfm := hS.fm (X := X) (d := d + 54) (sl := sl') (Ic := u2 (u2 I1 519 3 (nI (la + 1))) 449 (ti j) (nI 2)) (I' := I') (Ir := u2 I2' 594 11 (nI (la + 1))) (A0 := A) (show s.2.2 + 520 < 2147483648 by omega) (show kk ≤ 600 by omega) hst w2 w1 (fun f i hi => by
                  show _ = (if i = 11 then u2 I2' 594 11 (nI (la + 1)) f i else _)
                  rw [if_neg hi]) (fun f i hi => by rw [u2_ne2 hi]; exact q3 f i (fun z => hi z.2)) (fun f => by
                  show _ = (if 11 = 11 then u2 I2' 594 11 (nI (la + 1)) f 11 else _)
                  rw [if_pos rfl]) (fun i hi => by rw [u2_row' (by omega)]; exact (q1.1 i (by simp; omega)).symm)
                refine hfm.mono ?_
                rintro r G1 ⟨x, I5, A5, r1, r2, r3⟩
                refine ⟨x, I5, A5, r1, r2, r3.mono ?_⟩
                rintro r G2 ⟨y1, I6, A6, y2, y3, many', y4⟩
                refine ⟨y1, I6, A6, y2, by rw [y3], ?_⟩
                have hph : phT (cs1.map (entC I1 R1), s.2.1, s.2.2) ≤ phT s + 2210 := ph_took
                have hps : phT s' = phS s' := by unfold phT; rw [g2, if_neg (by decide)]; omega
                exact hP K' _ J1 R' _ B' Ln' n' sl' a' m' cs' fs' s' many' y4 (by omega) (by omega) w5 (by omega)
              refine ev_aload_n dX8_commit_68 rfl ?_
              refine ev_getR dX8_commit_69 fX8_27 hC1.m hC1.R_st ?_
              refine ev_getIv dX8_commit_72 fX8_156 hC1.K_st e386 ?_
              refine ev_bipushN 20 dX8_commit_75 (by decide) ?_
              refine ev_icmp_ltN 84 dX8_commit_77 (by decide) (by omega) (by omega) (fun c77 => absurd c77 (by omega)) (fun c77 => ?_)
              refine ev_aload_n dX8_commit_80 rfl ?_
              refine ev_callV dX8_commit_81 okX8_flushAndMerge inX8_flushAndMerge seX8_flushAndMerge mlX8_159 hC1.m (by decide) rfl [] rfl rfl (Nat.le_of_ble_eq_true rfl) (Nat.le_of_ble_eq_true rfl) (sfm) (fun r_ G_ h_ => ?_)
              obtain ⟨K', I', R', B', Ln', n', sl', a', m', cs', fs', rfl, rfl, hq1, hq2, hq3, hq4, hq5⟩ := h_
              have e519' : I' 519 3 = nI (la + 1) := (hq2.2.2.2.1 519 3 (by omega) (by rw [hC1.m]; omega)).trans e519
              try dsimp only [Option.toList, List.cons_append, List.nil_append]
              refine ev_aload_n dX8_commit_84 rfl ?_
              refine ev_getIv dX8_commit_85 fX8_75 hq1.1.m e519' ?_
              refine ev_ireturn dX8_commit_88 rfl ?_
              refine ⟨by first | exact hM.1 | exact h_.1 | exact hM1.1 | exact (hq2.2.1 11 (by omega)).1.trans hM1.1 | exact (y2.2.1 11 (by omega)).1.trans hM.1 | exact (q1.2 11 (by omega)).1.trans hM.1 | exact (va_up_ne _ _ (by omega)).trans hM.1 | exact (va_up_ne _ _ (by omega)).trans ((va_up_ne _ _ (by omega)).trans ((va_up_ne _ _ (by omega)).trans hM.1)), ?_⟩
              exact last K' I' R' B' Ln' n' sl' a' m' cs' fs' hq1 hq2 hq3 hq4 hq5
          refine ev_aload_n dX8_commit_0 rfl ?_
          refine ev_iload_n dX8_commit_1 rfl ?_
          refine ev_callV dX8_commit_2 okX8_openOne inX8_openOne seX8_openOne mlX8_88 hC.m (by decide) rfl [iV _] rfl rfl (Nat.le_of_ble_eq_true rfl) (Nat.le_of_ble_eq_true rfl) (so) (fun r_ G_ h_ => ?_)
          obtain ⟨rfl, rfl⟩ := h_
          try dsimp only [Option.toList, List.cons_append, List.nil_append]
          refine ev_astore_nS dX8_commit_5 (by decide) rfl ?_
          refine ev_aload_n dX8_commit_6 rfl ?_
          refine ev_ifnonnull 12 dX8_commit_7 (by decide) (fun x c7 => ?_) (fun c7 => by cases c7)
          refine ev_aload_n dX8_commit_12 rfl ?_
          refine ev_aload_n dX8_commit_13 rfl ?_
          refine ev_callV dX8_commit_14 okX8_isTooLate inX8_isTooLate seX8_isTooLate mlX8_134 hC.m (by decide) rfl [rV _] rfl rfl (Nat.le_of_ble_eq_true rfl) (Nat.le_of_ble_eq_true rfl) (sl_) (fun r_ G_ h_ => ?_)
          obtain ⟨rfl, rfl⟩ := h_
          try dsimp only [Option.toList, List.cons_append, List.nil_append]
          refine ev_if_eq 28 dX8_commit_17 (by decide) (fun c17 => ?_) (fun c17 => absurd c17 (fun z => z rfl))
          refine ev_aload_n dX8_commit_28 rfl ?_
          refine ev_getIv dX8_commit_29 fX8_141 z2 cW ?_
          refine ev_if_ne 45 dX8_commit_32 (by decide) (fun c32 => ?_) (fun c32 => absurd c32 (by decide))
          refine ev_aload_n dX8_commit_45 rfl ?_
          refine ev_getR dX8_commit_46 fX8_27 hC.m hC.R_st ?_
          refine ev_aload_n dX8_commit_49 rfl ?_
          refine ev_aload_n dX8_commit_50 rfl ?_
          refine ev_callV dX8_commit_51 okX8_batchSize inX8_batchSize seX8_batchSize mlX8_145 hC.m (by decide) rfl [rV _] rfl rfl (Nat.le_of_ble_eq_true rfl) (Nat.le_of_ble_eq_true rfl) (sb) (fun r_ G_ h_ => ?_)
          obtain ⟨rfl, rfl⟩ := h_
          try dsimp only [Option.toList, List.cons_append, List.nil_append]
          refine ev_callV dX8_commit_54 okX6_hasRoomFor inX6_hasRoomFor seX6_hasRoomFor mlX8_149 hC.K_st (by decide) rfl [iV _] rfl rfl (Nat.le_of_ble_eq_true rfl) (Nat.le_of_ble_eq_true rfl) (sh) (fun r_ G_ h_ => ?_)
          obtain ⟨rfl, rfl⟩ := h_
          try dsimp only [Option.toList, List.cons_append, List.nil_append]
          refine ev_if_ne 63 dX8_commit_57 (by decide) (fun c57 => ?_) (fun c57 => absurd c57 (by decide))
          refine ev_aload_n dX8_commit_63 rfl ?_
          refine ev_aload_n dX8_commit_64 rfl ?_
          refine ev_callV dX8_commit_65 okX8_takeBatch inX8_takeBatch seX8_takeBatch mlX8_152 hC.m (by decide) rfl [rV _] rfl rfl (Nat.le_of_ble_eq_true rfl) (Nat.le_of_ble_eq_true rfl) (st) (fun r_ G_ h_ => ?_)
          obtain ⟨rfl, K1, I1, J1, R1, B1, n1, sl1, cs1, hq_, rfl⟩ := h_
          try dsimp only [Option.toList, List.cons_append, List.nil_append]
          exact fin K1 I1 J1 R1 B1 n1 sl1 cs1 hq_
  · have so := cs_openOne_no (X := X) (d := d + 58) (J := J) (A := A) (n := n) (sl := sl) hC t3 t1 hti (t := x) (fun j hj z => by rw [hsI j hj]; exact hno j hj z)
    have fin : EvM X mX9_commit (d + 60) [rV (some 11), iV x] (K, I, J, R, A, B, Ln, n, sl) (fun r2 G2 => r2 = some (iV (-1)) ∧ P G2) := (sp_commit_no (d := d + 59) hM t4 t1 hno).mono (fun r G' ⟨h1, h2⟩ => ⟨h1, by rw [h2]; exact hP0 I A h0⟩)
    refine ev_aload_n dX8_commit_0 rfl ?_
    refine ev_iload_n dX8_commit_1 rfl ?_
    refine ev_callV dX8_commit_2 okX8_openOne inX8_openOne seX8_openOne mlX8_88 hC.m (by decide) rfl [iV _] rfl rfl (Nat.le_of_ble_eq_true rfl) (Nat.le_of_ble_eq_true rfl) (so) (fun r_ G_ h_ => ?_)
    obtain ⟨rfl, rfl⟩ := h_
    try dsimp only [Option.toList, List.cons_append, List.nil_append]
    refine ev_astore_nS dX8_commit_5 (by decide) rfl ?_
    refine ev_aload_n dX8_commit_6 rfl ?_
    refine ev_ifnonnull 12 dX8_commit_7 (by decide) (fun x c7 => by cases c7) (fun c7 => ?_)
    refine ev_iconst (-1) dX8_commit_10 (by decide) ?_
    refine ev_ireturn dX8_commit_11 rfl ?_
    refine ⟨by first | exact hM.1 | exact h_.1 | exact hM1.1 | exact (hq2.2.1 11 (by omega)).1.trans hM1.1 | exact (y2.2.1 11 (by omega)).1.trans hM.1 | exact (q1.2 11 (by omega)).1.trans hM.1 | exact (va_up_ne _ _ (by omega)).trans hM.1 | exact (va_up_ne _ _ (by omega)).trans ((va_up_ne _ _ (by omega)).trans ((va_up_ne _ _ (by omega)).trans hM.1)), ?_⟩
    exact fin
end C98T
