theorem i_nat (y : Int32) : y < 0 ∨ ∃ z, z < 2147483648 ∧ y = nI z := by
  by_cases h : y < 0
  · exact Or.inl h
  · right
    rw [Int32.lt_iff_toInt_lt, show (0 : Int32).toInt = 0 by decide] at h
    have h2 := y.toInt_lt
    refine ⟨y.toInt.toNat, by omega, ?_⟩
    apply Int32.toInt_inj.mp
    rw [nI_toInt (by omega)]
    omega
section C98U
variable {X : CX} {d : Nat} {K : Nat → Nat} {I : Nat → Nat → Int32} {J : Nat → Nat → Int64} {R : Nat → Nat → Option Nat} {A : Nat → Nat → Int32} {B : Nat → Nat → Option Nat} {Ln : Nat → Nat} {n sl : Nat} {a m : Nat} {cs fs : List Nat} {s : SA} {many tn la : Nat} {ti : Nat → Nat} {pn : Nat} {px : Nat → Nat} {pe : Nat → EX} {ixn : Nat} {ie : Nat → EX} {rn : Nat} {p : PP}
set_option maxRecDepth 100000 in
set_option maxHeartbeats 4000000 in
theorem op_tear (h : Sim K I J R A B Ln n a m cs fs s many tn la ti pn px pe ixn ie rn p) (hmd : s.2.2 + 700000 < 2147483648) (x y : Int32) {P : GH → Prop} (hP0 : ∀ I' A', Sim K I' J R A' B Ln n a m cs fs s many tn la ti pn px pe ixn ie rn p → P (K, I', J, R, A', B, Ln, n, sl)) (hP : ∀ K' I' J' R' A' B' Ln' n' sl' a' m' cs' fs' s' many', Sim K' I' J' R' A' B' Ln' n' a' m' cs' fs' s' many' tn (la + 1) ti pn px pe ixn ie rn p → n' + phT s' + m ≤ n + 2711 + phT s + m' → sl' + 7 * phT s' + 800 * m ≤ sl + 18976 + 7 * phT s + 800 * m' → m ≤ m' → s'.2.2 ≤ s.2.2 + 24000 → P (K', I', J', R', A', B', Ln', n', sl')) : EvM X mX8_tear (d + 60) [rV (some 3), iV x, iV y] (K, I, J, R, A, B, Ln, n, sl) (fun r1 G1 => G1.1 11 = 9 ∧ EvM X mX9_tear (d + 60) [rV (some 11), iV x, iV y] G1 (fun r2 G2 => r2 = r1 ∧ P G2)) := by
  obtain ⟨hm5, -, hv⟩ := h.vld (by omega)
  obtain ⟨ky, hky⟩ := ky_ex h.2.2.1 hv
  have hlt := fun {j : Nat} (hj : j < tn) => late_S h (by omega) hj hky
  have hbS := fun {j : Nat} (hj : j < tn) => bat_S h (by omega) hj
  have hn1 := fun (k : Nat) (hk : k < 32) => ra_nm h (by omega) hk (u := nI la)
  have hn2 := fun {j : Nat} (hj : j < tn) (k : Nat) (hk : k < 32) => rf_nm h (by omega) hj hk
  have htk := fun {K1 : Nat → Nat} {I1 : Nat → Nat → Int32} {J1 : Nat → Nat → Int64} {R1 B1 : Nat → Nat → Option Nat} {n1 sl0 sl1 : Nat} {cs1 : List Nat} {j : Nat} (hj : j < tn) => Sim.took_H (K1 := K1) (I1 := I1) (J1 := J1) (R1 := R1) (B1 := B1) (n1 := n1) (sl0 := sl0) (sl1 := sl1) (cs1 := cs1) h (by omega) hj
  have hti := h.tis
  have h0 := h
  obtain ⟨hH, hM, hR, hT, -⟩ := h
  have hT0 := hT
  obtain ⟨⟨t1, t2⟩, t3, t4, t5, t6, t7, t8, t9, t10, t11⟩ := hT
  have hC := hH.1
  have hn := hH.2.2.2.2
  have hsI : ∀ j, j < tn → I 449 (ti j) = A 25 j := fun j hj => (t8 j hj).2.2.2.1
  have hrk : ∀ i, i < tn → ∀ q, q < 32 → ∀ r, B (ti i + 2) q = some r → r < n := fun i hi q hq r hr => by
    have := (t8 i hi).2.2.1.2.2.2.2.2.2.2 q hq r hr
    by_cases z : r < n
    · exact z
    · have := hH.2.2.2.1 r (by omega); omega
  have h0' := h0
  obtain ⟨-, -, -, -, -, ⟨hX, x4, x5⟩, -, -, hE⟩ := h0'
  have hxE : ∀ i, i < ixn → ExA A (8 + i) (ie i) ∧ TreeE (ie i) := fun i hi => ⟨x5 i hi, by obtain ⟨xx, _, w2, _⟩ := hX.2.2 i hi; exact w2.tree⟩
  have hinj : ∀ a b, a < tn → b < tn → ti a = ti b → a = b := fun a b ha hb z => by
    by_cases y : a = b
    · exact y
    · have := ti_ne t7 ha hb y; omega
  show Ev X mX8_tear (d + 60) 0 [some (rV (some 3)), some (iV x), some (iV y), none, none, none] [] (K, I, J, R, A, B, Ln, n, sl) _
  rcases open_cases A tn x with ⟨j, hj, rfl, hs⟩ | hno
  · skip
    obtain ⟨z1, z2⟩ := hti j hj
    have so := cs_openOne (X := X) (d := d + 58) (J := J) (A := A) (n := n) (sl := sl) hC t3 t1 hj z1 z2 ((hsI j hj).trans hs)
    have hTj := t8 j hj
    obtain ⟨-, htn, hTx, -, c5, ⟨bb, c6, c6'⟩, cW, -⟩ := hTj
    have hbe : A 26 j ≤ nI la := by rw [c6']; exact (nle (by omega) (by omega)).mpr c6
    have sl_ := cs_isTooLate (X := X) (d := d + 55) (A := A) (n := n) (sl := sl) hC hH.2.1.1.1.1 hH.2.1.1.2.2.1 hTx
    rw [hlt hj] at sl_
    have hlen : (batA A j many la ie ixn 32).length ≤ 224 := bat_len hX.2.1
    have ecs : cs.length = many := by rw [hR.len, hH.2.1.2.1, List.length_map]
    have fno2 : (allN (fun k => decide (A 27 (32 * j + k) = 0)) 32 = true ∨ anyN (btP A j ky) many = true ∨ y < 0) → EvM X mX9_tear (d + 60) [rV (some 11), iV (nI j), iV y] (K, I, J, R, A, B, Ln, n, sl) (fun r2 G2 => r2 = some (iV (-1)) ∧ P G2) := fun hz => (sp_tear_no2 (d := d + 59) hM hR.1 (by omega) t4 t1 hj hs hky hz).mono (fun r G' ⟨h1, h2⟩ => ⟨h1, by rw [h2]; exact hP0 I A h0⟩)
    rcases i_nat y with hy | ⟨z, hzb, rfl⟩
    · have fin := fno2 (Or.inr (Or.inr hy))
      refine ev_aload_n dX8_tear_0 rfl ?_
      refine ev_iload_n dX8_tear_1 rfl ?_
      refine ev_callV dX8_tear_2 okX8_openOne inX8_openOne seX8_openOne mlX8_88 hC.m (by decide) rfl [iV _] rfl rfl (Nat.le_of_ble_eq_true rfl) (Nat.le_of_ble_eq_true rfl) (so) (fun r_ G_ h_ => ?_)
      obtain ⟨rfl, rfl⟩ := h_
      try dsimp only [Option.toList, List.cons_append, List.nil_append]
      refine ev_astore_nS dX8_tear_5 (by decide) rfl ?_
      refine ev_aload_n dX8_tear_6 rfl ?_
      refine ev_ifnull 29 dX8_tear_7 (by decide) (fun c7 => by cases c7) (fun x c7 => ?_)
      refine ev_iload_n dX8_tear_10 rfl ?_
      refine ev_if_lt 29 dX8_tear_11 (by decide) (fun c11 => ?_) (fun c11 => absurd hy c11)
      refine ev_iconst (-1) dX8_tear_29 (by decide) ?_
      refine ev_ireturn dX8_tear_30 rfl ?_
      refine ⟨by first | exact hM.1 | exact h_.1 | exact hM1.1 | exact (hq2.2.1 11 (by omega)).1.trans hM1.1 | exact (y2.2.1 11 (by omega)).1.trans hM.1 | exact (q1.2 11 (by omega)).1.trans hM.1 | exact (va_up_ne _ _ (by omega)).trans hM.1 | exact (va_up_ne _ _ (by omega)).trans ((va_up_ne _ _ (by omega)).trans ((va_up_ne _ _ (by omega)).trans hM.1)), ?_⟩
      exact fin
    · cases hrd : allN (fun k => decide (A 27 (32 * j + k) = 0)) 32 with
      | true =>
        rw [hrd] at cW
        have fin := fno2 (Or.inl hrd)
        refine ev_aload_n dX8_tear_0 rfl ?_
        refine ev_iload_n dX8_tear_1 rfl ?_
        refine ev_callV dX8_tear_2 okX8_openOne inX8_openOne seX8_openOne mlX8_88 hC.m (by decide) rfl [iV _] rfl rfl (Nat.le_of_ble_eq_true rfl) (Nat.le_of_ble_eq_true rfl) (so) (fun r_ G_ h_ => ?_)
        obtain ⟨rfl, rfl⟩ := h_
        try dsimp only [Option.toList, List.cons_append, List.nil_append]
        refine ev_astore_nS dX8_tear_5 (by decide) rfl ?_
        refine ev_aload_n dX8_tear_6 rfl ?_
        refine ev_ifnull 29 dX8_tear_7 (by decide) (fun c7 => by cases c7) (fun x c7 => ?_)
        refine ev_iload_n dX8_tear_10 rfl ?_
        refine ev_if_ltN 29 dX8_tear_11 (by decide) (by omega) ?_
        refine ev_aload_n dX8_tear_14 rfl ?_
        refine ev_getIv dX8_tear_15 fX8_141 z2 cW ?_
        refine ev_if_eq 29 dX8_tear_18 (by decide) (fun c18 => ?_) (fun c18 => absurd c18 (fun z => z rfl))
        refine ev_iconst (-1) dX8_tear_29 (by decide) ?_
        refine ev_ireturn dX8_tear_30 rfl ?_
        refine ⟨by first | exact hM.1 | exact h_.1 | exact hM1.1 | exact (hq2.2.1 11 (by omega)).1.trans hM1.1 | exact (y2.2.1 11 (by omega)).1.trans hM.1 | exact (q1.2 11 (by omega)).1.trans hM.1 | exact (va_up_ne _ _ (by omega)).trans hM.1 | exact (va_up_ne _ _ (by omega)).trans ((va_up_ne _ _ (by omega)).trans ((va_up_ne _ _ (by omega)).trans hM.1)), ?_⟩
        exact fin
      | false =>
        rw [hrd] at cW
        cases hbt_ : anyN (btP A j ky) many with
        | true =>
          rw [hbt_] at sl_
          have fin := fno2 (Or.inr (Or.inl hbt_))
          refine ev_aload_n dX8_tear_0 rfl ?_
          refine ev_iload_n dX8_tear_1 rfl ?_
          refine ev_callV dX8_tear_2 okX8_openOne inX8_openOne seX8_openOne mlX8_88 hC.m (by decide) rfl [iV _] rfl rfl (Nat.le_of_ble_eq_true rfl) (Nat.le_of_ble_eq_true rfl) (so) (fun r_ G_ h_ => ?_)
          obtain ⟨rfl, rfl⟩ := h_
          try dsimp only [Option.toList, List.cons_append, List.nil_append]
          refine ev_astore_nS dX8_tear_5 (by decide) rfl ?_
          refine ev_aload_n dX8_tear_6 rfl ?_
          refine ev_ifnull 29 dX8_tear_7 (by decide) (fun c7 => by cases c7) (fun x c7 => ?_)
          refine ev_iload_n dX8_tear_10 rfl ?_
          refine ev_if_ltN 29 dX8_tear_11 (by decide) (by omega) ?_
          refine ev_aload_n dX8_tear_14 rfl ?_
          refine ev_getIv dX8_tear_15 fX8_141 z2 cW ?_
          refine ev_if_eq 29 dX8_tear_18 (by decide) (fun c18 => absurd c18 (by decide)) (fun c18 => ?_)
          refine ev_aload_n dX8_tear_21 rfl ?_
          refine ev_aload_n dX8_tear_22 rfl ?_
          refine ev_callV dX8_tear_23 okX8_isTooLate inX8_isTooLate seX8_isTooLate mlX8_134 hC.m (by decide) rfl [rV _] rfl rfl (Nat.le_of_ble_eq_true rfl) (Nat.le_of_ble_eq_true rfl) (sl_) (fun r_ G_ h_ => ?_)
          obtain ⟨rfl, rfl⟩ := h_
          try dsimp only [Option.toList, List.cons_append, List.nil_append]
          refine ev_if_eq 31 dX8_tear_26 (by decide) (fun c26 => absurd c26 (by decide)) (fun c26 => ?_)
          refine ev_iconst (-1) dX8_tear_29 (by decide) ?_
          refine ev_ireturn dX8_tear_30 rfl ?_
          refine ⟨by first | exact hM.1 | exact h_.1 | exact hM1.1 | exact (hq2.2.1 11 (by omega)).1.trans hM1.1 | exact (y2.2.1 11 (by omega)).1.trans hM.1 | exact (q1.2 11 (by omega)).1.trans hM.1 | exact (va_up_ne _ _ (by omega)).trans hM.1 | exact (va_up_ne _ _ (by omega)).trans ((va_up_ne _ _ (by omega)).trans ((va_up_ne _ _ (by omega)).trans hM.1)), ?_⟩
          exact fin
        | false =>
          rw [hbt_] at sl_
          have sb := cs_batchSize (X := X) (d := d + 39) (A := A) (n := n) (sl := sl) hC hH.2.1.1.1.1 hH.2.1.1.2.2.1 (fun e he r hr => (hH.2.1.1.2.2.2 e he r hr).1) hTx hX t5
          rw [hbS hj] at sb
          have sh := cs_hasRoom (X := X) (d := d + 59) (J := J) (R := R) (A := A) (B := B) (Ln := Ln) (n := n) (sl := sl) (m := (batA A j many la ie ixn 32).length) hC.K_st hH.2.1.1.1.1.1 (by omega)
          rw [ecs] at sh
          by_cases hful : 500 < many + (batA A j many la ie ixn 32).length
          · rw [decide_eq_false (by omega)] at sh
            have fin : EvM X mX9_tear (d + 60) [rV (some 11), iV (nI j), iV (nI z)] (K, I, J, R, A, B, Ln, n, sl) (fun r2 G2 => r2 = some (iV (-1)) ∧ P G2) := (sp_tear_full (d := d + 56) hM hR.1 (by omega) (by omega) t6 x4 hX.2.1 hbe hxE hn1 (hn2 hj) t4 t1 hj hs hky hzb hbt_ hrd hful (by omega)).mono (fun r G' ⟨h1, I', A', h2, h3, h4, h5⟩ => ⟨h1, by rw [h2]; exact hP0 _ _ (h0.scr h3 h4 h5)⟩)
            refine ev_aload_n dX8_tear_0 rfl ?_
            refine ev_iload_n dX8_tear_1 rfl ?_
            refine ev_callV dX8_tear_2 okX8_openOne inX8_openOne seX8_openOne mlX8_88 hC.m (by decide) rfl [iV _] rfl rfl (Nat.le_of_ble_eq_true rfl) (Nat.le_of_ble_eq_true rfl) (so) (fun r_ G_ h_ => ?_)
            obtain ⟨rfl, rfl⟩ := h_
            try dsimp only [Option.toList, List.cons_append, List.nil_append]
            refine ev_astore_nS dX8_tear_5 (by decide) rfl ?_
            refine ev_aload_n dX8_tear_6 rfl ?_
            refine ev_ifnull 29 dX8_tear_7 (by decide) (fun c7 => by cases c7) (fun x c7 => ?_)
            refine ev_iload_n dX8_tear_10 rfl ?_
            refine ev_if_ltN 29 dX8_tear_11 (by decide) (by omega) ?_
            refine ev_aload_n dX8_tear_14 rfl ?_
            refine ev_getIv dX8_tear_15 fX8_141 z2 cW ?_
            refine ev_if_eq 29 dX8_tear_18 (by decide) (fun c18 => absurd c18 (by decide)) (fun c18 => ?_)
            refine ev_aload_n dX8_tear_21 rfl ?_
            refine ev_aload_n dX8_tear_22 rfl ?_
            refine ev_callV dX8_tear_23 okX8_isTooLate inX8_isTooLate seX8_isTooLate mlX8_134 hC.m (by decide) rfl [rV _] rfl rfl (Nat.le_of_ble_eq_true rfl) (Nat.le_of_ble_eq_true rfl) (sl_) (fun r_ G_ h_ => ?_)
            obtain ⟨rfl, rfl⟩ := h_
            try dsimp only [Option.toList, List.cons_append, List.nil_append]
            refine ev_if_eq 31 dX8_tear_26 (by decide) (fun c26 => ?_) (fun c26 => absurd c26 (fun z => z rfl))
            refine ev_aload_n dX8_tear_31 rfl ?_
            refine ev_aload_n dX8_tear_32 rfl ?_
            refine ev_callV dX8_tear_33 okX8_batchSize inX8_batchSize seX8_batchSize mlX8_145 hC.m (by decide) rfl [rV _] rfl rfl (Nat.le_of_ble_eq_true rfl) (Nat.le_of_ble_eq_true rfl) (sb) (fun r_ G_ h_ => ?_)
            obtain ⟨rfl, rfl⟩ := h_
            try dsimp only [Option.toList, List.cons_append, List.nil_append]
            refine ev_istoreS dX8_tear_36 (by decide) rfl ?_
            refine ev_aload_n dX8_tear_38 rfl ?_
            refine ev_getR dX8_tear_39 fX8_27 hC.m hC.R_st ?_
            refine ev_iload dX8_tear_42 rfl ?_
            refine ev_callV dX8_tear_44 okX6_hasRoomFor inX6_hasRoomFor seX6_hasRoomFor mlX8_149 hC.K_st (by decide) rfl [iV _] rfl rfl (Nat.le_of_ble_eq_true rfl) (Nat.le_of_ble_eq_true rfl) (sh) (fun r_ G_ h_ => ?_)
            obtain ⟨rfl, rfl⟩ := h_
            try dsimp only [Option.toList, List.cons_append, List.nil_append]
            refine ev_if_ne 52 dX8_tear_47 (by decide) (fun c47 => absurd c47 (fun z => z rfl)) (fun c47 => ?_)
            refine ev_iconst (-1) dX8_tear_50 (by decide) ?_
            refine ev_ireturn dX8_tear_51 rfl ?_
            refine ⟨by first | exact hM.1 | exact h_.1 | exact hM1.1 | exact (hq2.2.1 11 (by omega)).1.trans hM1.1 | exact (y2.2.1 11 (by omega)).1.trans hM.1 | exact (q1.2 11 (by omega)).1.trans hM.1 | exact (va_up_ne _ _ (by omega)).trans hM.1 | exact (va_up_ne _ _ (by omega)).trans ((va_up_ne _ _ (by omega)).trans ((va_up_ne _ _ (by omega)).trans hM.1)), ?_⟩
            exact fin
          · rw [decide_eq_true (by omega)] at sh
            by_cases hzl : z ≤ (batA A j many la ie ixn 32).length
            · have slo := cs_lose (X := X) (d := d + 58) (I := I) (J := J) (A := A) (n := n) (sl := sl) hC t3 t1 hti hinj
              have e : ∀ f, loI I ti tn f 11 = I f 11 := fun f => by
                unfold loI
                rw [if_neg (fun z => ?_)]
                obtain ⟨i, hi, hz⟩ := anyN_iff.mp z.2.2
                have := of_decide_eq_true hz
                have := (t8 i hi).2.1
                omega
              have fin : EvM X mX9_tear (d + 60) [rV (some 11), iV (nI j), iV (nI z)] (K, loI I ti tn, J, R, A, B, Ln, n, sl) (fun r2 G2 => r2 = some (iV 0) ∧ P G2) := (sp_tear_torn (d := d + 56) hM ((e _).trans hR.1) (by omega) (by omega) ((e _).trans t6) ((e _).trans x4) hX.2.1 hbe hxE hn1 (hn2 hj) ((e _).trans t4) t1 hj hs hky hzl hbt_ hrd hful).mono (fun r G' ⟨h1, I', A', h2, h3, h4, h5⟩ => ⟨h1, by
                have e' : I' = loI I ti tn := by
                  funext f i
                  by_cases z : f = 582 ∧ i = 11
                  · rw [z.1, z.2, h4, e, hR.1]
                  · exact h5 f i z
                rw [h2, e']
                exact hP0 _ _ (h0.scr (I' := I) h3 hR.1 (fun _ _ _ => rfl)).lose⟩)
              refine ev_aload_n dX8_tear_0 rfl ?_
              refine ev_iload_n dX8_tear_1 rfl ?_
              refine ev_callV dX8_tear_2 okX8_openOne inX8_openOne seX8_openOne mlX8_88 hC.m (by decide) rfl [iV _] rfl rfl (Nat.le_of_ble_eq_true rfl) (Nat.le_of_ble_eq_true rfl) (so) (fun r_ G_ h_ => ?_)
              obtain ⟨rfl, rfl⟩ := h_
              try dsimp only [Option.toList, List.cons_append, List.nil_append]
              refine ev_astore_nS dX8_tear_5 (by decide) rfl ?_
              refine ev_aload_n dX8_tear_6 rfl ?_
              refine ev_ifnull 29 dX8_tear_7 (by decide) (fun c7 => by cases c7) (fun x c7 => ?_)
              refine ev_iload_n dX8_tear_10 rfl ?_
              refine ev_if_ltN 29 dX8_tear_11 (by decide) (by omega) ?_
              refine ev_aload_n dX8_tear_14 rfl ?_
              refine ev_getIv dX8_tear_15 fX8_141 z2 cW ?_
              refine ev_if_eq 29 dX8_tear_18 (by decide) (fun c18 => absurd c18 (by decide)) (fun c18 => ?_)
              refine ev_aload_n dX8_tear_21 rfl ?_
              refine ev_aload_n dX8_tear_22 rfl ?_
              refine ev_callV dX8_tear_23 okX8_isTooLate inX8_isTooLate seX8_isTooLate mlX8_134 hC.m (by decide) rfl [rV _] rfl rfl (Nat.le_of_ble_eq_true rfl) (Nat.le_of_ble_eq_true rfl) (sl_) (fun r_ G_ h_ => ?_)
              obtain ⟨rfl, rfl⟩ := h_
              try dsimp only [Option.toList, List.cons_append, List.nil_append]
              refine ev_if_eq 31 dX8_tear_26 (by decide) (fun c26 => ?_) (fun c26 => absurd c26 (fun z => z rfl))
              refine ev_aload_n dX8_tear_31 rfl ?_
              refine ev_aload_n dX8_tear_32 rfl ?_
              refine ev_callV dX8_tear_33 okX8_batchSize inX8_batchSize seX8_batchSize mlX8_145 hC.m (by decide) rfl [rV _] rfl rfl (Nat.le_of_ble_eq_true rfl) (Nat.le_of_ble_eq_true rfl) (sb) (fun r_ G_ h_ => ?_)
              obtain ⟨rfl, rfl⟩ := h_
              try dsimp only [Option.toList, List.cons_append, List.nil_append]
              refine ev_istoreS dX8_tear_36 (by decide) rfl ?_
              refine ev_aload_n dX8_tear_38 rfl ?_
              refine ev_getR dX8_tear_39 fX8_27 hC.m hC.R_st ?_
              refine ev_iload dX8_tear_42 rfl ?_
              refine ev_callV dX8_tear_44 okX6_hasRoomFor inX6_hasRoomFor seX6_hasRoomFor mlX8_149 hC.K_st (by decide) rfl [iV _] rfl rfl (Nat.le_of_ble_eq_true rfl) (Nat.le_of_ble_eq_true rfl) (sh) (fun r_ G_ h_ => ?_)
              obtain ⟨rfl, rfl⟩ := h_
              try dsimp only [Option.toList, List.cons_append, List.nil_append]
              refine ev_if_ne 52 dX8_tear_47 (by decide) (fun c47 => ?_) (fun c47 => absurd c47 (by decide))
              refine ev_iload_n dX8_tear_52 rfl ?_
              refine ev_iload dX8_tear_53 rfl ?_
              refine ev_icmp_leN 62 dX8_tear_55 (by decide) (by omega) (by omega) (fun c55 => ?_) (fun c55 => absurd c55 (by omega))
              refine ev_iconstN 0 dX8_tear_62 (by decide) ?_
              refine ev_istoreS dX8_tear_63 (by decide) rfl ?_
              refine ev_iload dX8_tear_65 rfl ?_
              refine ev_if_eqN 75 dX8_tear_67 (by decide) (by omega) (fun c67 => ?_) (fun c67 => absurd c67 (by omega))
              refine ev_aload_n dX8_tear_75 rfl ?_
              refine ev_callV dX8_tear_76 okX8_loseOpenOnes inX8_loseOpenOnes seX8_loseOpenOnes mlX8_162 hC.m (by decide) rfl [] rfl rfl (Nat.le_of_ble_eq_true rfl) (Nat.le_of_ble_eq_true rfl) (slo) (fun r_ G_ h_ => ?_)
              obtain ⟨rfl, rfl⟩ := h_
              try dsimp only [Option.toList, List.cons_append, List.nil_append]
              refine ev_pop dX8_tear_79 rfl ?_
              refine ev_iload dX8_tear_80 rfl ?_
              refine ev_if_eqN 89 dX8_tear_82 (by decide) (by omega) (fun c82 => ?_) (fun c82 => absurd c82 (by omega))
              refine ev_iconstN 0 dX8_tear_89 (by decide) ?_
              refine ev_ireturn dX8_tear_90 rfl ?_
              refine ⟨by first | exact hM.1 | exact h_.1 | exact hM1.1 | exact (hq2.2.1 11 (by omega)).1.trans hM1.1 | exact (y2.2.1 11 (by omega)).1.trans hM.1 | exact (q1.2 11 (by omega)).1.trans hM.1 | exact (va_up_ne _ _ (by omega)).trans hM.1 | exact (va_up_ne _ _ (by omega)).trans ((va_up_ne _ _ (by omega)).trans ((va_up_ne _ _ (by omega)).trans hM.1)), ?_⟩
              exact fin
            · skip
              have st := cs_takeBatch (X := X) (d := d + 39) (sl0 := sl) hC hn hH.2.2.2.1 hX (by omega) hTx htn.1 htn.2 (hrk j hj) hH.2.1.1.2.2.2 (fun e he => (hH.2.1.1.1.2.2.2.1 e he).2) t5 (by rw [hbS hj]; omega) hH.2.1.1 hH.2.2.1 (fun e he => (hE.1 (entC I R e) (by rw [hH.2.1.2.1]; exact List.mem_map_of_mem he)).1)
              rw [hbS hj] at st
              have fin : ∀ (K1 : Nat → Nat) (I1 : Nat → Nat → Int32) (J1 : Nat → Nat → Int64) (R1 B1 : Nat → Nat → Option Nat) (n1 sl1 : Nat) (cs1 : List Nat), BtI K I J R B Ln n sl a m cs fs s.2.2 la A ((batA A j many la ie ixn 32).map nrmE) (NbP 32 0) K1 I1 J1 R1 B1 n1 sl1 cs1 → Ev X mX8_tear (d + 60) 75 [some (rV (some 3)), some (iV (nI j)), some (iV (nI z)), some (rV (some (ti j))), some (iV (nI (batA A j many la ie ixn 32).length)), some (iV (nI 1))] [] (K1, u2 (u2 I1 519 3 (nI (la + 1))) 449 (ti j) (nI 2), J1, R1, A, B1, Ln, n1, sl1) (fun r1 G1 => G1.1 11 = 9 ∧ EvM X mX9_tear (d + 60) [rV (some 11), iV (nI j), iV (nI z)] G1 (fun r2 G2 => r2 = r1 ∧ P G2)) := by
                intro K1 I1 J1 R1 B1 n1 sl1 cs1 hbt
                have hbt0 := hbt
                obtain ⟨-, b2, -, -, -, -, -, b8, b9⟩ := hbt0
                rw [List.length_map] at b8 b9
                obtain ⟨hHc, hE1⟩ := htk hj hbt
                have hF := b2.2
                have hnn := b2.1
                have k11 := hM.1
                have e11 : ∀ f, (u2 (u2 I1 519 3 (nI (la + 1))) 449 (ti j) (nI 2)) f 11 = I f 11 := fun f => by
                  rw [u2_ne2 (by omega), u2_ne2 (by omega)]; exact (hF 11 (by omega)).2.2.2.2.1 f (by omega)
                have e3 : ∀ f, f ≠ 519 → (u2 (u2 I1 519 3 (nI (la + 1))) 449 (ti j) (nI 2)) f 3 = I f 3 := fun f hf => by
                  rw [u2_ne2 (by omega), u2_ne1 hf]; exact (hF 3 (by omega)).2.2.2.2.1 f (by omega)
                have e519 : (u2 (u2 I1 519 3 (nI (la + 1))) 449 (ti j) (nI 2)) 519 3 = nI (la + 1) := by rw [u2_ne1 (by decide)]; exact u2_self
                have hC1 := hHc.1
                have hM1 : MFix K1 R1 Ln := hM.of (fun i hi => (hF i (by omega)).1) (fun _ _ => rfl) (fun f => (hF 11 (by omega)).2.2.2.1 f)
                have kt1 : K1 (ti j) = 7 := (hF _ (by omega)).1.trans z2
                have hv1 := hHc.2.1.valid (show s.2.2 < 2147483648 by omega)
                have hti1 : ∀ i, i < tn → B1 6 i = some (ti i) ∧ K1 (ti i) = 7 := fun i hi => by
                  have hz := (t8 i hi).2.1
                  exact ⟨by rw [(hF 6 (by omega)).2.2.2.2.2 (by decide)]; exact (hti i hi).1, (hF _ (by omega)).1.trans (hti i hi).2⟩
                have slo := cs_lose (X := X) (d := d + 58) (I := u2 (u2 I1 519 3 (nI (la + 1))) 449 (ti j) (nI 2)) (J := J1) (A := A) (n := n1) (sl := sl1) hC1 ((e3 _ (by decide)).trans t3) t1 hti1 hinj
                have elo : ∀ (I0 : Nat → Nat → Int32) f, loI I0 ti tn f 11 = I0 f 11 := fun I0 f => by
                  unfold loI
                  rw [if_neg (fun z => ?_)]
                  obtain ⟨i, hi, hz⟩ := anyN_iff.mp z.2.2
                  have := of_decide_eq_true hz
                  have := (t8 i hi).2.1
                  omega
                have e : ∀ f, loI (u2 (u2 I1 519 3 (nI (la + 1))) 449 (ti j) (nI 2)) ti tn f 11 = I f 11 := fun f => (elo _ f).trans (e11 f)
                have last : EvM X mX9_tear (d + 60) [rV (some 11), iV (nI j), iV (nI z)] (K1, loI (u2 (u2 I1 519 3 (nI (la + 1))) 449 (ti j) (nI 2)) ti tn, J1, R1, A, B1, Ln, n1, sl1) (fun r2 G2 => r2 = some (iV 1) ∧ P G2) := (sp_tear_whole (d := d + 55) hM1 ((e _).trans hR.1) (by omega) (by omega) ((e _).trans t6) ((e _).trans x4) hX.2.1 hbe hxE hn1 (hn2 hj) ((e _).trans t4) t1 hj hs hky hzb (by omega) hbt_ hrd hful).mono (fun r G' ⟨h1, I', A', h2, q1, q2, q3⟩ => ⟨h1, by
                  have hS := h0.took (I2 := (fun f i => if i = 11 then u2 I' 594 11 (nI (la + 1)) f i else (u2 (u2 I1 519 3 (nI (la + 1))) 449 (ti j) (nI 2)) f i)) (by omega) hj hs hbt q1 (fun f i hz => by
                    by_cases hi : i = 11
                    · subst hi
                      show (if 11 = 11 then u2 I' 594 11 (nI (la + 1)) f 11 else _) = _
                      rw [if_pos rfl, u2_ne1 (fun z => hz ⟨rfl, Or.inr z⟩), q3 f 11 (fun z => hz ⟨rfl, Or.inl z.1⟩)]
                      exact elo _ f
                    · show (if i = 11 then u2 I' 594 11 (nI (la + 1)) f i else _) = _
                      rw [if_neg hi]) (by show (if 11 = 11 then u2 I' 594 11 (nI (la + 1)) 582 11 else _) = _; rw [if_pos rfl, u2_ne1 (by decide)]; exact q2) (by show (if 11 = 11 then u2 I' 594 11 (nI (la + 1)) 594 11 else _) = _; rw [if_pos rfl]; exact u2_self)
                  have hlo : loI (fun f i => if i = 11 then u2 I' 594 11 (nI (la + 1)) f i else (u2 (u2 I1 519 3 (nI (la + 1))) 449 (ti j) (nI 2)) f i) ti tn = u2 I' 594 11 (nI (la + 1)) := by
                    funext f i
                    by_cases hi : i = 11
                    · subst hi
                      rw [elo]
                      show (if 11 = 11 then u2 I' 594 11 (nI (la + 1)) f 11 else _) = _
                      rw [if_pos rfl]
                    · rw [u2_ne2 hi, q3 f i (fun z => hi z.2)]
                      have ei : ∀ f, (fun f i => if i = 11 then u2 I' 594 11 (nI (la + 1)) f i else (u2 (u2 I1 519 3 (nI (la + 1))) 449 (ti j) (nI 2)) f i) f i = (u2 (u2 I1 519 3 (nI (la + 1))) 449 (ti j) (nI 2)) f i := fun f => by
                        show (if i = 11 then u2 I' 594 11 (nI (la + 1)) f i else _) = _
                        rw [if_neg hi]
                      unfold loI
                      rw [ei, ei]
                  rw [h2, ← hlo]
                  have hph : phT (cs1.map (entC I1 R1), s.2.1, s.2.2) ≤ phT s + 2210 := ph_took
                  exact hP K1 _ J1 R1 _ B1 Ln n1 sl1 a m cs1 fs _ _ hS.lose (by omega) (by omega) (Nat.le_refl _) (by show s.2.2 ≤ _; omega)⟩)
                refine ev_aload_n dX8_tear_75 rfl ?_
                refine ev_callV dX8_tear_76 okX8_loseOpenOnes inX8_loseOpenOnes seX8_loseOpenOnes mlX8_162 hC1.m (by decide) rfl [] rfl rfl (Nat.le_of_ble_eq_true rfl) (Nat.le_of_ble_eq_true rfl) (slo) (fun r_ G_ h_ => ?_)
                obtain ⟨rfl, rfl⟩ := h_
                try dsimp only [Option.toList, List.cons_append, List.nil_append]
                refine ev_pop dX8_tear_79 rfl ?_
                refine ev_iload dX8_tear_80 rfl ?_
                refine ev_if_eqN 89 dX8_tear_82 (by decide) (by omega) (fun c82 => absurd c82 (by decide)) (fun c82 => ?_)
                refine ev_iconstN 1 dX8_tear_85 (by decide) ?_
                refine ev_goto 90 dX8_tear_86 (by decide) ?_
                refine ev_ireturn dX8_tear_90 rfl ?_
                refine ⟨by first | exact hM.1 | exact h_.1 | exact hM1.1 | exact (hq2.2.1 11 (by omega)).1.trans hM1.1 | exact (y2.2.1 11 (by omega)).1.trans hM.1 | exact (q1.2 11 (by omega)).1.trans hM.1 | exact (va_up_ne _ _ (by omega)).trans hM.1 | exact (va_up_ne _ _ (by omega)).trans ((va_up_ne _ _ (by omega)).trans ((va_up_ne _ _ (by omega)).trans hM.1)), ?_⟩
                exact last
              refine ev_aload_n dX8_tear_0 rfl ?_
              refine ev_iload_n dX8_tear_1 rfl ?_
              refine ev_callV dX8_tear_2 okX8_openOne inX8_openOne seX8_openOne mlX8_88 hC.m (by decide) rfl [iV _] rfl rfl (Nat.le_of_ble_eq_true rfl) (Nat.le_of_ble_eq_true rfl) (so) (fun r_ G_ h_ => ?_)
              obtain ⟨rfl, rfl⟩ := h_
              try dsimp only [Option.toList, List.cons_append, List.nil_append]
              refine ev_astore_nS dX8_tear_5 (by decide) rfl ?_
              refine ev_aload_n dX8_tear_6 rfl ?_
              refine ev_ifnull 29 dX8_tear_7 (by decide) (fun c7 => by cases c7) (fun x c7 => ?_)
              refine ev_iload_n dX8_tear_10 rfl ?_
              refine ev_if_ltN 29 dX8_tear_11 (by decide) (by omega) ?_
              refine ev_aload_n dX8_tear_14 rfl ?_
              refine ev_getIv dX8_tear_15 fX8_141 z2 cW ?_
              refine ev_if_eq 29 dX8_tear_18 (by decide) (fun c18 => absurd c18 (by decide)) (fun c18 => ?_)
              refine ev_aload_n dX8_tear_21 rfl ?_
              refine ev_aload_n dX8_tear_22 rfl ?_
              refine ev_callV dX8_tear_23 okX8_isTooLate inX8_isTooLate seX8_isTooLate mlX8_134 hC.m (by decide) rfl [rV _] rfl rfl (Nat.le_of_ble_eq_true rfl) (Nat.le_of_ble_eq_true rfl) (sl_) (fun r_ G_ h_ => ?_)
              obtain ⟨rfl, rfl⟩ := h_
              try dsimp only [Option.toList, List.cons_append, List.nil_append]
              refine ev_if_eq 31 dX8_tear_26 (by decide) (fun c26 => ?_) (fun c26 => absurd c26 (fun z => z rfl))
              refine ev_aload_n dX8_tear_31 rfl ?_
              refine ev_aload_n dX8_tear_32 rfl ?_
              refine ev_callV dX8_tear_33 okX8_batchSize inX8_batchSize seX8_batchSize mlX8_145 hC.m (by decide) rfl [rV _] rfl rfl (Nat.le_of_ble_eq_true rfl) (Nat.le_of_ble_eq_true rfl) (sb) (fun r_ G_ h_ => ?_)
              obtain ⟨rfl, rfl⟩ := h_
              try dsimp only [Option.toList, List.cons_append, List.nil_append]
              refine ev_istoreS dX8_tear_36 (by decide) rfl ?_
              refine ev_aload_n dX8_tear_38 rfl ?_
              refine ev_getR dX8_tear_39 fX8_27 hC.m hC.R_st ?_
              refine ev_iload dX8_tear_42 rfl ?_
              refine ev_callV dX8_tear_44 okX6_hasRoomFor inX6_hasRoomFor seX6_hasRoomFor mlX8_149 hC.K_st (by decide) rfl [iV _] rfl rfl (Nat.le_of_ble_eq_true rfl) (Nat.le_of_ble_eq_true rfl) (sh) (fun r_ G_ h_ => ?_)
              obtain ⟨rfl, rfl⟩ := h_
              try dsimp only [Option.toList, List.cons_append, List.nil_append]
              refine ev_if_ne 52 dX8_tear_47 (by decide) (fun c47 => ?_) (fun c47 => absurd c47 (by decide))
              refine ev_iload_n dX8_tear_52 rfl ?_
              refine ev_iload dX8_tear_53 rfl ?_
              refine ev_icmp_leN 62 dX8_tear_55 (by decide) (by omega) (by omega) (fun c55 => absurd c55 (by omega)) (fun c55 => ?_)
              refine ev_iconstN 1 dX8_tear_58 (by decide) ?_
              refine ev_goto 63 dX8_tear_59 (by decide) ?_
              refine ev_istoreS dX8_tear_63 (by decide) rfl ?_
              refine ev_iload dX8_tear_65 rfl ?_
              refine ev_if_eqN 75 dX8_tear_67 (by decide) (by omega) (fun c67 => absurd c67 (by decide)) (fun c67 => ?_)
              refine ev_aload_n dX8_tear_70 rfl ?_
              refine ev_aload_n dX8_tear_71 rfl ?_
              refine ev_callV dX8_tear_72 okX8_takeBatch inX8_takeBatch seX8_takeBatch mlX8_152 hC.m (by decide) rfl [rV _] rfl rfl (Nat.le_of_ble_eq_true rfl) (Nat.le_of_ble_eq_true rfl) (st) (fun r_ G_ h_ => ?_)
              obtain ⟨rfl, K1, I1, J1, R1, B1, n1, sl1, cs1, hq_, rfl⟩ := h_
              try dsimp only [Option.toList, List.cons_append, List.nil_append]
              exact fin K1 I1 J1 R1 B1 n1 sl1 cs1 hq_
  · have so := cs_openOne_no (X := X) (d := d + 58) (J := J) (A := A) (n := n) (sl := sl) hC t3 t1 hti (t := x) (fun j hj z => by rw [hsI j hj]; exact hno j hj z)
    have fin : EvM X mX9_tear (d + 60) [rV (some 11), iV x, iV y] (K, I, J, R, A, B, Ln, n, sl) (fun r2 G2 => r2 = some (iV (-1)) ∧ P G2) := (sp_tear_no (d := d + 59) hM t4 t1 hno).mono (fun r G' ⟨h1, h2⟩ => ⟨h1, by rw [h2]; exact hP0 I A h0⟩)
    refine ev_aload_n dX8_tear_0 rfl ?_
    refine ev_iload_n dX8_tear_1 rfl ?_
    refine ev_callV dX8_tear_2 okX8_openOne inX8_openOne seX8_openOne mlX8_88 hC.m (by decide) rfl [iV _] rfl rfl (Nat.le_of_ble_eq_true rfl) (Nat.le_of_ble_eq_true rfl) (so) (fun r_ G_ h_ => ?_)
    obtain ⟨rfl, rfl⟩ := h_
    try dsimp only [Option.toList, List.cons_append, List.nil_append]
    refine ev_astore_nS dX8_tear_5 (by decide) rfl ?_
    refine ev_aload_n dX8_tear_6 rfl ?_
    refine ev_ifnull 29 dX8_tear_7 (by decide) (fun c7 => ?_) (fun x c7 => by cases c7)
    refine ev_iconst (-1) dX8_tear_29 (by decide) ?_
    refine ev_ireturn dX8_tear_30 rfl ?_
    refine ⟨by first | exact hM.1 | exact h_.1 | exact hM1.1 | exact (hq2.2.1 11 (by omega)).1.trans hM1.1 | exact (y2.2.1 11 (by omega)).1.trans hM.1 | exact (q1.2 11 (by omega)).1.trans hM.1 | exact (va_up_ne _ _ (by omega)).trans hM.1 | exact (va_up_ne _ _ (by omega)).trans ((va_up_ne _ _ (by omega)).trans ((va_up_ne _ _ (by omega)).trans hM.1)), ?_⟩
    exact fin
end C98U
