section C98G
variable {X : CX} {d : Nat} {K : Nat → Nat} {I : Nat → Nat → Int32} {J : Nat → Nat → Int64} {R : Nat → Nat → Option Nat} {A : Nat → Nat → Int32} {B : Nat → Nat → Option Nat} {Ln : Nat → Nat} {n sl : Nat} {a m : Nat} {cs fs : List Nat} {s : SA} {many tn la : Nat} {ti : Nat → Nat} {pn : Nat} {px : Nat → Nat} {pe : Nat → EX} {ixn : Nat} {ie : Nat → EX} {rn : Nat} {p : PP}
set_option maxRecDepth 100000 in
set_option maxHeartbeats 4000000 in
theorem SmT.A29 {A' : Nat → Nat → Int32} (h : SmT K I R A B Ln n tn la ti) (hA : ∀ i, i ≠ 29 → A' i = A i) : SmT K I R A' B Ln n tn la ti := by
  obtain ⟨t1, t3, t4, t5, t6, t7, t8, t9, t10, t11⟩ := h
  refine ⟨t1, t3, t4, t5, t6, t7, fun j hj => ?_, by rw [hA 25 (by decide)]; exact t9, fun i hi => by rw [hA 27 (by decide)]; exact t10 i hi, fun q hq => by rw [hA 27 (by decide)] at hq; rw [hA 28 (by decide)]; exact t11 q hq⟩
  obtain ⟨z1, z2, z3, z4, z5, z6, z7, z8⟩ := t8 j hj
  refine ⟨z1, z2, z3, by rw [hA 25 (by decide)]; exact z4, by rw [hA 26 (by decide)]; exact z5, by rw [hA 26 (by decide)]; exact z6, by rw [hA 27 (by decide)]; exact z7, fun k hk => ?_⟩
  have hw := z8 k hk
  unfold WrJ at hw ⊢
  rw [hA 27 (by decide), hA 28 (by decide), hA (ti j + 1) (by omega)]
  exact hw
theorem Sim.A29 {A' : Nat → Nat → Int32} (h : Sim K I J R A B Ln n a m cs fs s many tn la ti pn px pe ixn ie rn p) (hA : ∀ i, i ≠ 29 → A' i = A i) : Sim K I J R A' B Ln n a m cs fs s many tn la ti pn px pe ixn ie rn p := by
  have hH := h.1
  refine h.tx ⟨Nat.le_refl _, fun i hi => ⟨rfl, rfl, fun f => Or.inl rfl, fun _ _ _ _ => rfl, fun _ _ => rfl, fun _ => rfl⟩⟩ (fun _ _ => rfl) (fun _ _ => rfl) rfl ⟨rfl, rfl⟩ (fun i _ _ _ _ _ h29 _ => hA i h29) (fun i hi => ?_) hH.2.2.2.1 (h.2.2.2.1.A29 hA)
  obtain ⟨z1, z2, z3, z4, z5⟩ := hH.2.2.1 i hi
  have := hH.2.2.2.2
  exact ⟨z1, z2, z3, fun j => by rw [hA i (by omega)]; exact z4 j, z5⟩
set_option maxRecDepth 100000 in
set_option maxHeartbeats 4000000 in
theorem op_read (h : Sim K I J R A B Ln n a m cs fs s many tn la ti pn px pe ixn ie rn p) (hmd : s.2.2 < 2147483648) (x y w : Int32) {P : GH → Prop} (hP : ∀ A', Sim K I J R A' B Ln n a m cs fs s many tn la ti pn px pe ixn ie rn p → P (K, I, J, R, A', B, Ln, n, sl)) : EvM X mX8_read (d + 60) [rV (some 3), iV x, iV y, iV w] (K, I, J, R, A, B, Ln, n, sl) (fun r1 G1 => G1.1 11 = 9 ∧ EvM X mX9_read (d + 60) [rV (some 11), iV x, iV y, iV w] G1 (fun r2 G2 => r2 = r1 ∧ P G2)) := by
  obtain ⟨hm5, -, hv⟩ := h.vld hmd
  have hti := h.tis
  have h0 := h
  obtain ⟨hH, hM, hR, hT, -⟩ := h
  have hT0 := hT
  obtain ⟨⟨t1, t2⟩, t3, t4, t5, t6, t7, t8, t9, t10, t11⟩ := hT
  have hC := hH.1
  have hn := hH.2.2.2.2
  have hsI : ∀ j, j < tn → I 449 (ti j) = A 25 j := fun j hj => (t8 j hj).2.2.2.1
  have hrk : ∀ i, i < tn → ∀ q, q < 32 → ∀ r, B (ti i + 2) q = some r → r < n := fun i hi q hq r hr => by
    have := (t8 i hi).2.2.1.2.2.2.2.2.2.2 q hq r hr
    by_cases z : r < n
    · exact z
    · have := hH.2.2.2.1 r (by omega); omega
  show Ev X mX8_read (d + 60) 0 [some (rV (some 3)), some (iV x), some (iV y), some (iV w), none, none] [] (K, I, J, R, A, B, Ln, n, sl) _
  have sk := cs_isKey (X := X) (d := d + 59) (k := y) (G := (K, I, J, R, A, B, Ln, n, sl))
  have fno : ((∀ j, j < tn → x = nI j → ¬ A 25 j = 1) ∨ ¬ (0 ≤ y ∧ y ≤ 31) ∨ w < 0 ∨ 3 < w) → EvM X mX9_read (d + 60) [rV (some 11), iV x, iV y, iV w] (K, I, J, R, A, B, Ln, n, sl) (fun r2 G2 => r2 = some (iV (-1)) ∧ P G2) := fun hz => (sp_read_no (d := d + 59) hM t4 t1 hz).mono (fun r G' ⟨h1, h2⟩ => ⟨h1, by rw [h2]; exact hP A h0⟩)
  rcases open_cases A tn x with ⟨j, hj, rfl, hs⟩ | hno
  · obtain ⟨z1, z2⟩ := hti j hj
    have so := cs_openOne (X := X) (d := d + 58) (J := J) (A := A) (n := n) (sl := sl) hC t3 t1 hj z1 z2 ((hsI j hj).trans hs)
    rcases key_cases y with ⟨k, hk, rfl, hy⟩ | hy
    · rw [if_pos hy] at sk
      rcases pk_ix w (n := 4) (by decide) with hw | hw | ⟨f, hf, rfl⟩
      · have fno := fno (Or.inr (Or.inr (Or.inl hw)))
        refine ev_aload_n dX8_read_0 rfl ?_
        refine ev_iload_n dX8_read_1 rfl ?_
        refine ev_callV dX8_read_2 okX8_openOne inX8_openOne seX8_openOne mlX8_88 hC.m (by decide) rfl [iV _] rfl rfl (Nat.le_of_ble_eq_true rfl) (Nat.le_of_ble_eq_true rfl) (so) (fun r_ G_ h_ => ?_)
        obtain ⟨rfl, rfl⟩ := h_
        try dsimp only [Option.toList, List.cons_append, List.nil_append]
        refine ev_astoreS dX8_read_5 (by decide) rfl ?_
        refine ev_aload dX8_read_7 rfl ?_
        refine ev_ifnull 28 dX8_read_9 (by decide) (fun c9 => by cases c9) (fun x c9 => ?_)
        refine ev_iload_n dX8_read_12 rfl ?_
        refine ev_callS dX8_read_13 okX8_isKey stX8_isKey mlX8_92 [iV _] rfl rfl (Nat.le_of_ble_eq_true rfl) (Nat.le_of_ble_eq_true rfl) (sk) (fun r_ G_ h_ => ?_)
        obtain ⟨rfl, rfl⟩ := h_
        try dsimp only [Option.toList, List.cons_append, List.nil_append]
        refine ev_if_eq 28 dX8_read_16 (by decide) (fun c16 => absurd c16 (by decide)) (fun c16 => ?_)
        refine ev_iload_n dX8_read_19 rfl ?_
        refine ev_if_lt 28 dX8_read_20 (by decide) (fun c20 => ?_) (fun c20 => absurd hw c20)
        refine ev_iconst (-1) dX8_read_28 (by decide) ?_
        refine ev_ireturn dX8_read_29 rfl ?_
        refine ⟨by first | exact hM.1 | exact h_.1 | exact hM1.1 | exact (hq2.2.1 11 (by omega)).1.trans hM1.1 | exact (y2.2.1 11 (by omega)).1.trans hM.1 | exact (q1.2 11 (by omega)).1.trans hM.1 | exact (va_up_ne _ _ (by omega)).trans hM.1 | exact (va_up_ne _ _ (by omega)).trans ((va_up_ne _ _ (by omega)).trans ((va_up_ne _ _ (by omega)).trans hM.1)), ?_⟩
        exact fno
      · have hw3 : 3 < w := by rw [Int32.lt_iff_toInt_lt, show (3 : Int32).toInt = 3 by decide]; rw [Int32.le_iff_toInt_le, nI_toInt (by decide)] at hw; omega
        have hw0 : ¬ w < 0 := by rw [Int32.lt_iff_toInt_lt, show (0 : Int32).toInt = 0 by decide]; rw [Int32.le_iff_toInt_le, nI_toInt (by decide)] at hw; omega
        have fno := fno (Or.inr (Or.inr (Or.inr hw3)))
        refine ev_aload_n dX8_read_0 rfl ?_
        refine ev_iload_n dX8_read_1 rfl ?_
        refine ev_callV dX8_read_2 okX8_openOne inX8_openOne seX8_openOne mlX8_88 hC.m (by decide) rfl [iV _] rfl rfl (Nat.le_of_ble_eq_true rfl) (Nat.le_of_ble_eq_true rfl) (so) (fun r_ G_ h_ => ?_)
        obtain ⟨rfl, rfl⟩ := h_
        try dsimp only [Option.toList, List.cons_append, List.nil_append]
        refine ev_astoreS dX8_read_5 (by decide) rfl ?_
        refine ev_aload dX8_read_7 rfl ?_
        refine ev_ifnull 28 dX8_read_9 (by decide) (fun c9 => by cases c9) (fun x c9 => ?_)
        refine ev_iload_n dX8_read_12 rfl ?_
        refine ev_callS dX8_read_13 okX8_isKey stX8_isKey mlX8_92 [iV _] rfl rfl (Nat.le_of_ble_eq_true rfl) (Nat.le_of_ble_eq_true rfl) (sk) (fun r_ G_ h_ => ?_)
        obtain ⟨rfl, rfl⟩ := h_
        try dsimp only [Option.toList, List.cons_append, List.nil_append]
        refine ev_if_eq 28 dX8_read_16 (by decide) (fun c16 => absurd c16 (by decide)) (fun c16 => ?_)
        refine ev_iload_n dX8_read_19 rfl ?_
        refine ev_if_lt 28 dX8_read_20 (by decide) (fun c20 => absurd c20 hw0) (fun c20 => ?_)
        refine ev_iload_n dX8_read_23 rfl ?_
        refine ev_iconstN 3 dX8_read_24 (by decide) ?_
        refine ev_icmp_le (y := 3) 30 dX8_read_25 (by decide) (fun c25 => absurd c25 (Int32.not_le.mpr hw3)) (fun c25 => ?_)
        refine ev_iconst (-1) dX8_read_28 (by decide) ?_
        refine ev_ireturn dX8_read_29 rfl ?_
        refine ⟨by first | exact hM.1 | exact h_.1 | exact hM1.1 | exact (hq2.2.1 11 (by omega)).1.trans hM1.1 | exact (y2.2.1 11 (by omega)).1.trans hM.1 | exact (q1.2 11 (by omega)).1.trans hM.1 | exact (va_up_ne _ _ (by omega)).trans hM.1 | exact (va_up_ne _ _ (by omega)).trans ((va_up_ne _ _ (by omega)).trans ((va_up_ne _ _ (by omega)).trans hM.1)), ?_⟩
        exact fno
      · obtain ⟨q1, q2⟩ := row_for hH.2.1 hR hv hk (t8 j hj)
        have fin := (sp_read_yes (X := X) (d := d + 57) (J := J) (B := B) (n := n) (sl := sl) hM t4 t1 hR.1 (by omega) hj hs hk hf).mono (Q' := fun r2 G2 => r2 = some (iV (if f = 3 then bZ (rfC I J R A B cs (ti j) k).isSome else rwO I (rfC I J R A B cs (ti j) k) f)) ∧ P G2) (fun r G' ⟨A', e1, e2, e3⟩ => ⟨by
          rw [e2, q1]
          by_cases hf3 : f = 3
          · rw [if_pos hf3, if_pos hf3]
          · rw [if_neg hf3, if_neg hf3, q2 f (by omega)], by rw [e1]; exact hP A' (h0.A29 e3)⟩)
        have sr := cs_rowFor (X := X) (d := d + 55) (A := A) (n := n) (sl := sl) hC hH.2.1.1.1.1 hH.2.1.1.2.2.1 (t8 j hj).2.2.1 hk
        cases hr : rfC I J R A B cs (ti j) k with
        | none =>
          rw [hr] at fin sr
          have efin : (if f = 3 then bZ (none : Option Nat).isSome else rwO I none f) = 0 := by split <;> rfl
          rw [efin] at fin
          refine ev_aload_n dX8_read_0 rfl ?_
          refine ev_iload_n dX8_read_1 rfl ?_
          refine ev_callV dX8_read_2 okX8_openOne inX8_openOne seX8_openOne mlX8_88 hC.m (by decide) rfl [iV _] rfl rfl (Nat.le_of_ble_eq_true rfl) (Nat.le_of_ble_eq_true rfl) (so) (fun r_ G_ h_ => ?_)
          obtain ⟨rfl, rfl⟩ := h_
          try dsimp only [Option.toList, List.cons_append, List.nil_append]
          refine ev_astoreS dX8_read_5 (by decide) rfl ?_
          refine ev_aload dX8_read_7 rfl ?_
          refine ev_ifnull 28 dX8_read_9 (by decide) (fun c9 => by cases c9) (fun x c9 => ?_)
          refine ev_iload_n dX8_read_12 rfl ?_
          refine ev_callS dX8_read_13 okX8_isKey stX8_isKey mlX8_92 [iV _] rfl rfl (Nat.le_of_ble_eq_true rfl) (Nat.le_of_ble_eq_true rfl) (sk) (fun r_ G_ h_ => ?_)
          obtain ⟨rfl, rfl⟩ := h_
          try dsimp only [Option.toList, List.cons_append, List.nil_append]
          refine ev_if_eq 28 dX8_read_16 (by decide) (fun c16 => absurd c16 (by decide)) (fun c16 => ?_)
          refine ev_iload_n dX8_read_19 rfl ?_
          refine ev_if_ltN 28 dX8_read_20 (by decide) (by omega) ?_
          refine ev_iload_n dX8_read_23 rfl ?_
          refine ev_iconstN 3 dX8_read_24 (by decide) ?_
          refine ev_icmp_leN 30 dX8_read_25 (by decide) (by omega) (by omega) (fun c25 => ?_) (fun c25 => absurd c25 (by omega))
          refine ev_aload_n dX8_read_30 rfl ?_
          refine ev_aload dX8_read_31 rfl ?_
          refine ev_iload_n dX8_read_33 rfl ?_
          refine ev_callV dX8_read_34 okX8_rowFor inX8_rowFor seX8_rowFor mlX8_95 hC.m (by decide) rfl [rV _, iV _] rfl rfl (Nat.le_of_ble_eq_true rfl) (Nat.le_of_ble_eq_true rfl) (sr) (fun r_ G_ h_ => ?_)
          obtain ⟨rfl, rfl⟩ := h_
          try dsimp only [Option.toList, List.cons_append, List.nil_append]
          refine ev_astoreS dX8_read_37 (by decide) rfl ?_
          refine ev_aload dX8_read_39 rfl ?_
          refine ev_ifnonnull 46 dX8_read_41 (by decide) (fun x c41 => by cases c41) (fun c41 => ?_)
          refine ev_iconstN 0 dX8_read_44 (by decide) ?_
          refine ev_ireturn dX8_read_45 rfl ?_
          refine ⟨by first | exact hM.1 | exact h_.1 | exact hM1.1 | exact (hq2.2.1 11 (by omega)).1.trans hM1.1 | exact (y2.2.1 11 (by omega)).1.trans hM.1 | exact (q1.2 11 (by omega)).1.trans hM.1 | exact (va_up_ne _ _ (by omega)).trans hM.1 | exact (va_up_ne _ _ (by omega)).trans ((va_up_ne _ _ (by omega)).trans ((va_up_ne _ _ (by omega)).trans hM.1)), ?_⟩
          exact fin
        | some r =>
          rw [hr] at fin sr
          have hKr : K r = 3 := by
            unfold rfC at hr
            by_cases hz : A (ti j + 1) k = 0
            · rw [if_pos hz] at hr
              exact raC_K (fun e he r hr => (hH.2.1.1.2.2.2 e he r hr).1) hr
            · rw [if_neg hz] at hr; exact (t8 j hj).2.2.1.2.2.2.2.2.2.2 k hk r hr
          obtain rfl | rfl | rfl | rfl : f = 0 ∨ f = 1 ∨ f = 2 ∨ f = 3 := by omega
          · skip
            refine ev_aload_n dX8_read_0 rfl ?_
            refine ev_iload_n dX8_read_1 rfl ?_
            refine ev_callV dX8_read_2 okX8_openOne inX8_openOne seX8_openOne mlX8_88 hC.m (by decide) rfl [iV _] rfl rfl (Nat.le_of_ble_eq_true rfl) (Nat.le_of_ble_eq_true rfl) (so) (fun r_ G_ h_ => ?_)
            obtain ⟨rfl, rfl⟩ := h_
            try dsimp only [Option.toList, List.cons_append, List.nil_append]
            refine ev_astoreS dX8_read_5 (by decide) rfl ?_
            refine ev_aload dX8_read_7 rfl ?_
            refine ev_ifnull 28 dX8_read_9 (by decide) (fun c9 => by cases c9) (fun x c9 => ?_)
            refine ev_iload_n dX8_read_12 rfl ?_
            refine ev_callS dX8_read_13 okX8_isKey stX8_isKey mlX8_92 [iV _] rfl rfl (Nat.le_of_ble_eq_true rfl) (Nat.le_of_ble_eq_true rfl) (sk) (fun r_ G_ h_ => ?_)
            obtain ⟨rfl, rfl⟩ := h_
            try dsimp only [Option.toList, List.cons_append, List.nil_append]
            refine ev_if_eq 28 dX8_read_16 (by decide) (fun c16 => absurd c16 (by decide)) (fun c16 => ?_)
            refine ev_iload_n dX8_read_19 rfl ?_
            refine ev_if_ltN 28 dX8_read_20 (by decide) (by omega) ?_
            refine ev_iload_n dX8_read_23 rfl ?_
            refine ev_iconstN 3 dX8_read_24 (by decide) ?_
            refine ev_icmp_leN 30 dX8_read_25 (by decide) (by omega) (by omega) (fun c25 => ?_) (fun c25 => absurd c25 (by decide))
            refine ev_aload_n dX8_read_30 rfl ?_
            refine ev_aload dX8_read_31 rfl ?_
            refine ev_iload_n dX8_read_33 rfl ?_
            refine ev_callV dX8_read_34 okX8_rowFor inX8_rowFor seX8_rowFor mlX8_95 hC.m (by decide) rfl [rV _, iV _] rfl rfl (Nat.le_of_ble_eq_true rfl) (Nat.le_of_ble_eq_true rfl) (sr) (fun r_ G_ h_ => ?_)
            obtain ⟨rfl, rfl⟩ := h_
            try dsimp only [Option.toList, List.cons_append, List.nil_append]
            refine ev_astoreS dX8_read_37 (by decide) rfl ?_
            refine ev_aload dX8_read_39 rfl ?_
            refine ev_ifnonnull 46 dX8_read_41 (by decide) (fun x c41 => ?_) (fun c41 => by cases c41)
            refine ev_iload_n dX8_read_46 rfl ?_
            refine ev_tswIn (x := 0) 72 dX8_read_47 (by decide) (by decide) rfl (by decide) ?_
            refine ev_aload dX8_read_72 rfl ?_
            refine ev_getI dX8_read_74 fX8_99 hKr ?_
            refine ev_ireturn dX8_read_77 rfl ?_
            refine ⟨by first | exact hM.1 | exact h_.1 | exact hM1.1 | exact (hq2.2.1 11 (by omega)).1.trans hM1.1 | exact (y2.2.1 11 (by omega)).1.trans hM.1 | exact (q1.2 11 (by omega)).1.trans hM.1 | exact (va_up_ne _ _ (by omega)).trans hM.1 | exact (va_up_ne _ _ (by omega)).trans ((va_up_ne _ _ (by omega)).trans ((va_up_ne _ _ (by omega)).trans hM.1)), ?_⟩
            exact fin
          · skip
            refine ev_aload_n dX8_read_0 rfl ?_
            refine ev_iload_n dX8_read_1 rfl ?_
            refine ev_callV dX8_read_2 okX8_openOne inX8_openOne seX8_openOne mlX8_88 hC.m (by decide) rfl [iV _] rfl rfl (Nat.le_of_ble_eq_true rfl) (Nat.le_of_ble_eq_true rfl) (so) (fun r_ G_ h_ => ?_)
            obtain ⟨rfl, rfl⟩ := h_
            try dsimp only [Option.toList, List.cons_append, List.nil_append]
            refine ev_astoreS dX8_read_5 (by decide) rfl ?_
            refine ev_aload dX8_read_7 rfl ?_
            refine ev_ifnull 28 dX8_read_9 (by decide) (fun c9 => by cases c9) (fun x c9 => ?_)
            refine ev_iload_n dX8_read_12 rfl ?_
            refine ev_callS dX8_read_13 okX8_isKey stX8_isKey mlX8_92 [iV _] rfl rfl (Nat.le_of_ble_eq_true rfl) (Nat.le_of_ble_eq_true rfl) (sk) (fun r_ G_ h_ => ?_)
            obtain ⟨rfl, rfl⟩ := h_
            try dsimp only [Option.toList, List.cons_append, List.nil_append]
            refine ev_if_eq 28 dX8_read_16 (by decide) (fun c16 => absurd c16 (by decide)) (fun c16 => ?_)
            refine ev_iload_n dX8_read_19 rfl ?_
            refine ev_if_ltN 28 dX8_read_20 (by decide) (by omega) ?_
            refine ev_iload_n dX8_read_23 rfl ?_
            refine ev_iconstN 3 dX8_read_24 (by decide) ?_
            refine ev_icmp_leN 30 dX8_read_25 (by decide) (by omega) (by omega) (fun c25 => ?_) (fun c25 => absurd c25 (by decide))
            refine ev_aload_n dX8_read_30 rfl ?_
            refine ev_aload dX8_read_31 rfl ?_
            refine ev_iload_n dX8_read_33 rfl ?_
            refine ev_callV dX8_read_34 okX8_rowFor inX8_rowFor seX8_rowFor mlX8_95 hC.m (by decide) rfl [rV _, iV _] rfl rfl (Nat.le_of_ble_eq_true rfl) (Nat.le_of_ble_eq_true rfl) (sr) (fun r_ G_ h_ => ?_)
            obtain ⟨rfl, rfl⟩ := h_
            try dsimp only [Option.toList, List.cons_append, List.nil_append]
            refine ev_astoreS dX8_read_37 (by decide) rfl ?_
            refine ev_aload dX8_read_39 rfl ?_
            refine ev_ifnonnull 46 dX8_read_41 (by decide) (fun x c41 => ?_) (fun c41 => by cases c41)
            refine ev_iload_n dX8_read_46 rfl ?_
            refine ev_tswIn (x := 1) 78 dX8_read_47 (by decide) (by decide) rfl (by decide) ?_
            refine ev_aload dX8_read_78 rfl ?_
            refine ev_getI dX8_read_80 fX8_104 hKr ?_
            refine ev_ireturn dX8_read_83 rfl ?_
            refine ⟨by first | exact hM.1 | exact h_.1 | exact hM1.1 | exact (hq2.2.1 11 (by omega)).1.trans hM1.1 | exact (y2.2.1 11 (by omega)).1.trans hM.1 | exact (q1.2 11 (by omega)).1.trans hM.1 | exact (va_up_ne _ _ (by omega)).trans hM.1 | exact (va_up_ne _ _ (by omega)).trans ((va_up_ne _ _ (by omega)).trans ((va_up_ne _ _ (by omega)).trans hM.1)), ?_⟩
            exact fin
          · skip
            refine ev_aload_n dX8_read_0 rfl ?_
            refine ev_iload_n dX8_read_1 rfl ?_
            refine ev_callV dX8_read_2 okX8_openOne inX8_openOne seX8_openOne mlX8_88 hC.m (by decide) rfl [iV _] rfl rfl (Nat.le_of_ble_eq_true rfl) (Nat.le_of_ble_eq_true rfl) (so) (fun r_ G_ h_ => ?_)
            obtain ⟨rfl, rfl⟩ := h_
            try dsimp only [Option.toList, List.cons_append, List.nil_append]
            refine ev_astoreS dX8_read_5 (by decide) rfl ?_
            refine ev_aload dX8_read_7 rfl ?_
            refine ev_ifnull 28 dX8_read_9 (by decide) (fun c9 => by cases c9) (fun x c9 => ?_)
            refine ev_iload_n dX8_read_12 rfl ?_
            refine ev_callS dX8_read_13 okX8_isKey stX8_isKey mlX8_92 [iV _] rfl rfl (Nat.le_of_ble_eq_true rfl) (Nat.le_of_ble_eq_true rfl) (sk) (fun r_ G_ h_ => ?_)
            obtain ⟨rfl, rfl⟩ := h_
            try dsimp only [Option.toList, List.cons_append, List.nil_append]
            refine ev_if_eq 28 dX8_read_16 (by decide) (fun c16 => absurd c16 (by decide)) (fun c16 => ?_)
            refine ev_iload_n dX8_read_19 rfl ?_
            refine ev_if_ltN 28 dX8_read_20 (by decide) (by omega) ?_
            refine ev_iload_n dX8_read_23 rfl ?_
            refine ev_iconstN 3 dX8_read_24 (by decide) ?_
            refine ev_icmp_leN 30 dX8_read_25 (by decide) (by omega) (by omega) (fun c25 => ?_) (fun c25 => absurd c25 (by decide))
            refine ev_aload_n dX8_read_30 rfl ?_
            refine ev_aload dX8_read_31 rfl ?_
            refine ev_iload_n dX8_read_33 rfl ?_
            refine ev_callV dX8_read_34 okX8_rowFor inX8_rowFor seX8_rowFor mlX8_95 hC.m (by decide) rfl [rV _, iV _] rfl rfl (Nat.le_of_ble_eq_true rfl) (Nat.le_of_ble_eq_true rfl) (sr) (fun r_ G_ h_ => ?_)
            obtain ⟨rfl, rfl⟩ := h_
            try dsimp only [Option.toList, List.cons_append, List.nil_append]
            refine ev_astoreS dX8_read_37 (by decide) rfl ?_
            refine ev_aload dX8_read_39 rfl ?_
            refine ev_ifnonnull 46 dX8_read_41 (by decide) (fun x c41 => ?_) (fun c41 => by cases c41)
            refine ev_iload_n dX8_read_46 rfl ?_
            refine ev_tswIn (x := 2) 84 dX8_read_47 (by decide) (by decide) rfl (by decide) ?_
            refine ev_aload dX8_read_84 rfl ?_
            refine ev_getI dX8_read_86 fX8_107 hKr ?_
            refine ev_ireturn dX8_read_89 rfl ?_
            refine ⟨by first | exact hM.1 | exact h_.1 | exact hM1.1 | exact (hq2.2.1 11 (by omega)).1.trans hM1.1 | exact (y2.2.1 11 (by omega)).1.trans hM.1 | exact (q1.2 11 (by omega)).1.trans hM.1 | exact (va_up_ne _ _ (by omega)).trans hM.1 | exact (va_up_ne _ _ (by omega)).trans ((va_up_ne _ _ (by omega)).trans ((va_up_ne _ _ (by omega)).trans hM.1)), ?_⟩
            exact fin
          · skip
            refine ev_aload_n dX8_read_0 rfl ?_
            refine ev_iload_n dX8_read_1 rfl ?_
            refine ev_callV dX8_read_2 okX8_openOne inX8_openOne seX8_openOne mlX8_88 hC.m (by decide) rfl [iV _] rfl rfl (Nat.le_of_ble_eq_true rfl) (Nat.le_of_ble_eq_true rfl) (so) (fun r_ G_ h_ => ?_)
            obtain ⟨rfl, rfl⟩ := h_
            try dsimp only [Option.toList, List.cons_append, List.nil_append]
            refine ev_astoreS dX8_read_5 (by decide) rfl ?_
            refine ev_aload dX8_read_7 rfl ?_
            refine ev_ifnull 28 dX8_read_9 (by decide) (fun c9 => by cases c9) (fun x c9 => ?_)
            refine ev_iload_n dX8_read_12 rfl ?_
            refine ev_callS dX8_read_13 okX8_isKey stX8_isKey mlX8_92 [iV _] rfl rfl (Nat.le_of_ble_eq_true rfl) (Nat.le_of_ble_eq_true rfl) (sk) (fun r_ G_ h_ => ?_)
            obtain ⟨rfl, rfl⟩ := h_
            try dsimp only [Option.toList, List.cons_append, List.nil_append]
            refine ev_if_eq 28 dX8_read_16 (by decide) (fun c16 => absurd c16 (by decide)) (fun c16 => ?_)
            refine ev_iload_n dX8_read_19 rfl ?_
            refine ev_if_ltN 28 dX8_read_20 (by decide) (by omega) ?_
            refine ev_iload_n dX8_read_23 rfl ?_
            refine ev_iconstN 3 dX8_read_24 (by decide) ?_
            refine ev_icmp_leN 30 dX8_read_25 (by decide) (by omega) (by omega) (fun c25 => ?_) (fun c25 => absurd c25 (by decide))
            refine ev_aload_n dX8_read_30 rfl ?_
            refine ev_aload dX8_read_31 rfl ?_
            refine ev_iload_n dX8_read_33 rfl ?_
            refine ev_callV dX8_read_34 okX8_rowFor inX8_rowFor seX8_rowFor mlX8_95 hC.m (by decide) rfl [rV _, iV _] rfl rfl (Nat.le_of_ble_eq_true rfl) (Nat.le_of_ble_eq_true rfl) (sr) (fun r_ G_ h_ => ?_)
            obtain ⟨rfl, rfl⟩ := h_
            try dsimp only [Option.toList, List.cons_append, List.nil_append]
            refine ev_astoreS dX8_read_37 (by decide) rfl ?_
            refine ev_aload dX8_read_39 rfl ?_
            refine ev_ifnonnull 46 dX8_read_41 (by decide) (fun x c41 => ?_) (fun c41 => by cases c41)
            refine ev_iload_n dX8_read_46 rfl ?_
            refine ev_tswOut 90 dX8_read_47 (Or.inr (by decide)) (by decide) ?_
            refine ev_iconstN 1 dX8_read_90 (by decide) ?_
            refine ev_ireturn dX8_read_91 rfl ?_
            refine ⟨by first | exact hM.1 | exact h_.1 | exact hM1.1 | exact (hq2.2.1 11 (by omega)).1.trans hM1.1 | exact (y2.2.1 11 (by omega)).1.trans hM.1 | exact (q1.2 11 (by omega)).1.trans hM.1 | exact (va_up_ne _ _ (by omega)).trans hM.1 | exact (va_up_ne _ _ (by omega)).trans ((va_up_ne _ _ (by omega)).trans ((va_up_ne _ _ (by omega)).trans hM.1)), ?_⟩
            exact fin
    · rw [if_neg hy] at sk
      have fno := fno (Or.inr (Or.inl hy))
      refine ev_aload_n dX8_read_0 rfl ?_
      refine ev_iload_n dX8_read_1 rfl ?_
      refine ev_callV dX8_read_2 okX8_openOne inX8_openOne seX8_openOne mlX8_88 hC.m (by decide) rfl [iV _] rfl rfl (Nat.le_of_ble_eq_true rfl) (Nat.le_of_ble_eq_true rfl) (so) (fun r_ G_ h_ => ?_)
      obtain ⟨rfl, rfl⟩ := h_
      try dsimp only [Option.toList, List.cons_append, List.nil_append]
      refine ev_astoreS dX8_read_5 (by decide) rfl ?_
      refine ev_aload dX8_read_7 rfl ?_
      refine ev_ifnull 28 dX8_read_9 (by decide) (fun c9 => by cases c9) (fun x c9 => ?_)
      refine ev_iload_n dX8_read_12 rfl ?_
      refine ev_callS dX8_read_13 okX8_isKey stX8_isKey mlX8_92 [iV _] rfl rfl (Nat.le_of_ble_eq_true rfl) (Nat.le_of_ble_eq_true rfl) (sk) (fun r_ G_ h_ => ?_)
      obtain ⟨rfl, rfl⟩ := h_
      try dsimp only [Option.toList, List.cons_append, List.nil_append]
      refine ev_if_eq 28 dX8_read_16 (by decide) (fun c16 => ?_) (fun c16 => absurd c16 (fun z => z rfl))
      refine ev_iconst (-1) dX8_read_28 (by decide) ?_
      refine ev_ireturn dX8_read_29 rfl ?_
      refine ⟨by first | exact hM.1 | exact h_.1 | exact hM1.1 | exact (hq2.2.1 11 (by omega)).1.trans hM1.1 | exact (y2.2.1 11 (by omega)).1.trans hM.1 | exact (q1.2 11 (by omega)).1.trans hM.1 | exact (va_up_ne _ _ (by omega)).trans hM.1 | exact (va_up_ne _ _ (by omega)).trans ((va_up_ne _ _ (by omega)).trans ((va_up_ne _ _ (by omega)).trans hM.1)), ?_⟩
      exact fno
  · have so := cs_openOne_no (X := X) (d := d + 58) (J := J) (A := A) (n := n) (sl := sl) hC t3 t1 hti (t := x) (fun j hj z => by rw [hsI j hj]; exact hno j hj z)
    have fno := fno (Or.inl hno)
    refine ev_aload_n dX8_read_0 rfl ?_
    refine ev_iload_n dX8_read_1 rfl ?_
    refine ev_callV dX8_read_2 okX8_openOne inX8_openOne seX8_openOne mlX8_88 hC.m (by decide) rfl [iV _] rfl rfl (Nat.le_of_ble_eq_true rfl) (Nat.le_of_ble_eq_true rfl) (so) (fun r_ G_ h_ => ?_)
    obtain ⟨rfl, rfl⟩ := h_
    try dsimp only [Option.toList, List.cons_append, List.nil_append]
    refine ev_astoreS dX8_read_5 (by decide) rfl ?_
    refine ev_aload dX8_read_7 rfl ?_
    refine ev_ifnull 28 dX8_read_9 (by decide) (fun c9 => ?_) (fun x c9 => by cases c9)
    refine ev_iconst (-1) dX8_read_28 (by decide) ?_
    refine ev_ireturn dX8_read_29 rfl ?_
    refine ⟨by first | exact hM.1 | exact h_.1 | exact hM1.1 | exact (hq2.2.1 11 (by omega)).1.trans hM1.1 | exact (y2.2.1 11 (by omega)).1.trans hM.1 | exact (q1.2 11 (by omega)).1.trans hM.1 | exact (va_up_ne _ _ (by omega)).trans hM.1 | exact (va_up_ne _ _ (by omega)).trans ((va_up_ne _ _ (by omega)).trans ((va_up_ne _ _ (by omega)).trans hM.1)), ?_⟩
    exact fno
set_option maxRecDepth 100000 in
set_option maxHeartbeats 4000000 in
theorem op_begin (h : Sim K I J R A B Ln n a m cs fs s many tn la ti pn px pe ixn ie rn p) {P : GH → Prop} (hP0 : P (K, I, J, R, A, B, Ln, n, sl)) (hP : ∀ K' I' R' A' B' Ln' ti', Sim K' I' J R' A' B' Ln' (n + 3) a m cs fs s many (tn + 1) la ti' pn px pe ixn ie rn p → P (K', I', J, R', A', B', Ln', n + 3, sl + 69)) : EvM X mX8_begin (d + 60) [rV (some 3)] (K, I, J, R, A, B, Ln, n, sl) (fun r1 G1 => G1.1 11 = 9 ∧ EvM X mX9_begin (d + 60) [rV (some 11)] G1 (fun r2 G2 => r2 = r1 ∧ P G2)) := by
  have hti := h.tis
  have h0 := h
  obtain ⟨hH, hM, hR, hT, -⟩ := h
  have hT0 := hT
  obtain ⟨⟨t1, t2⟩, t3, t4, t5, t6, t7, t8, t9, t10, t11⟩ := hT
  have hC := hH.1
  have hn := hH.2.2.2.2
  have hsI : ∀ j, j < tn → I 449 (ti j) = A 25 j := fun j hj => (t8 j hj).2.2.2.1
  have hrk : ∀ i, i < tn → ∀ q, q < 32 → ∀ r, B (ti i + 2) q = some r → r < n := fun i hi q hq r hr => by
    have := (t8 i hi).2.2.1.2.2.2.2.2.2.2 q hq r hr
    by_cases z : r < n
    · exact z
    · have := hH.2.2.2.1 r (by omega); omega
  have ec : cnt (fun j => decide (I 449 (ti j) = 1)) tn = cnt (fun j => decide (A 25 j = 1)) tn := Nat.le_antisymm (cnt_mono (fun j hj z => by rw [← hsI j hj]; exact z)) (cnt_mono (fun j hj z => by rw [hsI j hj]; exact z))
  have sc := cs_countOpen (X := X) (d := d + 58) (I := I) (J := J) (A := A) (n := n) (sl := sl) hC t3 t1 hti
  rw [ec] at sc
  have hcle := cnt_le (fun j => decide (A 25 j = 1)) tn
  show Ev X mX8_begin (d + 60) 0 [some (rV (some 3))] [] (K, I, J, R, A, B, Ln, n, sl) _
  by_cases hno : cnt (fun j => decide (A 25 j = 1)) tn = 5 ∨ tn = 60
  · have fno : EvM X mX9_begin (d + 60) [rV (some 11)] (K, I, J, R, A, B, Ln, n, sl) (fun r2 G2 => r2 = some (iV (-1)) ∧ P G2) := (sp_begin_no (d := d + 59) hM t4 t1 hno).mono (fun r G' ⟨h1, h2⟩ => ⟨h1, by rw [h2]; exact hP0⟩)
    by_cases h60 : tn = 60
    · skip
      refine ev_aload_n dX8_begin_0 rfl ?_
      refine ev_getIv dX8_begin_1 fX8_78 hC.m t3 ?_
      refine ev_bipushN 60 dX8_begin_4 (by decide) ?_
      refine ev_icmp_geN 17 dX8_begin_6 (by decide) (by omega) (by omega) (fun c6 => ?_) (fun c6 => absurd c6 (by omega))
      refine ev_iconst (-1) dX8_begin_17 (by decide) ?_
      refine ev_ireturn dX8_begin_18 rfl ?_
      refine ⟨by first | exact hM.1 | exact h_.1 | exact hM1.1 | exact (hq2.2.1 11 (by omega)).1.trans hM1.1 | exact (y2.2.1 11 (by omega)).1.trans hM.1 | exact (q1.2 11 (by omega)).1.trans hM.1 | exact (va_up_ne _ _ (by omega)).trans hM.1 | exact (va_up_ne _ _ (by omega)).trans ((va_up_ne _ _ (by omega)).trans ((va_up_ne _ _ (by omega)).trans hM.1)), ?_⟩
      exact fno
    · have h5 := hno.resolve_right h60
      refine ev_aload_n dX8_begin_0 rfl ?_
      refine ev_getIv dX8_begin_1 fX8_78 hC.m t3 ?_
      refine ev_bipushN 60 dX8_begin_4 (by decide) ?_
      refine ev_icmp_geN 17 dX8_begin_6 (by decide) (by omega) (by omega) (fun c6 => absurd c6 (by omega)) (fun c6 => ?_)
      refine ev_aload_n dX8_begin_9 rfl ?_
      refine ev_callV dX8_begin_10 okX8_countOpen inX8_countOpen seX8_countOpen mlX8_81 hC.m (by decide) rfl [] rfl rfl (Nat.le_of_ble_eq_true rfl) (Nat.le_of_ble_eq_true rfl) (sc) (fun r_ G_ h_ => ?_)
      obtain ⟨rfl, rfl⟩ := h_
      try dsimp only [Option.toList, List.cons_append, List.nil_append]
      refine ev_iconstN 5 dX8_begin_13 (by decide) ?_
      refine ev_icmp_ltN 19 dX8_begin_14 (by decide) (by omega) (by omega) (fun c14 => absurd c14 (by omega)) (fun c14 => ?_)
      refine ev_iconst (-1) dX8_begin_17 (by decide) ?_
      refine ev_ireturn dX8_begin_18 rfl ?_
      refine ⟨by first | exact hM.1 | exact h_.1 | exact hM1.1 | exact (hq2.2.1 11 (by omega)).1.trans hM1.1 | exact (y2.2.1 11 (by omega)).1.trans hM.1 | exact (q1.2 11 (by omega)).1.trans hM.1 | exact (va_up_ne _ _ (by omega)).trans hM.1 | exact (va_up_ne _ _ (by omega)).trans ((va_up_ne _ _ (by omega)).trans ((va_up_ne _ _ (by omega)).trans hM.1)), ?_⟩
      exact fno
  · have h5 : cnt (fun j => decide (A 25 j = 1)) tn ≠ 5 := fun z => hno (Or.inl z)
    have h60 : tn ≠ 60 := fun z => hno (Or.inr z)
    have kn : va_up K n 7 n = 7 := va_up_self _ _ _
    have hK3 : ∀ i, i < n → (va_up (va_up (va_up K n 7) (n + 1) 101) (n + 1 + 1) 104) i = K i := fun i hi => by rw [va_up_ne _ _ (by omega), va_up_ne _ _ (by omega), va_up_ne _ _ (by omega)]
    have hL3 : ∀ i, i < n → (va_up (va_up Ln (n + 1) 32) (n + 1 + 1) 32) i = Ln i := fun i hi => by rw [va_up_ne _ _ (by omega), va_up_ne _ _ (by omega)]
    have hR3 : ∀ f i, i < n → (u2 (u2 R 451 n (some (n + 1))) 452 n (some (n + 1 + 1))) f i = R f i := fun f i hi => by rw [u2_ne2 (by omega), u2_ne2 (by omega)]
    have hI3 : ∀ f i, i ≠ n → (u2 (u2 I 449 n 1) 448 n (nI la)) f i = I f i := fun f i hi => by rw [u2_ne2 hi, u2_ne2 hi]
    have k6 : (va_up (va_up (va_up K n 7) (n + 1) 101) (n + 1 + 1) 104) 6 = 103 := (hK3 6 (by omega)).trans hC.K_tx
    have l6 : (va_up (va_up Ln (n + 1) 32) (n + 1 + 1) 32) 6 = 60 := (hL3 6 (by omega)).trans hC.L_tx
    have k3 : (va_up (va_up (va_up K n 7) (n + 1) 101) (n + 1 + 1) 104) 3 = 8 := (hK3 3 (by omega)).trans hC.m
    have kn3 : (va_up (va_up (va_up K n 7) (n + 1) 101) (n + 1 + 1) 104) n = 7 := by rw [va_up_ne _ _ (by omega), va_up_ne _ _ (by omega)]; exact kn
    have k3' : va_up K n 7 3 = 8 := by rw [va_up_ne _ _ (by omega)]; exact hC.m
    have sv := cs_newTx (X := X) (d := d + 58) (K := va_up K n 7) (I := I) (J := J) (R := R) (A := A) (B := B) (Ln := Ln) (n := n + 1) (sl := sl + 5) (b := nI la) kn (by omega)
    have e517 : (u2 (u2 I 449 n 1) 448 n (nI la)) 517 3 = nI tn := (hI3 _ _ (by omega)).trans t3
    have e517' : u2 (u2 (u2 I 449 n 1) 448 n (nI la)) 517 3 (nI (tn + 1)) 517 3 = nI (tn + 1) := u2_self
    have e595 : u2 (u2 (u2 I 449 n 1) 448 n (nI la)) 517 3 (nI (tn + 1)) 595 11 = nI tn := by rw [u2_ne1 (by decide), hI3 _ _ (by omega)]; exact t4
    have e594 : u2 (u2 (u2 I 449 n 1) 448 n (nI la)) 517 3 (nI (tn + 1)) 594 11 = nI la := by rw [u2_ne1 (by decide), hI3 _ _ (by omega)]; exact t6
    have hM3 : MFix (va_up (va_up (va_up K n 7) (n + 1) 101) (n + 1 + 1) 104) (u2 (u2 R 451 n (some (n + 1))) 452 n (some (n + 1 + 1))) (va_up (va_up Ln (n + 1) 32) (n + 1 + 1) 32) := hM.of (fun i hi => hK3 i (by omega)) (fun i hi => hL3 i (by omega)) (fun f => hR3 f 11 (by omega))
    have fin : EvM X mX9_begin (d + 60) [rV (some 11)] (va_up (va_up (va_up K n 7) (n + 1) 101) (n + 1 + 1) 104, u2 (u2 (u2 I 449 n 1) 448 n (nI la)) 517 3 (nI (tn + 1)), J, u2 (u2 R 451 n (some (n + 1))) 452 n (some (n + 1 + 1)), A, u2 B 6 tn (some n), va_up (va_up Ln (n + 1) 32) (n + 1 + 1) 32, n + 1 + 1 + 1, sl + 5 + 32 + 32) (fun r2 G2 => r2 = some (iV (nI (tn + 1 - 1))) ∧ P G2) := (sp_begin_yes (d := d + 59) hM3 e595 t1 h5 h60).mono (fun r G' ⟨h1, h2⟩ => ⟨h1, by
      rw [h2, e594]
      have hI5 : ∀ f i, i ≠ n → ¬ (i = 3 ∧ f = 517) → ¬ (i = 11 ∧ f = 595) → u2 (u2 (u2 (u2 I 449 n 1) 448 n (nI la)) 517 3 (nI (tn + 1))) 595 11 (nI (tn + 1)) f i = I f i := fun f i a1 a2 a3 => by
        rw [show u2 (u2 (u2 (u2 I 449 n 1) 448 n (nI la)) 517 3 (nI (tn + 1))) 595 11 (nI (tn + 1)) f i = (u2 (u2 I 449 n 1) 448 n (nI la)) f i by unfold u2; rw [if_neg (fun z => a3 ⟨z.2, z.1⟩), if_neg (fun z => a2 ⟨z.2, z.1⟩)], hI3 f i a1]
      have hI5n : ∀ f, u2 (u2 (u2 (u2 I 449 n 1) 448 n (nI la)) 517 3 (nI (tn + 1))) 595 11 (nI (tn + 1)) f n = (u2 (u2 I 449 n 1) 448 n (nI la)) f n := fun f => by rw [u2_ne2 (by omega), u2_ne2 (by omega)]
      have hA5 : ∀ i, i ≠ 25 → i ≠ 26 → u2 (u2 A 25 tn 1) 26 tn (nI la) i = A i := fun i a1 a2 => by rw [u2_row' a2, u2_row' a1]
      have hB3 : ∀ i, i ≠ 6 → u2 B 6 tn (some n) i = B i := fun i hi => u2_row' hi
      refine hP _ _ _ _ _ _ (fun j => if j = tn then n else ti j) (h0.tx ⟨by omega, fun i hi => ⟨hK3 i hi, hL3 i hi, fun f => Or.inl rfl, fun a1 a2 _ f => hI5 f i (by omega) (fun z => a1 z.1) (fun z => a2 z.1), fun f _ => hR3 f i hi, fun hz => hB3 i (fun z => by
        rcases hz with hz | hz
        · omega
        · rw [z, hC.K_tx] at hz; omega)⟩⟩ (fun f hf => hI5 f 3 (by omega) (fun z => hf z.2) (by omega)) (fun f hf => hI5 f 11 (by omega) (by omega) (fun z => hf z.2)) (hR3 523 3 (by omega)) ⟨hB3 4 (by decide), hB3 5 (by decide)⟩ (fun i _ a1 a2 _ _ _ _ => hA5 i a1 a2) (fun i hi => ?_) (fun i hi => by rw [va_up_ne _ _ (by omega), va_up_ne _ _ (by omega), va_up_ne _ _ (by omega)]; exact hH.2.2.2.1 i (by omega)) ⟨⟨by omega, by omega⟩, ?_, u2_self, ?_, ?_, fun i j hij hj => ?_, fun j hj => ?_, ?_, fun i hi => ?_, fun q hq => ?_⟩)
      · obtain ⟨y1, y2, y3, y4, y5⟩ := hH.2.2.1 i (by omega)
        exact ⟨fun f => by rw [hI5 f i (by omega) (by omega) (by omega)]; exact y1 f, y2, fun f => by rw [u2_ne2 (by omega), u2_ne2 (by omega)]; exact y3 f, fun q => by rw [hA5 i (by omega) (by omega)]; exact y4 q, fun q => by rw [hB3 i (by omega)]; exact y5 q⟩
      · rw [u2_ne1 (by decide)]; exact u2_self
      · rw [hI5 _ _ (by omega) (by omega) (by omega)]; exact t5
      · rw [hI5 _ _ (by omega) (by omega) (by omega)]; exact t6
      · show (if i = tn then n else ti i) + 3 ≤ (if j = tn then n else ti j)
        rw [if_neg (by omega)]
        by_cases hjt : j = tn
        · rw [if_pos hjt]
          have := (t8 i (by omega)).2.1
          omega
        · rw [if_neg hjt]; exact t7 i j hij (by omega)
      · show TxJ _ _ _ _ _ _ _ _ (if j = tn then n else ti j) j
        by_cases hjt : j = tn
        · rw [if_pos hjt, hjt]
          obtain ⟨y1, y2, y3, y4, y5⟩ := hH.2.2.1 (n + 1) (by omega)
          obtain ⟨x1, x2, x3, x4, x5⟩ := hH.2.2.1 (n + 2) (by omega)
          obtain ⟨v1, v2, v3, v4, v5⟩ := hH.2.2.1 n (by omega)
          have hz27 : ∀ k, k < 32 → u2 (u2 A 25 tn 1) 26 tn (nI la) 27 (32 * tn + k) = 0 := fun k hk => by rw [hA5 27 (by decide) (by decide)]; exact t10 _ (by omega)
          refine ⟨u2_self, ⟨hn, by omega⟩, ⟨kn3, ?_, ?_, ?_, u2_self, va_up_self _ _ _, va_up_self _ _ _, fun k hk r hr => ?_⟩, ?_, ?_, ⟨la, Nat.le_refl _, u2_self⟩, ?_, fun k hk => Or.inl ⟨?_, hz27 k hk⟩⟩
          · rw [u2_ne1 (by decide)]; exact u2_self
          · rw [va_up_ne _ _ (by omega)]; exact va_up_self _ _ _
          · rw [va_up_ne _ _ (by omega)]; exact va_up_self _ _ _
          · rw [hB3 (n + 2) (by omega), x5] at hr; cases hr
          · rw [hI5n, u2_ne1 (by decide), u2_self, u2_row' (by decide)]; exact u2_self.symm
          · rw [hI5n, u2_self]; exact u2_self.symm
          · have : allN (fun k => decide (u2 (u2 A 25 tn 1) 26 tn (nI la) 27 (32 * tn + k) = 0)) 32 = true := by
              rw [allN_congr (q := fun _ => true) (fun k hk => decide_eq_true (hz27 k hk))]; rfl
            rw [this, hI5n, u2_ne1 (by decide), u2_ne1 (by decide)]; exact v1 450
          · rw [hA5 (n + 1) (by omega) (by omega)]; exact y4 k
        · rw [if_neg hjt]
          have hjn : j < tn := by omega
          obtain ⟨c1, c2, ⟨o1, o2, o3, o4, o5, o6, o7, o8⟩, c4, c5, c6, c7, c8⟩ := t8 j hjn
          have e27 := hA5 27 (by decide) (by decide)
          refine ⟨by rw [u2_ne2 (by omega)]; exact c1, ⟨c2.1, by omega⟩, ⟨(hK3 _ (by omega)).trans o1, (hR3 _ _ (by omega)).trans o2, (hK3 _ (by omega)).trans o3, (hL3 _ (by omega)).trans o4, (hR3 _ _ (by omega)).trans o5, (hK3 _ (by omega)).trans o6, (hL3 _ (by omega)).trans o7, fun k hk r hr => ?_⟩, ?_, ?_, ?_, ?_, fun k hk => ?_⟩
          · rw [hB3 _ (by omega)] at hr
            exact (hK3 r (hrk j hjn k hk r hr)).trans (o8 k hk r hr)
          · rw [hI5 _ _ (by omega) (by omega) (by omega), u2_row' (by decide), u2_ne2 hjt]; exact c4
          · rw [hI5 _ _ (by omega) (by omega) (by omega), u2_ne2 hjt, u2_row' (by decide)]; exact c5
          · rw [u2_ne2 hjt, u2_row' (by decide)]; exact c6
          · rw [hI5 _ _ (by omega) (by omega) (by omega), e27]; exact c7
          · have hw := c8 k hk
            unfold WrJ at hw ⊢
            rw [e27, hA5 28 (by decide) (by decide), hA5 (ti j + 1) (by omega) (by omega), hB3 (ti j + 2) (by omega)]
            rcases hw with w | ⟨w1, w2, r, w3, w4, w5⟩ | w
            · exact Or.inl w
            · exact Or.inr (Or.inl ⟨w1, w2, r, w3, by omega, fun f hf => by rw [hI5 _ r (by omega) (by omega) (by omega)]; exact w5 f hf⟩)
            · exact Or.inr (Or.inr w)
      · rw [cnt.eq_2]
        have e25 : cnt (fun j => decide (u2 (u2 A 25 tn 1) 26 tn (nI la) 25 j = 1)) tn ≤ cnt (fun j => decide (A 25 j = 1)) tn := cnt_mono (fun j hj z => by rw [u2_row' (by decide), u2_ne2 (by omega)] at z; exact z)
        have : (if decide (u2 (u2 A 25 tn 1) 26 tn (nI la) 25 tn = 1) = true then 1 else 0) ≤ 1 := by split <;> omega
        obtain ⟨t91, t92⟩ := t9
        exact ⟨by omega, by omega⟩
      · rw [hA5 27 (by decide) (by decide)]; exact t10 i (by omega)
      · rw [hA5 27 (by decide) (by decide)] at hq
        rw [hA5 28 (by decide) (by decide)]
        exact t11 q hq⟩)
    refine ev_aload_n dX8_begin_0 rfl ?_
    refine ev_getIv dX8_begin_1 fX8_78 hC.m t3 ?_
    refine ev_bipushN 60 dX8_begin_4 (by decide) ?_
    refine ev_icmp_geN 17 dX8_begin_6 (by decide) (by omega) (by omega) (fun c6 => absurd c6 (by omega)) (fun c6 => ?_)
    refine ev_aload_n dX8_begin_9 rfl ?_
    refine ev_callV dX8_begin_10 okX8_countOpen inX8_countOpen seX8_countOpen mlX8_81 hC.m (by decide) rfl [] rfl rfl (Nat.le_of_ble_eq_true rfl) (Nat.le_of_ble_eq_true rfl) (sc) (fun r_ G_ h_ => ?_)
    obtain ⟨rfl, rfl⟩ := h_
    try dsimp only [Option.toList, List.cons_append, List.nil_append]
    refine ev_iconstN 5 dX8_begin_13 (by decide) ?_
    refine ev_icmp_ltN 19 dX8_begin_14 (by decide) (by omega) (by omega) (fun c14 => ?_) (fun c14 => absurd c14 (by omega))
    refine ev_aload_n dX8_begin_19 rfl ?_
    refine ev_getR dX8_begin_20 fX8_20 hC.m hC.R_tx ?_
    refine ev_aload_n dX8_begin_23 rfl ?_
    refine ev_getIv dX8_begin_24 fX8_78 hC.m t3 ?_
    refine ev_new dX8_begin_27 nwX8_18 ?_
    refine ev_dup dX8_begin_30 rfl ?_
    refine ev_aload_n dX8_begin_31 rfl ?_
    refine ev_getIv dX8_begin_32 fX8_75 k3' t5 ?_
    refine ev_callI dX8_begin_35 okX7_init inX7_init rfl rfl mlX8_85 [iV _] rfl rfl (Nat.le_of_ble_eq_true rfl) (Nat.le_of_ble_eq_true rfl) (sv) (fun r_ G_ h_ => ?_)
    obtain ⟨rfl, rfl⟩ := h_
    try dsimp only [Option.toList, List.cons_append, List.nil_append]
    refine ev_aast (q := 3) dX8_begin_38 k6 (by decide) (by decide) l6 (by decide) (by omega) kn3 (by decide) (Or.inl rfl) ?_
    refine ev_aload_n dX8_begin_39 rfl ?_
    refine ev_dup dX8_begin_40 rfl ?_
    refine ev_getIv dX8_begin_41 fX8_78 k3 e517 ?_
    refine ev_iconstN 1 dX8_begin_44 (by decide) ?_
    refine ev_iaddN dX8_begin_45 ?_
    refine ev_putI dX8_begin_46 fX8_78 (Or.inl rfl) (Or.inl rfl) k3 ?_
    refine ev_aload_n dX8_begin_49 rfl ?_
    refine ev_getIv dX8_begin_50 fX8_78 k3 e517' ?_
    refine ev_iconstN 1 dX8_begin_53 (by decide) ?_
    refine ev_isubN dX8_begin_54 (by omega) ?_
    refine ev_ireturn dX8_begin_55 rfl ?_
    refine ⟨by first | exact hM.1 | exact h_.1 | exact hM1.1 | exact (hq2.2.1 11 (by omega)).1.trans hM1.1 | exact (y2.2.1 11 (by omega)).1.trans hM.1 | exact (q1.2 11 (by omega)).1.trans hM.1 | exact (va_up_ne _ _ (by omega)).trans hM.1 | exact (va_up_ne _ _ (by omega)).trans ((va_up_ne _ _ (by omega)).trans ((va_up_ne _ _ (by omega)).trans hM.1)), ?_⟩
    exact fin
end C98G
