section C98E
variable {X : CX} {d : Nat} {K : Nat → Nat} {I : Nat → Nat → Int32} {J : Nat → Nat → Int64} {R : Nat → Nat → Option Nat} {A : Nat → Nat → Int32} {B : Nat → Nat → Option Nat} {Ln : Nat → Nat} {n sl : Nat} {a m : Nat} {cs fs : List Nat} {s : SA} {many tn la : Nat} {ti : Nat → Nat} {pn : Nat} {px : Nat → Nat} {pe : Nat → EX} {ixn : Nat} {ie : Nat → EX} {rn : Nat} {p : PP}
theorem key_cases (k : Int32) : (∃ q, q < 32 ∧ k = nI q ∧ (0 ≤ k ∧ k ≤ 31)) ∨ ¬ (0 ≤ k ∧ k ≤ 31) := by
  rcases pk_ix k (n := 32) (by decide) with z | z | ⟨q, hq, z⟩
  · exact Or.inr (fun y => absurd z (Int32.not_lt.mpr y.1))
  · refine Or.inr (fun y => ?_)
    have h1 := y.2
    rw [Int32.le_iff_toInt_le] at z h1
    rw [nI_toInt (by decide)] at z
    rw [show (31 : Int32).toInt = 31 by decide] at h1
    omega
  · refine Or.inl ⟨q, hq, z, ?_, ?_⟩
    · rw [z, Int32.le_iff_toInt_le, nI_toInt (by omega), show (0 : Int32).toInt = 0 by decide]; omega
    · rw [z, Int32.le_iff_toInt_le, nI_toInt (by omega), show (31 : Int32).toInt = 31 by decide]; omega
set_option maxRecDepth 100000 in
set_option maxHeartbeats 4000000 in
theorem op_remove (h : Sim K I J R A B Ln n a m cs fs s many tn la ti pn px pe ixn ie rn p) (x y : Int32) {P : GH → Prop} (hP : ∀ I' A' B', Sim K I' J R A' B' Ln n a m cs fs s many tn la ti pn px pe ixn ie rn p → P (K, I', J, R, A', B', Ln, n, sl)) : EvM X mX8_remove (d + 60) [rV (some 3), iV x, iV y] (K, I, J, R, A, B, Ln, n, sl) (fun r1 G1 => G1.1 11 = 9 ∧ EvM X mX9_remove (d + 60) [rV (some 11), iV x, iV y] G1 (fun r2 G2 => r2 = r1 ∧ P G2)) := by
  have hti := h.tis
  have h0 := h
  obtain ⟨hH, hM, hR, hT, -⟩ := h
  have hT0 := hT
  obtain ⟨⟨t1, t2⟩, t3, t4, t5, t6, t7, t8, t9, t10, t11⟩ := hT
  have hC := hH.1
  have hn := hH.2.2.2.2
  have hsI : ∀ j, j < tn → I 449 (ti j) = A 25 j := fun j hj => (t8 j hj).2.2.2.1
  have hrk : ∀ i, i < tn → ∀ q, q < 32 → ∀ r, B (ti i + 2) q = some r → r < n := fun i hi q hq r hr => by
    have := (t8 i hi).2.2.1.2.2.2.2.2.2.2 q hq r hr
    by_cases z : r < n
    · exact z
    · have := hH.2.2.2.1 r (by omega); omega
  show Ev X mX8_remove (d + 60) 0 [some (rV (some 3)), some (iV x), some (iV y), none] [] (K, I, J, R, A, B, Ln, n, sl) _
  have sk := cs_isKey (X := X) (d := d + 59) (k := y) (G := (K, I, J, R, A, B, Ln, n, sl))
  rcases open_cases A tn x with ⟨j, hj, rfl, hs⟩ | hno
  · obtain ⟨z1, z2⟩ := hti j hj
    have so := cs_openOne (X := X) (d := d + 58) (J := J) (A := A) (n := n) (sl := sl) hC t3 t1 hj z1 z2 ((hsI j hj).trans hs)
    rcases key_cases y with ⟨k, hk, rfl, hy⟩ | hy
    · rw [if_pos hy] at sk
      obtain ⟨-, htn, ⟨o1, o2, o3, o4, o5, o6, o7, o8⟩, -⟩ := t8 j hj
      have sp := cs_put (X := X) (d := d + 59) (I := I) (J := J) (A := A) (B := B) (n := n) (sl := sl) (o := none) z2 o2 o3 o4 o5 o6 o7 hk (fun v hv => by cases hv)
      have e595 : u2 I 450 (ti j) 1 595 11 = nI tn := by rw [u2_ne1 (by decide)]; exact t4
      have e25 : u2 A (ti j + 1) k 1 25 j = 1 := by rw [u2_row' (by omega)]; exact hs
      have fin : EvM X mX9_remove (d + 60) [rV (some 11), iV (nI j), iV (nI k)] (K, u2 I 450 (ti j) 1, J, R, u2 A (ti j + 1) k 1, u2 B (ti j + 2) k none, Ln, n, sl) (fun r2 G2 => r2 = some (iV (nI 1)) ∧ P G2) := (sp_remove_yes (d := d + 59) hM e595 t1 hj e25 hk).mono (fun r G' ⟨h1, h2⟩ => ⟨h1, by
        rw [h2]
        have hI : ∀ f i, ¬ (i = ti j ∧ f = 450) → u2 I 450 (ti j) 1 f i = I f i := fun f i hi => by
          unfold u2; rw [if_neg (fun z => hi ⟨z.2, z.1⟩)]
        refine hP _ _ _ (h0.tx ⟨Nat.le_refl _, fun i hi => ⟨rfl, rfl, fun f => Or.inl rfl, fun _ _ h7 f => hI f i (fun z => h7 (by rw [z.1]; exact z2)), fun f _ => rfl, fun hz => u2_row' (fun z => ?_)⟩⟩ (fun f _ => hI f 3 (by omega)) (fun f _ => hI f 11 (by omega)) rfl ⟨u2_row' (by omega), u2_row' (by omega)⟩ (fun i h34 _ _ h27 _ _ _ => by rw [u2_row' h27, u2_row' (by omega)]) (fun i hi => ?_) hH.2.2.2.1 (hT0.wr hj hk (Nat.le_refl _) (fun i _ => ⟨rfl, rfl, fun _ => rfl⟩) (fun f i _ hi => hI f i hi) (fun i _ hi => u2_row' hi) (fun q hq => u2_ne2 hq) (fun r hr => by rw [u2_self] at hr; cases hr) (fun i a1 a2 a3 => by rw [u2_row' a1, u2_row' a3]) (fun q hq => by rw [u2_row' (show ti j + 1 ≠ 27 by omega), u2_ne2 hq]) (fun q hq => by rw [u2_ne2 hq, u2_row' (show (27 : Nat) ≠ ti j + 1 by omega)]) (fun q f _ _ => by rw [u2_row' (by decide), u2_row' (show (28 : Nat) ≠ ti j + 1 by omega)]) (Or.inr (Or.inr ⟨by rw [u2_row' (show ti j + 1 ≠ 27 by omega)]; exact u2_self, u2_self, u2_self⟩)) u2_self (by rw [u2_self]; decide) (fun z => by rw [u2_self] at z; cases z) hrk hn (fun r hr h3 z => by rw [z, z2] at h3; omega)))
        · rcases hz with hz | hz
          · omega
          · rw [z, o6] at hz; omega
        · obtain ⟨y1, y2, y3, y4, y5⟩ := hH.2.2.1 i hi
          exact ⟨fun f => by rw [hI f i (by omega)]; exact y1 f, y2, y3, fun q => by rw [u2_row' (by omega), u2_row' (by omega)]; exact y4 q, fun q => by rw [u2_row' (by omega)]; exact y5 q⟩⟩)
      refine ev_aload_n dX8_remove_0 rfl ?_
      refine ev_iload_n dX8_remove_1 rfl ?_
      refine ev_callV dX8_remove_2 okX8_openOne inX8_openOne seX8_openOne mlX8_88 hC.m (by decide) rfl [iV _] rfl rfl (Nat.le_of_ble_eq_true rfl) (Nat.le_of_ble_eq_true rfl) (so) (fun r_ G_ h_ => ?_)
      obtain ⟨rfl, rfl⟩ := h_
      try dsimp only [Option.toList, List.cons_append, List.nil_append]
      refine ev_astore_nS dX8_remove_5 (by decide) rfl ?_
      refine ev_aload_n dX8_remove_6 rfl ?_
      refine ev_ifnull 17 dX8_remove_7 (by decide) (fun c7 => by cases c7) (fun x c7 => ?_)
      refine ev_iload_n dX8_remove_10 rfl ?_
      refine ev_callS dX8_remove_11 okX8_isKey stX8_isKey mlX8_92 [iV _] rfl rfl (Nat.le_of_ble_eq_true rfl) (Nat.le_of_ble_eq_true rfl) (sk) (fun r_ G_ h_ => ?_)
      obtain ⟨rfl, rfl⟩ := h_
      try dsimp only [Option.toList, List.cons_append, List.nil_append]
      refine ev_if_ne 19 dX8_remove_14 (by decide) (fun c14 => ?_) (fun c14 => absurd c14 (by decide))
      refine ev_aload_n dX8_remove_19 rfl ?_
      refine ev_iload_n dX8_remove_20 rfl ?_
      refine ev_null dX8_remove_21 ?_
      refine ev_callV dX8_remove_22 okX7_put inX7_put seX7_put mlX8_113 z2 (by decide) rfl [iV _, rV _] rfl rfl (Nat.le_of_ble_eq_true rfl) (Nat.le_of_ble_eq_true rfl) (sp) (fun r_ G_ h_ => ?_)
      obtain ⟨rfl, rfl⟩ := h_
      try dsimp only [Option.toList, List.cons_append, List.nil_append]
      refine ev_iconstN 1 dX8_remove_25 (by decide) ?_
      refine ev_zreturn dX8_remove_26 rfl (by decide) ?_
      refine ⟨by first | exact hM.1 | exact h_.1 | exact hM1.1 | exact (hq2.2.1 11 (by omega)).1.trans hM1.1 | exact (y2.2.1 11 (by omega)).1.trans hM.1 | exact (q1.2 11 (by omega)).1.trans hM.1 | exact (va_up_ne _ _ (by omega)).trans hM.1 | exact (va_up_ne _ _ (by omega)).trans ((va_up_ne _ _ (by omega)).trans ((va_up_ne _ _ (by omega)).trans hM.1)), ?_⟩
      exact fin
    · rw [if_neg hy] at sk
      have fin : EvM X mX9_remove (d + 60) [rV (some 11), iV (nI j), iV y] (K, I, J, R, A, B, Ln, n, sl) (fun r2 G2 => r2 = some (iV (nI 0)) ∧ P G2) := (sp_remove_no (d := d + 59) hM t4 t1 (Or.inr hy)).mono (fun r G' ⟨h1, h2⟩ => ⟨h1, by rw [h2]; exact hP I A B h0⟩)
      refine ev_aload_n dX8_remove_0 rfl ?_
      refine ev_iload_n dX8_remove_1 rfl ?_
      refine ev_callV dX8_remove_2 okX8_openOne inX8_openOne seX8_openOne mlX8_88 hC.m (by decide) rfl [iV _] rfl rfl (Nat.le_of_ble_eq_true rfl) (Nat.le_of_ble_eq_true rfl) (so) (fun r_ G_ h_ => ?_)
      obtain ⟨rfl, rfl⟩ := h_
      try dsimp only [Option.toList, List.cons_append, List.nil_append]
      refine ev_astore_nS dX8_remove_5 (by decide) rfl ?_
      refine ev_aload_n dX8_remove_6 rfl ?_
      refine ev_ifnull 17 dX8_remove_7 (by decide) (fun c7 => by cases c7) (fun x c7 => ?_)
      refine ev_iload_n dX8_remove_10 rfl ?_
      refine ev_callS dX8_remove_11 okX8_isKey stX8_isKey mlX8_92 [iV _] rfl rfl (Nat.le_of_ble_eq_true rfl) (Nat.le_of_ble_eq_true rfl) (sk) (fun r_ G_ h_ => ?_)
      obtain ⟨rfl, rfl⟩ := h_
      try dsimp only [Option.toList, List.cons_append, List.nil_append]
      refine ev_if_ne 19 dX8_remove_14 (by decide) (fun c14 => absurd c14 (fun z => z rfl)) (fun c14 => ?_)
      refine ev_iconstN 0 dX8_remove_17 (by decide) ?_
      refine ev_zreturn dX8_remove_18 rfl (by decide) ?_
      refine ⟨by first | exact hM.1 | exact h_.1 | exact hM1.1 | exact (hq2.2.1 11 (by omega)).1.trans hM1.1 | exact (y2.2.1 11 (by omega)).1.trans hM.1 | exact (q1.2 11 (by omega)).1.trans hM.1 | exact (va_up_ne _ _ (by omega)).trans hM.1 | exact (va_up_ne _ _ (by omega)).trans ((va_up_ne _ _ (by omega)).trans ((va_up_ne _ _ (by omega)).trans hM.1)), ?_⟩
      exact fin
  · have so := cs_openOne_no (X := X) (d := d + 58) (J := J) (A := A) (n := n) (sl := sl) hC t3 t1 hti (t := x) (fun j hj z => by rw [hsI j hj]; exact hno j hj z)
    have fin : EvM X mX9_remove (d + 60) [rV (some 11), iV x, iV y] (K, I, J, R, A, B, Ln, n, sl) (fun r2 G2 => r2 = some (iV (nI 0)) ∧ P G2) := (sp_remove_no (d := d + 59) hM t4 t1 (Or.inl hno)).mono (fun r G' ⟨h1, h2⟩ => ⟨h1, by rw [h2]; exact hP I A B h0⟩)
    refine ev_aload_n dX8_remove_0 rfl ?_
    refine ev_iload_n dX8_remove_1 rfl ?_
    refine ev_callV dX8_remove_2 okX8_openOne inX8_openOne seX8_openOne mlX8_88 hC.m (by decide) rfl [iV _] rfl rfl (Nat.le_of_ble_eq_true rfl) (Nat.le_of_ble_eq_true rfl) (so) (fun r_ G_ h_ => ?_)
    obtain ⟨rfl, rfl⟩ := h_
    try dsimp only [Option.toList, List.cons_append, List.nil_append]
    refine ev_astore_nS dX8_remove_5 (by decide) rfl ?_
    refine ev_aload_n dX8_remove_6 rfl ?_
    refine ev_ifnull 17 dX8_remove_7 (by decide) (fun c7 => ?_) (fun x c7 => by cases c7)
    refine ev_iconstN 0 dX8_remove_17 (by decide) ?_
    refine ev_zreturn dX8_remove_18 rfl (by decide) ?_
    refine ⟨by first | exact hM.1 | exact h_.1 | exact hM1.1 | exact (hq2.2.1 11 (by omega)).1.trans hM1.1 | exact (y2.2.1 11 (by omega)).1.trans hM.1 | exact (q1.2 11 (by omega)).1.trans hM.1 | exact (va_up_ne _ _ (by omega)).trans hM.1 | exact (va_up_ne _ _ (by omega)).trans ((va_up_ne _ _ (by omega)).trans ((va_up_ne _ _ (by omega)).trans hM.1)), ?_⟩
    exact fin
set_option maxRecDepth 100000 in
set_option maxHeartbeats 4000000 in
theorem op_write (h : Sim K I J R A B Ln n a m cs fs s many tn la ti pn px pe ixn ie rn p) (x y v z u : Int32) {P : GH → Prop} (hP0 : P (K, I, J, R, A, B, Ln, n, sl)) (hP : ∀ K' I' A' B', Sim K' I' J R A' B' Ln (n + 1) a m cs fs s many tn la ti pn px pe ixn ie rn p → P (K', I', J, R, A', B', Ln, n + 1, sl + 3)) : EvM X mX8_write (d + 60) [rV (some 3), iV x, iV y, iV v, iV z, iV u] (K, I, J, R, A, B, Ln, n, sl) (fun r1 G1 => G1.1 11 = 9 ∧ EvM X mX9_write (d + 60) [rV (some 11), iV x, iV y, iV v, iV z, iV u] G1 (fun r2 G2 => r2 = r1 ∧ P G2)) := by
  have hti := h.tis
  have h0 := h
  obtain ⟨hH, hM, hR, hT, -⟩ := h
  have hT0 := hT
  obtain ⟨⟨t1, t2⟩, t3, t4, t5, t6, t7, t8, t9, t10, t11⟩ := hT
  have hC := hH.1
  have hn := hH.2.2.2.2
  have hsI : ∀ j, j < tn → I 449 (ti j) = A 25 j := fun j hj => (t8 j hj).2.2.2.1
  have hrk : ∀ i, i < tn → ∀ q, q < 32 → ∀ r, B (ti i + 2) q = some r → r < n := fun i hi q hq r hr => by
    have := (t8 i hi).2.2.1.2.2.2.2.2.2.2 q hq r hr
    by_cases z : r < n
    · exact z
    · have := hH.2.2.2.1 r (by omega); omega
  show Ev X mX8_write (d + 60) 0 [some (rV (some 3)), some (iV x), some (iV y), some (iV v), some (iV z), some (iV u), none] [] (K, I, J, R, A, B, Ln, n, sl) _
  have sk := cs_isKey (X := X) (d := d + 59) (k := y) (G := (K, I, J, R, A, B, Ln, n, sl))
  have sn := cs_isName (X := X) (d := d + 59) (x := u) (G := (K, I, J, R, A, B, Ln, n, sl))
  have fno : ((∀ j, j < tn → x = nI j → ¬ A 25 j = 1) ∨ ¬ (0 ≤ y ∧ y ≤ 31) ∨ z < 0 ∨ 1 < z ∨ nmB u = 0) → EvM X mX9_write (d + 60) [rV (some 11), iV x, iV y, iV v, iV z, iV u] (K, I, J, R, A, B, Ln, n, sl) (fun r2 G2 => r2 = some (iV (nI 0)) ∧ P G2) := fun hz => (sp_write_no (d := d + 59) hM t4 t1 hz).mono (fun r G' ⟨h1, h2⟩ => ⟨h1, by rw [h2]; exact hP0⟩)
  rcases open_cases A tn x with ⟨j, hj, rfl, hs⟩ | hno
  · obtain ⟨z1, z2⟩ := hti j hj
    have so := cs_openOne (X := X) (d := d + 58) (J := J) (A := A) (n := n) (sl := sl) hC t3 t1 hj z1 z2 ((hsI j hj).trans hs)
    rcases key_cases y with ⟨k, hk, rfl, hy⟩ | hy
    · rw [if_pos hy] at sk
      by_cases hz0 : z < 0
      · have fno := fno (Or.inr (Or.inr (Or.inl hz0)))
        refine ev_aload_n dX8_write_0 rfl ?_
        refine ev_iload_n dX8_write_1 rfl ?_
        refine ev_callV dX8_write_2 okX8_openOne inX8_openOne seX8_openOne mlX8_88 hC.m (by decide) rfl [iV _] rfl rfl (Nat.le_of_ble_eq_true rfl) (Nat.le_of_ble_eq_true rfl) (so) (fun r_ G_ h_ => ?_)
        obtain ⟨rfl, rfl⟩ := h_
        try dsimp only [Option.toList, List.cons_append, List.nil_append]
        refine ev_astoreS dX8_write_5 (by decide) rfl ?_
        refine ev_aload dX8_write_7 rfl ?_
        refine ev_ifnull 38 dX8_write_9 (by decide) (fun c9 => by cases c9) (fun x c9 => ?_)
        refine ev_iload_n dX8_write_12 rfl ?_
        refine ev_callS dX8_write_13 okX8_isKey stX8_isKey mlX8_92 [iV _] rfl rfl (Nat.le_of_ble_eq_true rfl) (Nat.le_of_ble_eq_true rfl) (sk) (fun r_ G_ h_ => ?_)
        obtain ⟨rfl, rfl⟩ := h_
        try dsimp only [Option.toList, List.cons_append, List.nil_append]
        refine ev_if_eq 38 dX8_write_16 (by decide) (fun c16 => absurd c16 (by decide)) (fun c16 => ?_)
        refine ev_iload dX8_write_19 rfl ?_
        refine ev_if_lt 38 dX8_write_21 (by decide) (fun c21 => ?_) (fun c21 => absurd hz0 c21)
        refine ev_iconstN 0 dX8_write_38 (by decide) ?_
        refine ev_zreturn dX8_write_39 rfl (by decide) ?_
        refine ⟨by first | exact hM.1 | exact h_.1 | exact hM1.1 | exact (hq2.2.1 11 (by omega)).1.trans hM1.1 | exact (y2.2.1 11 (by omega)).1.trans hM.1 | exact (q1.2 11 (by omega)).1.trans hM.1 | exact (va_up_ne _ _ (by omega)).trans hM.1 | exact (va_up_ne _ _ (by omega)).trans ((va_up_ne _ _ (by omega)).trans ((va_up_ne _ _ (by omega)).trans hM.1)), ?_⟩
        exact fno
      · by_cases hz1 : 1 < z
        · have fno := fno (Or.inr (Or.inr (Or.inr (Or.inl hz1))))
          refine ev_aload_n dX8_write_0 rfl ?_
          refine ev_iload_n dX8_write_1 rfl ?_
          refine ev_callV dX8_write_2 okX8_openOne inX8_openOne seX8_openOne mlX8_88 hC.m (by decide) rfl [iV _] rfl rfl (Nat.le_of_ble_eq_true rfl) (Nat.le_of_ble_eq_true rfl) (so) (fun r_ G_ h_ => ?_)
          obtain ⟨rfl, rfl⟩ := h_
          try dsimp only [Option.toList, List.cons_append, List.nil_append]
          refine ev_astoreS dX8_write_5 (by decide) rfl ?_
          refine ev_aload dX8_write_7 rfl ?_
          refine ev_ifnull 38 dX8_write_9 (by decide) (fun c9 => by cases c9) (fun x c9 => ?_)
          refine ev_iload_n dX8_write_12 rfl ?_
          refine ev_callS dX8_write_13 okX8_isKey stX8_isKey mlX8_92 [iV _] rfl rfl (Nat.le_of_ble_eq_true rfl) (Nat.le_of_ble_eq_true rfl) (sk) (fun r_ G_ h_ => ?_)
          obtain ⟨rfl, rfl⟩ := h_
          try dsimp only [Option.toList, List.cons_append, List.nil_append]
          refine ev_if_eq 38 dX8_write_16 (by decide) (fun c16 => absurd c16 (by decide)) (fun c16 => ?_)
          refine ev_iload dX8_write_19 rfl ?_
          refine ev_if_lt 38 dX8_write_21 (by decide) (fun c21 => absurd c21 hz0) (fun c21 => ?_)
          refine ev_iload dX8_write_24 rfl ?_
          refine ev_iconstN 1 dX8_write_26 (by decide) ?_
          refine ev_icmp_gt (y := 1) 38 dX8_write_27 (by decide) (fun c27 => ?_) (fun c27 => absurd hz1 c27)
          refine ev_iconstN 0 dX8_write_38 (by decide) ?_
          refine ev_zreturn dX8_write_39 rfl (by decide) ?_
          refine ⟨by first | exact hM.1 | exact h_.1 | exact hM1.1 | exact (hq2.2.1 11 (by omega)).1.trans hM1.1 | exact (y2.2.1 11 (by omega)).1.trans hM.1 | exact (q1.2 11 (by omega)).1.trans hM.1 | exact (va_up_ne _ _ (by omega)).trans hM.1 | exact (va_up_ne _ _ (by omega)).trans ((va_up_ne _ _ (by omega)).trans ((va_up_ne _ _ (by omega)).trans hM.1)), ?_⟩
          exact fno
        · rcases nmB_01 u with hu | hu
          · have fno := fno (Or.inr (Or.inr (Or.inr (Or.inr hu))))
            rw [hu] at sn
            refine ev_aload_n dX8_write_0 rfl ?_
            refine ev_iload_n dX8_write_1 rfl ?_
            refine ev_callV dX8_write_2 okX8_openOne inX8_openOne seX8_openOne mlX8_88 hC.m (by decide) rfl [iV _] rfl rfl (Nat.le_of_ble_eq_true rfl) (Nat.le_of_ble_eq_true rfl) (so) (fun r_ G_ h_ => ?_)
            obtain ⟨rfl, rfl⟩ := h_
            try dsimp only [Option.toList, List.cons_append, List.nil_append]
            refine ev_astoreS dX8_write_5 (by decide) rfl ?_
            refine ev_aload dX8_write_7 rfl ?_
            refine ev_ifnull 38 dX8_write_9 (by decide) (fun c9 => by cases c9) (fun x c9 => ?_)
            refine ev_iload_n dX8_write_12 rfl ?_
            refine ev_callS dX8_write_13 okX8_isKey stX8_isKey mlX8_92 [iV _] rfl rfl (Nat.le_of_ble_eq_true rfl) (Nat.le_of_ble_eq_true rfl) (sk) (fun r_ G_ h_ => ?_)
            obtain ⟨rfl, rfl⟩ := h_
            try dsimp only [Option.toList, List.cons_append, List.nil_append]
            refine ev_if_eq 38 dX8_write_16 (by decide) (fun c16 => absurd c16 (by decide)) (fun c16 => ?_)
            refine ev_iload dX8_write_19 rfl ?_
            refine ev_if_lt 38 dX8_write_21 (by decide) (fun c21 => absurd c21 hz0) (fun c21 => ?_)
            refine ev_iload dX8_write_24 rfl ?_
            refine ev_iconstN 1 dX8_write_26 (by decide) ?_
            refine ev_icmp_gt (y := 1) 38 dX8_write_27 (by decide) (fun c27 => absurd c27 hz1) (fun c27 => ?_)
            refine ev_iload dX8_write_30 rfl ?_
            refine ev_callS dX8_write_32 okX8_isName stX8_isName mlX8_39 [iV _] rfl rfl (Nat.le_of_ble_eq_true rfl) (Nat.le_of_ble_eq_true rfl) (sn) (fun r_ G_ h_ => ?_)
            obtain ⟨rfl, rfl⟩ := h_
            try dsimp only [Option.toList, List.cons_append, List.nil_append]
            refine ev_if_ne 40 dX8_write_35 (by decide) (fun c35 => absurd c35 (fun z => z rfl)) (fun c35 => ?_)
            refine ev_iconstN 0 dX8_write_38 (by decide) ?_
            refine ev_zreturn dX8_write_39 rfl (by decide) ?_
            refine ⟨by first | exact hM.1 | exact h_.1 | exact hM1.1 | exact (hq2.2.1 11 (by omega)).1.trans hM1.1 | exact (y2.2.1 11 (by omega)).1.trans hM.1 | exact (q1.2 11 (by omega)).1.trans hM.1 | exact (va_up_ne _ _ (by omega)).trans hM.1 | exact (va_up_ne _ _ (by omega)).trans ((va_up_ne _ _ (by omega)).trans ((va_up_ne _ _ (by omega)).trans hM.1)), ?_⟩
            exact fno
          · rw [hu] at sn
            have hz01 : z = 0 ∨ z = 1 := by
              have h1 : ¬ z.toInt < 0 := by rw [Int32.lt_iff_toInt_lt, show (0 : Int32).toInt = 0 by decide] at hz0; exact hz0
              have h2 : ¬ 1 < z.toInt := by rw [Int32.lt_iff_toInt_lt, show (1 : Int32).toInt = 1 by decide] at hz1; exact hz1
              rcases (show z.toInt = 0 ∨ z.toInt = 1 by omega) with q | q
              · exact Or.inl (Int32.toInt.inj (by rw [q]; decide))
              · exact Or.inr (Int32.toInt.inj (by rw [q]; decide))
            obtain ⟨-, htn, ⟨o1, o2, o3, o4, o5, o6, o7, o8⟩, -⟩ := t8 j hj
            have kn : va_up K n 3 n = 3 := va_up_self _ _ _
            have hK1 : ∀ i, i < n → va_up K n 3 i = K i := fun i hi => va_up_ne _ _ (by omega)
            have sp := cs_put (X := X) (d := d + 59) (K := va_up K n 3) (I := u2 (u2 (u2 I 192 n v) 193 n z) 194 n u) (J := J) (A := A) (B := B) (n := n + 1) (sl := sl + 3) (o := some n) ((hK1 _ (by omega)).trans z2) o2 ((hK1 _ (by omega)).trans o3) o4 o5 ((hK1 _ (by omega)).trans o6) o7 hk (fun w hw => by cases hw; exact kn)
            have k2' : va_up K n 3 (ti j) = 7 := (hK1 _ (by omega)).trans z2
            have hM1 : MFix (va_up K n 3) R Ln := hM.of (fun i hi => hK1 i (by omega)) (fun _ _ => rfl) (fun _ => rfl)
            have hI : ∀ f i, i ≠ n → ¬ (i = ti j ∧ f = 450) → u2 (u2 (u2 (u2 I 192 n v) 193 n z) 194 n u) 450 (ti j) 1 f i = I f i := fun f i h1 h2 => by
              rw [show u2 (u2 (u2 (u2 I 192 n v) 193 n z) 194 n u) 450 (ti j) 1 f i = u2 (u2 (u2 I 192 n v) 193 n z) 194 n u f i by unfold u2; rw [if_neg (fun q => h2 ⟨q.2, q.1⟩)], u2_ne2 h1, u2_ne2 h1, u2_ne2 h1]
            have e595 : u2 (u2 (u2 (u2 I 192 n v) 193 n z) 194 n u) 450 (ti j) 1 595 11 = nI tn := (hI _ _ (by omega) (by omega)).trans t4
            have e25 : u2 A (ti j + 1) k 1 25 j = 1 := by rw [u2_row' (by omega)]; exact hs
            have fin : EvM X mX9_write (d + 60) [rV (some 11), iV (nI j), iV (nI k), iV v, iV z, iV u] (va_up K n 3, u2 (u2 (u2 (u2 I 192 n v) 193 n z) 194 n u) 450 (ti j) 1, J, R, u2 A (ti j + 1) k 1, u2 B (ti j + 2) k (some n), Ln, n + 1, sl + 3) (fun r2 G2 => r2 = some (iV (nI 1)) ∧ P G2) := (sp_write_yes (d := d + 59) hM1 e595 t1 hj e25 hk hz01 hu).mono (fun r G' ⟨h1, h2⟩ => ⟨h1, by
              rw [h2]
              let A1 := u2 (u2 (u2 (u2 (u2 A (ti j + 1) k 1) 27 (32 * j + k) 1) 28 (3 * (32 * j + k)) v) 28 (3 * (32 * j + k) + 1) z) 28 (3 * (32 * j + k) + 2) u
              have hA : ∀ i, i ≠ 27 → i ≠ 28 → i ≠ ti j + 1 → A1 i = A i := fun i a1 a2 a3 => by
                show u2 (u2 (u2 (u2 (u2 A _ _ _) _ _ _) _ _ _) _ _ _) _ _ _ i = _
                rw [u2_row' a2, u2_row' a2, u2_row' a2, u2_row' a1, u2_row' a3]
              have hA1 : A1 (ti j + 1) = u2 A (ti j + 1) k 1 (ti j + 1) := by
                show u2 (u2 (u2 (u2 (u2 A _ _ _) _ _ _) _ _ _) _ _ _) _ _ _ _ = _
                rw [u2_row' (by omega), u2_row' (by omega), u2_row' (by omega), u2_row' (by omega)]
              have hA27 : A1 27 = u2 (u2 A (ti j + 1) k 1) 27 (32 * j + k) 1 27 := by
                show u2 (u2 (u2 (u2 (u2 A _ _ _) _ _ _) _ _ _) _ _ _) _ _ _ _ = _
                rw [u2_row' (by decide), u2_row' (by decide), u2_row' (by decide)]
              have hA28 : ∀ q f, f < 3 → A1 28 (3 * q + f) = if q = 32 * j + k then (if f = 0 then v else if f = 1 then z else u) else A 28 (3 * q + f) := fun q f hf => by
                show u2 (u2 (u2 (u2 (u2 A _ _ _) _ _ _) _ _ _) _ _ _) _ _ _ 28 _ = _
                by_cases hq : q = 32 * j + k
                · rw [if_pos hq, hq]
                  obtain rfl | rfl | rfl : f = 0 ∨ f = 1 ∨ f = 2 := by omega
                  · rw [u2_ne2 (by omega), u2_ne2 (by omega)]; exact u2_self
                  · rw [u2_ne2 (by omega)]; exact u2_self
                  · exact u2_self
                · rw [if_neg hq, u2_ne2 (by omega), u2_ne2 (by omega), u2_ne2 (by omega), u2_ne1 (by decide), u2_row' (show (28 : Nat) ≠ ti j + 1 by omega)]
              refine hP _ _ A1 _ (h0.tx ⟨by omega, fun i hi => ⟨hK1 i hi, rfl, fun f => Or.inl rfl, fun _ _ h7 f => hI f i (by omega) (fun q => h7 (by rw [q.1]; exact z2)), fun f _ => rfl, fun hq => u2_row' (fun q => ?_)⟩⟩ (fun f _ => hI f 3 (by omega) (by omega)) (fun f _ => hI f 11 (by omega) (by omega)) rfl ⟨u2_row' (by omega), u2_row' (by omega)⟩ (fun i h34 _ _ h27 h28 _ _ => hA i h27 h28 (by omega)) (fun i hi => ?_) (fun i hi => by rw [va_up_ne _ _ (by omega)]; exact hH.2.2.2.1 i (by omega)) (hT0.wr hj hk (by omega) (fun i hi => ⟨hK1 i hi, rfl, fun _ => rfl⟩) (fun f i hi hq => hI f i (by omega) hq) (fun i _ hi => u2_row' hi) (fun q hq => u2_ne2 hq) (fun r hr => by rw [u2_self] at hr; cases hr; exact kn) hA (fun q hq => by rw [hA1, u2_ne2 hq]) (fun q hq => by rw [hA27, u2_ne2 hq, u2_row' (show (27 : Nat) ≠ ti j + 1 by omega)]) (fun q f hf hq => by rw [hA28 q f hf, if_neg hq]) (Or.inr (Or.inl ⟨by rw [hA1]; exact u2_self, by rw [hA27]; exact u2_self, n, u2_self, by omega, fun f hf => ?_⟩)) u2_self (by rw [hA27, u2_self]; decide) (fun _ => ?_) hrk hn (fun r hr h3 q => by rw [q, z2] at h3; omega)))
              · rcases hq with hq | hq
                · omega
                · rw [q, o6] at hq; omega
              · obtain ⟨y1, y2, y3, y4, y5⟩ := hH.2.2.1 i (by omega)
                exact ⟨fun f => by rw [hI f i (by omega) (by omega)]; exact y1 f, y2, y3, fun q => by rw [hA i (by omega) (by omega) (by omega)]; exact y4 q, fun q => by rw [u2_row' (by omega)]; exact y5 q⟩
              · rw [hA28 _ f hf, if_pos rfl]
                obtain rfl | rfl | rfl : f = 0 ∨ f = 1 ∨ f = 2 := by omega
                · rw [if_pos rfl, u2_ne1 (by decide), u2_ne1 (by decide), u2_ne1 (by decide)]; exact u2_self.symm
                · rw [if_neg (by decide), if_pos rfl, u2_ne1 (by decide), u2_ne1 (by decide)]; exact u2_self.symm
                · rw [if_neg (by decide), if_neg (by decide), u2_ne1 (by decide)]; exact u2_self.symm
              · rw [hA28 _ 2 (by decide), if_pos rfl, if_neg (by decide), if_neg (by decide)]
                have hun : ¬ u < 0 := fun q => by rw [nmB_neg q] at hu; cases hu
                obtain ⟨nm, q1, q2⟩ := nI_of hun
                exact ⟨nm, q1, q2⟩⟩)
            refine ev_aload_n dX8_write_0 rfl ?_
            refine ev_iload_n dX8_write_1 rfl ?_
            refine ev_callV dX8_write_2 okX8_openOne inX8_openOne seX8_openOne mlX8_88 hC.m (by decide) rfl [iV _] rfl rfl (Nat.le_of_ble_eq_true rfl) (Nat.le_of_ble_eq_true rfl) (so) (fun r_ G_ h_ => ?_)
            obtain ⟨rfl, rfl⟩ := h_
            try dsimp only [Option.toList, List.cons_append, List.nil_append]
            refine ev_astoreS dX8_write_5 (by decide) rfl ?_
            refine ev_aload dX8_write_7 rfl ?_
            refine ev_ifnull 38 dX8_write_9 (by decide) (fun c9 => by cases c9) (fun x c9 => ?_)
            refine ev_iload_n dX8_write_12 rfl ?_
            refine ev_callS dX8_write_13 okX8_isKey stX8_isKey mlX8_92 [iV _] rfl rfl (Nat.le_of_ble_eq_true rfl) (Nat.le_of_ble_eq_true rfl) (sk) (fun r_ G_ h_ => ?_)
            obtain ⟨rfl, rfl⟩ := h_
            try dsimp only [Option.toList, List.cons_append, List.nil_append]
            refine ev_if_eq 38 dX8_write_16 (by decide) (fun c16 => absurd c16 (by decide)) (fun c16 => ?_)
            refine ev_iload dX8_write_19 rfl ?_
            refine ev_if_lt 38 dX8_write_21 (by decide) (fun c21 => absurd c21 hz0) (fun c21 => ?_)
            refine ev_iload dX8_write_24 rfl ?_
            refine ev_iconstN 1 dX8_write_26 (by decide) ?_
            refine ev_icmp_gt (y := 1) 38 dX8_write_27 (by decide) (fun c27 => absurd c27 hz1) (fun c27 => ?_)
            refine ev_iload dX8_write_30 rfl ?_
            refine ev_callS dX8_write_32 okX8_isName stX8_isName mlX8_39 [iV _] rfl rfl (Nat.le_of_ble_eq_true rfl) (Nat.le_of_ble_eq_true rfl) (sn) (fun r_ G_ h_ => ?_)
            obtain ⟨rfl, rfl⟩ := h_
            try dsimp only [Option.toList, List.cons_append, List.nil_append]
            refine ev_if_ne 40 dX8_write_35 (by decide) (fun c35 => ?_) (fun c35 => absurd c35 (by decide))
            refine ev_aload dX8_write_40 rfl ?_
            refine ev_iload_n dX8_write_42 rfl ?_
            refine ev_new dX8_write_43 nwX8_100 ?_
            refine ev_dup dX8_write_46 rfl ?_
            refine ev_iload_n dX8_write_47 rfl ?_
            refine ev_iload dX8_write_48 rfl ?_
            refine ev_iload dX8_write_50 rfl ?_
            refine ev_callI dX8_write_52 okX3_init inX3_init rfl rfl mlX8_110 [iV _, iV _, iV _] rfl rfl (Nat.le_of_ble_eq_true rfl) (Nat.le_of_ble_eq_true rfl) (cs_newRow kn) (fun r_ G_ h_ => ?_)
            obtain ⟨rfl, rfl⟩ := h_
            try dsimp only [Option.toList, List.cons_append, List.nil_append]
            refine ev_callV dX8_write_55 okX7_put inX7_put seX7_put mlX8_113 k2' (by decide) rfl [iV _, rV _] rfl rfl (Nat.le_of_ble_eq_true rfl) (Nat.le_of_ble_eq_true rfl) (sp) (fun r_ G_ h_ => ?_)
            obtain ⟨rfl, rfl⟩ := h_
            try dsimp only [Option.toList, List.cons_append, List.nil_append]
            refine ev_iconstN 1 dX8_write_58 (by decide) ?_
            refine ev_zreturn dX8_write_59 rfl (by decide) ?_
            refine ⟨by first | exact hM.1 | exact h_.1 | exact hM1.1 | exact (hq2.2.1 11 (by omega)).1.trans hM1.1 | exact (y2.2.1 11 (by omega)).1.trans hM.1 | exact (q1.2 11 (by omega)).1.trans hM.1 | exact (va_up_ne _ _ (by omega)).trans hM.1 | exact (va_up_ne _ _ (by omega)).trans ((va_up_ne _ _ (by omega)).trans ((va_up_ne _ _ (by omega)).trans hM.1)), ?_⟩
            exact fin
    · rw [if_neg hy] at sk
      have fno := fno (Or.inr (Or.inl hy))
      refine ev_aload_n dX8_write_0 rfl ?_
      refine ev_iload_n dX8_write_1 rfl ?_
      refine ev_callV dX8_write_2 okX8_openOne inX8_openOne seX8_openOne mlX8_88 hC.m (by decide) rfl [iV _] rfl rfl (Nat.le_of_ble_eq_true rfl) (Nat.le_of_ble_eq_true rfl) (so) (fun r_ G_ h_ => ?_)
      obtain ⟨rfl, rfl⟩ := h_
      try dsimp only [Option.toList, List.cons_append, List.nil_append]
      refine ev_astoreS dX8_write_5 (by decide) rfl ?_
      refine ev_aload dX8_write_7 rfl ?_
      refine ev_ifnull 38 dX8_write_9 (by decide) (fun c9 => by cases c9) (fun x c9 => ?_)
      refine ev_iload_n dX8_write_12 rfl ?_
      refine ev_callS dX8_write_13 okX8_isKey stX8_isKey mlX8_92 [iV _] rfl rfl (Nat.le_of_ble_eq_true rfl) (Nat.le_of_ble_eq_true rfl) (sk) (fun r_ G_ h_ => ?_)
      obtain ⟨rfl, rfl⟩ := h_
      try dsimp only [Option.toList, List.cons_append, List.nil_append]
      refine ev_if_eq 38 dX8_write_16 (by decide) (fun c16 => ?_) (fun c16 => absurd c16 (fun z => z rfl))
      refine ev_iconstN 0 dX8_write_38 (by decide) ?_
      refine ev_zreturn dX8_write_39 rfl (by decide) ?_
      refine ⟨by first | exact hM.1 | exact h_.1 | exact hM1.1 | exact (hq2.2.1 11 (by omega)).1.trans hM1.1 | exact (y2.2.1 11 (by omega)).1.trans hM.1 | exact (q1.2 11 (by omega)).1.trans hM.1 | exact (va_up_ne _ _ (by omega)).trans hM.1 | exact (va_up_ne _ _ (by omega)).trans ((va_up_ne _ _ (by omega)).trans ((va_up_ne _ _ (by omega)).trans hM.1)), ?_⟩
      exact fno
  · have so := cs_openOne_no (X := X) (d := d + 58) (J := J) (A := A) (n := n) (sl := sl) hC t3 t1 hti (t := x) (fun j hj z => by rw [hsI j hj]; exact hno j hj z)
    have fno := fno (Or.inl hno)
    refine ev_aload_n dX8_write_0 rfl ?_
    refine ev_iload_n dX8_write_1 rfl ?_
    refine ev_callV dX8_write_2 okX8_openOne inX8_openOne seX8_openOne mlX8_88 hC.m (by decide) rfl [iV _] rfl rfl (Nat.le_of_ble_eq_true rfl) (Nat.le_of_ble_eq_true rfl) (so) (fun r_ G_ h_ => ?_)
    obtain ⟨rfl, rfl⟩ := h_
    try dsimp only [Option.toList, List.cons_append, List.nil_append]
    refine ev_astoreS dX8_write_5 (by decide) rfl ?_
    refine ev_aload dX8_write_7 rfl ?_
    refine ev_ifnull 38 dX8_write_9 (by decide) (fun c9 => ?_) (fun x c9 => by cases c9)
    refine ev_iconstN 0 dX8_write_38 (by decide) ?_
    refine ev_zreturn dX8_write_39 rfl (by decide) ?_
    refine ⟨by first | exact hM.1 | exact h_.1 | exact hM1.1 | exact (hq2.2.1 11 (by omega)).1.trans hM1.1 | exact (y2.2.1 11 (by omega)).1.trans hM.1 | exact (q1.2 11 (by omega)).1.trans hM.1 | exact (va_up_ne _ _ (by omega)).trans hM.1 | exact (va_up_ne _ _ (by omega)).trans ((va_up_ne _ _ (by omega)).trans ((va_up_ne _ _ (by omega)).trans hM.1)), ?_⟩
    exact fno
end C98E
