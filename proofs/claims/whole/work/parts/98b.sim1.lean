/-- what a transaction has of a key, in both -/
def WrJ (I A : Nat → Nat → Int32) (B : Nat → Nat → Option Nat) (n t j k : Nat) : Prop := (A (t + 1) k = 0 ∧ A 27 (32 * j + k) = 0) ∨ (A (t + 1) k = 1 ∧ A 27 (32 * j + k) = 1 ∧ ∃ r, B (t + 2) k = some r ∧ r < n ∧ ∀ f, f < 3 → A 28 (3 * (32 * j + k) + f) = I (192 + f) r) ∨ (A (t + 1) k = 1 ∧ A 27 (32 * j + k) = 2 ∧ B (t + 2) k = none)
/-- a transaction, in both -/
def TxJ (K : Nat → Nat) (I : Nat → Nat → Int32) (R : Nat → Nat → Option Nat) (A : Nat → Nat → Int32) (B : Nat → Nat → Option Nat) (Ln : Nat → Nat) (n la t j : Nat) : Prop := B 6 j = some t ∧ (34 ≤ t ∧ t + 2 < n) ∧ TxO K R B Ln t ∧ I 449 t = A 25 j ∧ I 448 t = A 26 j ∧ (∃ b, b ≤ la ∧ A 26 j = nI b) ∧ I 450 t = bZ (!allN (fun k => decide (A 27 (32 * j + k) = 0)) 32) ∧ ∀ k, k < 32 → WrJ I A B n t j k
def SmT (K : Nat → Nat) (I : Nat → Nat → Int32) (R : Nat → Nat → Option Nat) (A : Nat → Nat → Int32) (B : Nat → Nat → Option Nat) (Ln : Nat → Nat) (n tn la : Nat) (ti : Nat → Nat) : Prop := (tn ≤ 60 ∧ la ≤ tn) ∧ I 517 3 = nI tn ∧ I 595 11 = nI tn ∧ I 519 3 = nI la ∧ I 594 11 = nI la ∧ (∀ i j, i < j → j < tn → ti i + 3 ≤ ti j) ∧ (∀ j, j < tn → TxJ K I R A B Ln n la (ti j) j) ∧ (cnt (fun j => decide (A 25 j = 1)) tn ≤ 5 ∧ la + cnt (fun j => decide (A 25 j = 1)) tn ≤ tn) ∧ (∀ i, 32 * tn ≤ i → A 27 i = 0) ∧ ∀ q, A 27 q = 1 → ∃ nm, nm < 2147483648 ∧ A 28 (3 * q + 2) = nI nm
def SmP (K : Nat → Nat) (I : Nat → Nat → Int32) (R : Nat → Nat → Option Nat) (A : Nat → Nat → Int32) (B : Nat → Nat → Option Nat) (pn : Nat) (px : Nat → Nat) (pe : Nat → EX) : Prop := I 513 3 = nI pn ∧ I 576 11 = nI pn ∧ pn ≤ 8 ∧ ∀ j, j < pn → B 4 j = some (px j) ∧ ExpR K I R 16 (px j) (pe j) ∧ ExA A j (pe j) ∧ A 15 j = bZ (tyE (pe j))
def SmX (K : Nat → Nat) (I : Nat → Nat → Int32) (R : Nat → Nat → Option Nat) (A : Nat → Nat → Int32) (B : Nat → Nat → Option Nat) (ixn : Nat) (ie : Nat → EX) : Prop := IxR K I R B ixn ie ∧ I 577 11 = nI ixn ∧ ∀ i, i < ixn → ExA A (8 + i) (ie i)
def SmR (I A : Nat → Nat → Int32) (rn : Nat) : Prop := I 521 3 = nI rn ∧ I 603 11 = nI rn ∧ rn ≤ 32 ∧ ∀ j, j < rn → A 10 j = A 31 j
def SmL (K : Nat → Nat) (I : Nat → Nat → Int32) (J : Nat → Nat → Int64) (R : Nat → Nat → Option Nat) (p : PP) : Prop := PlC K I J R p ∧ I 604 11 = oI p.1 ∧ J 606 11 = p.2.1 ∧ J 607 11 = p.2.2 ∧ (p.1 = none → p.2 = (0, 0)) ∧ I 524 3 = I 605 11
def anyM (s : SA) : Bool := s.1.any (fun x => decide (eF x = 0))
def SmE (s : SA) (la : Nat) : Prop := (∀ x ∈ s.1, eT x ≤ nI la ∧ (eS x = 0 → eV x = 0) ∧ ∃ nm, nm < 2147483648 ∧ x.2.2.2.2.2.2.2.2 = nI nm) ∧ lvS s (nI 0) + (if anyM s = true then 1 else 0) ≤ la ∧ ∀ p ∈ s.2.1, p.2 = nI 0 ∨ p.2 = nI 1 ∨ p.2 = nI 2
/-- class and reference stand alike -/
def Sim (K : Nat → Nat) (I : Nat → Nat → Int32) (J : Nat → Nat → Int64) (R : Nat → Nat → Option Nat) (A : Nat → Nat → Int32) (B : Nat → Nat → Option Nat) (Ln : Nat → Nat) (n : Nat) (a m : Nat) (cs fs : List Nat) (s : SA) (many tn la : Nat) (ti : Nat → Nat) (pn : Nat) (px : Nat → Nat) (pe : Nat → EX) (ixn : Nat) (ie : Nat → EX) (rn : Nat) (p : PP) : Prop := HpC K I J R A B Ln n a m cs fs s ∧ MFix K R Ln ∧ RfR I A many s ∧ SmT K I R A B Ln n tn la ti ∧ SmP K I R A B pn px pe ∧ SmX K I R A B ixn ie ∧ SmR I A rn ∧ SmL K I J R p ∧ SmE s la
def phT (s : SA) : Nat := phS s + (if anyM s = true then 2210 else 0)
/-- the room that c calls may have taken -/
def RmC (c n sl m la : Nat) (s : SA) : Prop := n + phT s + 2800 * (60 - la) ≤ 170000 + 60 * c + m ∧ sl + 7 * phT s + 20000 * (60 - la) ≤ 1300000 + 300 * c + 800 * m ∧ s.2.2 ≤ 25000 * c
def StG (c : Nat) (G : GH) : Prop := ∃ (K : Nat → Nat) (I : Nat → Nat → Int32) (J : Nat → Nat → Int64) (R : Nat → Nat → Option Nat) (A : Nat → Nat → Int32) (B : Nat → Nat → Option Nat) (Ln : Nat → Nat) (n : Nat) (sl : Nat) (a m : Nat) (cs fs : List Nat) (s : SA) (many tn la : Nat) (ti : Nat → Nat) (pn : Nat) (px : Nat → Nat) (pe : Nat → EX) (ixn : Nat) (ie : Nat → EX) (rn : Nat) (p : PP), G = (K, I, J, R, A, B, Ln, n, sl) ∧ Sim K I J R A B Ln n a m cs fs s many tn la ti pn px pe ixn ie rn p ∧ RmC c n sl m la s
section C98B
variable {X : CX} {d : Nat} {K : Nat → Nat} {I : Nat → Nat → Int32} {J : Nat → Nat → Int64} {R : Nat → Nat → Option Nat} {A : Nat → Nat → Int32} {B : Nat → Nat → Option Nat} {Ln : Nat → Nat} {n sl : Nat} {a m : Nat} {cs fs : List Nat} {s : SA} {many tn la : Nat} {ti : Nat → Nat} {pn : Nat} {px : Nat → Nat} {pe : Nat → EX} {ixn : Nat} {ie : Nat → EX} {rn : Nat} {p : PP}
set_option maxRecDepth 100000 in
set_option maxHeartbeats 4000000 in
theorem Sim.tis (h : Sim K I J R A B Ln n a m cs fs s many tn la ti pn px pe ixn ie rn p) : ∀ j, j < tn → B 6 j = some (ti j) ∧ K (ti j) = 7 := fun j hj => by
  obtain ⟨-, -, -, hT, -⟩ := h
  obtain ⟨z1, -, z2, -⟩ := hT.2.2.2.2.2.2.1 j hj
  exact ⟨z1, z2.1⟩
theorem Sim.vld (h : Sim K I J R A B Ln n a m cs fs s many tn la ti pn px pe ixn ie rn p) (hmd : s.2.2 < 2147483648) : many ≤ 500 ∧ s.2.1.length ≤ 500 ∧ SaV s := by
  have hv := h.1.2.1.valid hmd
  have := h.2.2.1.len
  exact ⟨by rw [this]; exact hv.2.2.2.2.1, hv.2.2.2.2.2, hv⟩
theorem op_state (h : Sim K I J R A B Ln n a m cs fs s many tn la ti pn px pe ixn ie rn p) (x : Int32) {P : GH → Prop} (hP : P (K, I, J, R, A, B, Ln, n, sl)) : EvM X mX8_state (d + 60) [rV (some 3), iV x] (K, I, J, R, A, B, Ln, n, sl) (fun r1 G1 => G1.1 11 = 9 ∧ EvM X mX9_state (d + 60) [rV (some 11), iV x] G1 (fun r2 G2 => r2 = r1 ∧ P G2)) := by
  have hti := h.tis
  obtain ⟨hH, hM, hR, hT, -⟩ := h
  obtain ⟨⟨t1, t2⟩, t3, t4, t5, t6, t7, t8, t9, t10, t11⟩ := hT
  have hC := hH.1
  show Ev X mX8_state (d + 60) 0 [some (rV (some 3)), some (iV x), none] [] (K, I, J, R, A, B, Ln, n, sl) _
  by_cases hex : ∃ j, j < tn ∧ x = nI j
  · obtain ⟨j, hj, rfl⟩ := hex
    obtain ⟨z1, z2⟩ := hti j hj
    have e1 : I 449 (ti j) = A 25 j := (t8 j hj).2.2.2.1
    have fin : EvM X mX9_state (d + 60) [rV (some 11), iV (nI j)] (K, I, J, R, A, B, Ln, n, sl) (fun r2 G2 => r2 = some (iV (A 25 j)) ∧ P G2) := (sp_state_yes hM t4 t1 hj).mono (fun r G' ⟨h1, h2⟩ => ⟨h1, by rw [h2]; exact hP⟩)
    refine ev_aload_n dX8_state_0 rfl ?_
    refine ev_iload_n dX8_state_1 rfl ?_
    refine ev_callV dX8_state_2 okX8_transactionOf inX8_transactionOf seX8_transactionOf mlX8_196 hC.m (by decide) rfl [iV _] rfl rfl (Nat.le_of_ble_eq_true rfl) (Nat.le_of_ble_eq_true rfl) (cs_txOf hC t3 t1 hj z1) (fun r_ G_ h_ => ?_)
    obtain ⟨rfl, rfl⟩ := h_
    try dsimp only [Option.toList, List.cons_append, List.nil_append]
    refine ev_astore_nS dX8_state_5 (by decide) rfl ?_
    refine ev_aload_n dX8_state_6 rfl ?_
    refine ev_ifnonnull 14 dX8_state_7 (by decide) (fun x c7 => ?_) (fun c7 => by cases c7)
    refine ev_aload_n dX8_state_14 rfl ?_
    refine ev_getIv dX8_state_15 fX8_138 z2 e1 ?_
    refine ev_ireturn dX8_state_18 rfl ?_
    refine ⟨by first | exact hM.1 | exact h_.1 | exact hM1.1 | exact (hq2.2.1 11 (by omega)).1.trans hM1.1 | exact (y2.2.1 11 (by omega)).1.trans hM.1 | exact (q1.2 11 (by omega)).1.trans hM.1 | exact (va_up_ne _ _ (by omega)).trans hM.1 | exact (va_up_ne _ _ (by omega)).trans ((va_up_ne _ _ (by omega)).trans ((va_up_ne _ _ (by omega)).trans hM.1)), ?_⟩
    exact fin
  · have hno : ∀ j, j < tn → ¬ x = nI j := fun j hj z => hex ⟨j, hj, z⟩
    have fin : EvM X mX9_state (d + 60) [rV (some 11), iV x] (K, I, J, R, A, B, Ln, n, sl) (fun r2 G2 => r2 = some (iV (-1)) ∧ P G2) := (sp_state_no hM t4 t1 hno).mono (fun r G' ⟨h1, h2⟩ => ⟨h1, by rw [h2]; exact hP⟩)
    refine ev_aload_n dX8_state_0 rfl ?_
    refine ev_iload_n dX8_state_1 rfl ?_
    refine ev_callV dX8_state_2 okX8_transactionOf inX8_transactionOf seX8_transactionOf mlX8_196 hC.m (by decide) rfl [iV _] rfl rfl (Nat.le_of_ble_eq_true rfl) (Nat.le_of_ble_eq_true rfl) (cs_txOf_no hC t3 t1 hno) (fun r_ G_ h_ => ?_)
    obtain ⟨rfl, rfl⟩ := h_
    try dsimp only [Option.toList, List.cons_append, List.nil_append]
    refine ev_astore_nS dX8_state_5 (by decide) rfl ?_
    refine ev_aload_n dX8_state_6 rfl ?_
    refine ev_ifnonnull 14 dX8_state_7 (by decide) (fun x c7 => by cases c7) (fun c7 => ?_)
    refine ev_iconst (-1) dX8_state_10 (by decide) ?_
    refine ev_goto 18 dX8_state_11 (by decide) ?_
    refine ev_ireturn dX8_state_18 rfl ?_
    refine ⟨by first | exact hM.1 | exact h_.1 | exact hM1.1 | exact (hq2.2.1 11 (by omega)).1.trans hM1.1 | exact (y2.2.1 11 (by omega)).1.trans hM.1 | exact (q1.2 11 (by omega)).1.trans hM.1 | exact (va_up_ne _ _ (by omega)).trans hM.1 | exact (va_up_ne _ _ (by omega)).trans ((va_up_ne _ _ (by omega)).trans ((va_up_ne _ _ (by omega)).trans hM.1)), ?_⟩
    exact fin
theorem op_result (h : Sim K I J R A B Ln n a m cs fs s many tn la ti pn px pe ixn ie rn p) (x : Int32) {P : GH → Prop} (hP : P (K, I, J, R, A, B, Ln, n, sl)) : EvM X mX8_result (d + 60) [rV (some 3), iV x] (K, I, J, R, A, B, Ln, n, sl) (fun r1 G1 => G1.1 11 = 9 ∧ EvM X mX9_result (d + 60) [rV (some 11), iV x] G1 (fun r2 G2 => r2 = r1 ∧ P G2)) := by
  obtain ⟨hH, hM, -, -, -, -, hRe, -⟩ := h
  obtain ⟨r1, r2, r3, r4⟩ := hRe
  have hC := hH.1
  show Ev X mX8_result (d + 60) 0 [some (rV (some 3)), some (iV x)] [] (K, I, J, R, A, B, Ln, n, sl) _
  by_cases hex : ∃ j, j < rn ∧ x = nI j
  · obtain ⟨j, hj, rfl⟩ := hex
    have fin : EvM X mX9_result (d + 60) [rV (some 11), iV (nI j)] (K, I, J, R, A, B, Ln, n, sl) (fun r2 G2 => r2 = some (iV (A 10 j)) ∧ P G2) := (sp_result_yes hM r2 r3 hj).mono (fun r G' ⟨h1, h2⟩ => ⟨by rw [h1, r4 j hj], by rw [h2]; exact hP⟩)
    refine ev_iload_n dX8_result_0 rfl ?_
    refine ev_if_ltN 21 dX8_result_1 (by decide) (by omega) ?_
    refine ev_iload_n dX8_result_4 rfl ?_
    refine ev_aload_n dX8_result_5 rfl ?_
    refine ev_getIv dX8_result_6 fX8_131 hC.m r1 ?_
    refine ev_icmp_geN 21 dX8_result_9 (by decide) (by omega) (by omega) (fun c9 => absurd c9 (by omega)) (fun c9 => ?_)
    refine ev_aload_n dX8_result_12 rfl ?_
    refine ev_getR dX8_result_13 fX8_31 hC.m hC.R_rk ?_
    refine ev_iload_n dX8_result_16 rfl ?_
    refine ev_iald dX8_result_17 hC.K_rk hC.L_rk (by decide) (by omega) ?_
    refine ev_goto 22 dX8_result_18 (by decide) ?_
    refine ev_ireturn dX8_result_22 rfl ?_
    refine ⟨by first | exact hM.1 | exact h_.1 | exact hM1.1 | exact (hq2.2.1 11 (by omega)).1.trans hM1.1 | exact (y2.2.1 11 (by omega)).1.trans hM.1 | exact (q1.2 11 (by omega)).1.trans hM.1 | exact (va_up_ne _ _ (by omega)).trans hM.1 | exact (va_up_ne _ _ (by omega)).trans ((va_up_ne _ _ (by omega)).trans ((va_up_ne _ _ (by omega)).trans hM.1)), ?_⟩
    exact fin
  · have hno : ∀ j, j < rn → ¬ x = nI j := fun j hj z => hex ⟨j, hj, z⟩
    have fin : EvM X mX9_result (d + 60) [rV (some 11), iV x] (K, I, J, R, A, B, Ln, n, sl) (fun r2 G2 => r2 = some (iV (-1)) ∧ P G2) := (sp_result_no hM r2 r3 hno).mono (fun r G' ⟨h1, h2⟩ => ⟨h1, by rw [h2]; exact hP⟩)
    refine ev_iload_n dX8_result_0 rfl ?_
    refine ev_if_lt 21 dX8_result_1 (by decide) (fun c1 => ?_) (fun c1 => ?_)
    · refine ev_iconst (-1) dX8_result_21 (by decide) ?_
      refine ev_ireturn dX8_result_22 rfl ?_
      refine ⟨by first | exact hM.1 | exact h_.1 | exact hM1.1 | exact (hq2.2.1 11 (by omega)).1.trans hM1.1 | exact (y2.2.1 11 (by omega)).1.trans hM.1 | exact (q1.2 11 (by omega)).1.trans hM.1 | exact (va_up_ne _ _ (by omega)).trans hM.1 | exact (va_up_ne _ _ (by omega)).trans ((va_up_ne _ _ (by omega)).trans ((va_up_ne _ _ (by omega)).trans hM.1)), ?_⟩
      exact fin
    · refine ev_iload_n dX8_result_4 rfl ?_
      refine ev_aload_n dX8_result_5 rfl ?_
      refine ev_getIv dX8_result_6 fX8_131 hC.m r1 ?_
      refine ev_icmp_ge 21 dX8_result_9 (by decide) (fun c9 => ?_) (fun c9 => ?_)
      · refine ev_iconst (-1) dX8_result_21 (by decide) ?_
        refine ev_ireturn dX8_result_22 rfl ?_
        refine ⟨by first | exact hM.1 | exact h_.1 | exact hM1.1 | exact (hq2.2.1 11 (by omega)).1.trans hM1.1 | exact (y2.2.1 11 (by omega)).1.trans hM.1 | exact (q1.2 11 (by omega)).1.trans hM.1 | exact (va_up_ne _ _ (by omega)).trans hM.1 | exact (va_up_ne _ _ (by omega)).trans ((va_up_ne _ _ (by omega)).trans ((va_up_ne _ _ (by omega)).trans hM.1)), ?_⟩
        exact fin
      · exfalso
        rcases pk_ix x (n := rn) (by omega) with z | z | ⟨j, hj, z⟩
        · exact c1 z
        · exact c9 z
        · exact hno j hj z
set_option maxRecDepth 100000 in
set_option maxHeartbeats 4000000 in
theorem i4_cases (x : Int32) {k : Nat} (hk : k < 2147483648) : (∃ j, j < k ∧ x = nI j) ∨ (x.toInt < 0 ∨ (k : Int) - 1 < x.toInt) := by
  rcases pk_ix x (n := k) (by omega) with z | z | z
  · rw [Int32.lt_iff_toInt_lt, show (0 : Int32).toInt = 0 by decide] at z; exact Or.inr (Or.inl z)
  · rw [Int32.le_iff_toInt_le, nI_toInt hk] at z; exact Or.inr (Or.inr (by omega))
  · exact Or.inl z
theorem op_plan (h : Sim K I J R A B Ln n a m cs fs s many tn la ti pn px pe ixn ie rn p) (x : Int32) {P : GH → Prop} (hP : P (K, I, J, R, A, B, Ln, n, sl)) : EvM X mX8_plan (d + 60) [rV (some 3), iV x] (K, I, J, R, A, B, Ln, n, sl) (fun r1 G1 => G1.1 11 = 9 ∧ EvM X mX9_plan (d + 60) [rV (some 11), iV x] G1 (fun r2 G2 => r2 = r1 ∧ P G2)) := by
  obtain ⟨hH, hM, -, -, -, -, -, hL, -⟩ := h
  obtain ⟨⟨l1, lq⟩, l2, l3, l4, l5, l6⟩ := hL
  have hC := hH.1
  have fin := (sp_plan (X := X) (d := d + 60) (I := I) (J := J) (A := A) (B := B) (n := n) (sl := sl) hM (x := x)).mono (Q' := fun r2 G2 => r2 = some (lV (plM I J x)) ∧ P G2) (fun r G' ⟨h1, h2⟩ => ⟨h1, by rw [h2]; exact hP⟩)
  show Ev X mX8_plan (d + 60) 0 [some (rV (some 3)), some (iV x)] [] (K, I, J, R, A, B, Ln, n, sl) _
  rcases i4_cases x (k := 4) (by decide) with ⟨j, hj, rfl⟩ | hx
  · obtain rfl | rfl | rfl | rfl : j = 0 ∨ j = 1 ∨ j = 2 ∨ j = 3 := by omega
    · have e : plM I J (nI 0) = (oI p.1).toInt64 := by rw [← l2]; rfl
      rw [e] at fin
      refine ev_iload_n dX8_plan_0 rfl ?_
      refine ev_tswIn (x := 0) 32 dX8_plan_1 (by decide) (by decide) rfl (by decide) ?_
      refine ev_aload_n dX8_plan_32 rfl ?_
      refine ev_getIv dX8_plan_33 fX8_35 hC.m l1 ?_
      refine ev_i2l dX8_plan_36 ?_
      refine ev_lreturn dX8_plan_37 rfl ?_
      refine ⟨by first | exact hM.1 | exact h_.1 | exact hM1.1 | exact (hq2.2.1 11 (by omega)).1.trans hM1.1 | exact (y2.2.1 11 (by omega)).1.trans hM.1 | exact (q1.2 11 (by omega)).1.trans hM.1 | exact (va_up_ne _ _ (by omega)).trans hM.1 | exact (va_up_ne _ _ (by omega)).trans ((va_up_ne _ _ (by omega)).trans ((va_up_ne _ _ (by omega)).trans hM.1)), ?_⟩
      exact fin
    · have e : plM I J (nI 1) = (I 605 11).toInt64 := rfl
      rw [e] at fin
      refine ev_iload_n dX8_plan_0 rfl ?_
      refine ev_tswIn (x := 1) 38 dX8_plan_1 (by decide) (by decide) rfl (by decide) ?_
      refine ev_aload_n dX8_plan_38 rfl ?_
      refine ev_getIv dX8_plan_39 fX8_178 hC.m l6 ?_
      refine ev_i2l dX8_plan_42 ?_
      refine ev_lreturn dX8_plan_43 rfl ?_
      refine ⟨by first | exact hM.1 | exact h_.1 | exact hM1.1 | exact (hq2.2.1 11 (by omega)).1.trans hM1.1 | exact (y2.2.1 11 (by omega)).1.trans hM.1 | exact (q1.2 11 (by omega)).1.trans hM.1 | exact (va_up_ne _ _ (by omega)).trans hM.1 | exact (va_up_ne _ _ (by omega)).trans ((va_up_ne _ _ (by omega)).trans ((va_up_ne _ _ (by omega)).trans hM.1)), ?_⟩
      exact fin
    · have e : plM I J (nI 2) = p.2.1 := by rw [← l3]; rfl
      rw [e] at fin
      rcases lq with ⟨z1, z2⟩ | ⟨z1, q, z2, z3, z4, z5⟩
      · rw [l5 z1] at fin
        refine ev_iload_n dX8_plan_0 rfl ?_
        refine ev_tswIn (x := 2) 44 dX8_plan_1 (by decide) (by decide) rfl (by decide) ?_
        refine ev_aload_n dX8_plan_44 rfl ?_
        refine ev_getR dX8_plan_45 fX8_181 hC.m z2 ?_
        refine ev_ifnonnull 55 dX8_plan_48 (by decide) (fun x c48 => by cases c48) (fun c48 => ?_)
        refine ev_lconst 0 dX8_plan_51 (by decide) ?_
        refine ev_goto 62 dX8_plan_52 (by decide) ?_
        refine ev_lreturn dX8_plan_62 rfl ?_
        refine ⟨by first | exact hM.1 | exact h_.1 | exact hM1.1 | exact (hq2.2.1 11 (by omega)).1.trans hM1.1 | exact (y2.2.1 11 (by omega)).1.trans hM.1 | exact (q1.2 11 (by omega)).1.trans hM.1 | exact (va_up_ne _ _ (by omega)).trans hM.1 | exact (va_up_ne _ _ (by omega)).trans ((va_up_ne _ _ (by omega)).trans ((va_up_ne _ _ (by omega)).trans hM.1)), ?_⟩
        exact fin
      · skip
        refine ev_iload_n dX8_plan_0 rfl ?_
        refine ev_tswIn (x := 2) 44 dX8_plan_1 (by decide) (by decide) rfl (by decide) ?_
        refine ev_aload_n dX8_plan_44 rfl ?_
        refine ev_getR dX8_plan_45 fX8_181 hC.m z2 ?_
        refine ev_ifnonnull 55 dX8_plan_48 (by decide) (fun x c48 => ?_) (fun c48 => by cases c48)
        refine ev_aload_n dX8_plan_55 rfl ?_
        refine ev_getR dX8_plan_56 fX8_181 hC.m z2 ?_
        refine ev_getJv dX8_plan_59 fX8_185 z3 z4 ?_
        refine ev_lreturn dX8_plan_62 rfl ?_
        refine ⟨by first | exact hM.1 | exact h_.1 | exact hM1.1 | exact (hq2.2.1 11 (by omega)).1.trans hM1.1 | exact (y2.2.1 11 (by omega)).1.trans hM.1 | exact (q1.2 11 (by omega)).1.trans hM.1 | exact (va_up_ne _ _ (by omega)).trans hM.1 | exact (va_up_ne _ _ (by omega)).trans ((va_up_ne _ _ (by omega)).trans ((va_up_ne _ _ (by omega)).trans hM.1)), ?_⟩
        exact fin
    · have e : plM I J (nI 3) = p.2.2 := by rw [← l4]; rfl
      rw [e] at fin
      rcases lq with ⟨z1, z2⟩ | ⟨z1, q, z2, z3, z4, z5⟩
      · rw [l5 z1] at fin
        refine ev_iload_n dX8_plan_0 rfl ?_
        refine ev_tswIn (x := 3) 63 dX8_plan_1 (by decide) (by decide) rfl (by decide) ?_
        refine ev_aload_n dX8_plan_63 rfl ?_
        refine ev_getR dX8_plan_64 fX8_181 hC.m z2 ?_
        refine ev_ifnonnull 74 dX8_plan_67 (by decide) (fun x c67 => by cases c67) (fun c67 => ?_)
        refine ev_lconst 0 dX8_plan_70 (by decide) ?_
        refine ev_goto 81 dX8_plan_71 (by decide) ?_
        refine ev_lreturn dX8_plan_81 rfl ?_
        refine ⟨by first | exact hM.1 | exact h_.1 | exact hM1.1 | exact (hq2.2.1 11 (by omega)).1.trans hM1.1 | exact (y2.2.1 11 (by omega)).1.trans hM.1 | exact (q1.2 11 (by omega)).1.trans hM.1 | exact (va_up_ne _ _ (by omega)).trans hM.1 | exact (va_up_ne _ _ (by omega)).trans ((va_up_ne _ _ (by omega)).trans ((va_up_ne _ _ (by omega)).trans hM.1)), ?_⟩
        exact fin
      · skip
        refine ev_iload_n dX8_plan_0 rfl ?_
        refine ev_tswIn (x := 3) 63 dX8_plan_1 (by decide) (by decide) rfl (by decide) ?_
        refine ev_aload_n dX8_plan_63 rfl ?_
        refine ev_getR dX8_plan_64 fX8_181 hC.m z2 ?_
        refine ev_ifnonnull 74 dX8_plan_67 (by decide) (fun x c67 => ?_) (fun c67 => by cases c67)
        refine ev_aload_n dX8_plan_74 rfl ?_
        refine ev_getR dX8_plan_75 fX8_181 hC.m z2 ?_
        refine ev_getJv dX8_plan_78 fX8_191 z3 z5 ?_
        refine ev_lreturn dX8_plan_81 rfl ?_
        refine ⟨by first | exact hM.1 | exact h_.1 | exact hM1.1 | exact (hq2.2.1 11 (by omega)).1.trans hM1.1 | exact (y2.2.1 11 (by omega)).1.trans hM.1 | exact (q1.2 11 (by omega)).1.trans hM.1 | exact (va_up_ne _ _ (by omega)).trans hM.1 | exact (va_up_ne _ _ (by omega)).trans ((va_up_ne _ _ (by omega)).trans ((va_up_ne _ _ (by omega)).trans hM.1)), ?_⟩
        exact fin
  · have e : plM I J x = -1 := by
      unfold plM
      rw [if_pos]
      rcases hx with z | z
      · exact Or.inl (by rw [Int32.lt_iff_toInt_lt, show (0 : Int32).toInt = 0 by decide]; exact z)
      · exact Or.inr (by rw [Int32.lt_iff_toInt_lt, show (3 : Int32).toInt = 3 by decide]; omega)
    rw [e] at fin
    refine ev_iload_n dX8_plan_0 rfl ?_
    refine ev_tswOut 82 dX8_plan_1 hx (by decide) ?_
    refine ev_ldc2 dX8_plan_82 coX8_194 ?_
    refine ev_lreturn dX8_plan_85 rfl ?_
    refine ⟨by first | exact hM.1 | exact h_.1 | exact hM1.1 | exact (hq2.2.1 11 (by omega)).1.trans hM1.1 | exact (y2.2.1 11 (by omega)).1.trans hM.1 | exact (q1.2 11 (by omega)).1.trans hM.1 | exact (va_up_ne _ _ (by omega)).trans hM.1 | exact (va_up_ne _ _ (by omega)).trans ((va_up_ne _ _ (by omega)).trans ((va_up_ne _ _ (by omega)).trans hM.1)), ?_⟩
    exact fin
set_option maxRecDepth 100000 in
set_option maxHeartbeats 4000000 in
theorem op_files (h : Sim K I J R A B Ln n a m cs fs s many tn la ti pn px pe ixn ie rn p) (hmd : s.2.2 < 2147483648) (x : Int32) {P : GH → Prop} (hP : P (K, I, J, R, A, B, Ln, n, sl)) : EvM X mX8_files (d + 60) [rV (some 3), iV x] (K, I, J, R, A, B, Ln, n, sl) (fun r1 G1 => G1.1 11 = 9 ∧ EvM X mX9_files (d + 60) [rV (some 11), iV x] G1 (fun r2 G2 => r2 = r1 ∧ P G2)) := by
  obtain ⟨-, hf5, -⟩ := h.vld hmd
  obtain ⟨hH, hM, hR, -⟩ := h
  have hC := hH.1
  have fin := (sp_files (X := X) (d := d + 60) (I := I) (J := J) (A := A) (B := B) (n := n) (sl := sl) hM (x := x) hR.2.2.2.1 (by omega)).mono (Q' := fun r2 G2 => r2 = some (iV (if x < 0 ∨ 2 < x then -1 else nI (lvS s x))) ∧ P G2) (fun r G' ⟨h1, h2⟩ => ⟨by rw [h1, hR.2.2.1.cnt x, ← List.countP_eq_length_filter]; rfl, by rw [h2]; exact hP⟩)
  have sc := cs_countFiles (X := X) (d := d + 56) (J := J) (A := A) (sl := sl) (lv := x) hC hH.2.1.1.1.2.1
  rw [hH.2.1.lv] at sc
  show Ev X mX8_files (d + 60) 0 [some (rV (some 3)), some (iV x)] [] (K, I, J, R, A, B, Ln, n, sl) _
  refine ev_iload_n dX8_files_0 rfl ?_
  refine ev_if_lt 9 dX8_files_1 (by decide) (fun c1 => ?_) (fun c1 => ?_)
  · refine ev_iconst (-1) dX8_files_9 (by decide) ?_
    refine ev_goto 21 dX8_files_10 (by decide) ?_
    refine ev_ireturn dX8_files_21 rfl ?_
    refine ⟨by first | exact hM.1 | exact h_.1 | exact hM1.1 | exact (hq2.2.1 11 (by omega)).1.trans hM1.1 | exact (y2.2.1 11 (by omega)).1.trans hM.1 | exact (q1.2 11 (by omega)).1.trans hM.1 | exact (va_up_ne _ _ (by omega)).trans hM.1 | exact (va_up_ne _ _ (by omega)).trans ((va_up_ne _ _ (by omega)).trans ((va_up_ne _ _ (by omega)).trans hM.1)), ?_⟩
    first | (rw [if_pos (Or.inl c1)] at fin; exact fin) | (rw [if_pos (Or.inr (Int32.not_le.mp c6))] at fin; exact fin) | (rw [if_neg (fun z => z.elim c1 (Int32.not_lt.mpr c6))] at fin; exact fin)
  · refine ev_iload_n dX8_files_4 rfl ?_
    refine ev_iconstN 2 dX8_files_5 (by decide) ?_
    refine ev_icmp_le (y := 2) 13 dX8_files_6 (by decide) (fun c6 => ?_) (fun c6 => ?_)
    · refine ev_aload_n dX8_files_13 rfl ?_
      refine ev_getR dX8_files_14 fX8_27 hC.m hC.R_st ?_
      refine ev_iload_n dX8_files_17 rfl ?_
      refine ev_callV dX8_files_18 okX6_countFiles inX6_countFiles seX6_countFiles mlX8_168 hC.K_st (by decide) rfl [iV _] rfl rfl (Nat.le_of_ble_eq_true rfl) (Nat.le_of_ble_eq_true rfl) (sc) (fun r_ G_ h_ => ?_)
      obtain ⟨rfl, rfl⟩ := h_
      try dsimp only [Option.toList, List.cons_append, List.nil_append]
      refine ev_ireturn dX8_files_21 rfl ?_
      refine ⟨by first | exact hM.1 | exact h_.1 | exact hM1.1 | exact (hq2.2.1 11 (by omega)).1.trans hM1.1 | exact (y2.2.1 11 (by omega)).1.trans hM.1 | exact (q1.2 11 (by omega)).1.trans hM.1 | exact (va_up_ne _ _ (by omega)).trans hM.1 | exact (va_up_ne _ _ (by omega)).trans ((va_up_ne _ _ (by omega)).trans ((va_up_ne _ _ (by omega)).trans hM.1)), ?_⟩
      first | (rw [if_pos (Or.inl c1)] at fin; exact fin) | (rw [if_pos (Or.inr (Int32.not_le.mp c6))] at fin; exact fin) | (rw [if_neg (fun z => z.elim c1 (Int32.not_lt.mpr c6))] at fin; exact fin)
    · refine ev_iconst (-1) dX8_files_9 (by decide) ?_
      refine ev_goto 21 dX8_files_10 (by decide) ?_
      refine ev_ireturn dX8_files_21 rfl ?_
      refine ⟨by first | exact hM.1 | exact h_.1 | exact hM1.1 | exact (hq2.2.1 11 (by omega)).1.trans hM1.1 | exact (y2.2.1 11 (by omega)).1.trans hM.1 | exact (q1.2 11 (by omega)).1.trans hM.1 | exact (va_up_ne _ _ (by omega)).trans hM.1 | exact (va_up_ne _ _ (by omega)).trans ((va_up_ne _ _ (by omega)).trans ((va_up_ne _ _ (by omega)).trans hM.1)), ?_⟩
      first | (rw [if_pos (Or.inl c1)] at fin; exact fin) | (rw [if_pos (Or.inr (Int32.not_le.mp c6))] at fin; exact fin) | (rw [if_neg (fun z => z.elim c1 (Int32.not_lt.mpr c6))] at fin; exact fin)
end C98B
