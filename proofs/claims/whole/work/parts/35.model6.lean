section M6
variable {X : CX} {d : Nat} {K : Nat → Nat} {I : Nat → Nat → Int32} {J : Nat → Nat → Int64} {R : Nat → Nat → Option Nat} {A : Nat → Nat → Int32} {B : Nat → Nat → Option Nat} {Ln : Nat → Nat} {n sl : Nat}
set_option maxRecDepth 100000 in
set_option maxHeartbeats 4000000 in
theorem sp_begin_no (hM : MFix K R Ln) {tn : Nat} (ht : I 595 11 = nI tn) (hb : tn ≤ 60) (hc : cnt (fun t => decide (A 25 t = 1)) tn = 5 ∨ tn = 60) : EvM X mX9_begin (d + 1) [rV (some 11)] (K, I, J, R, A, B, Ln, n, sl) (fun r G' => r = some (iV (-1)) ∧ G' = (K, I, J, R, A, B, Ln, n, sl)) := by
  have hle := cnt_le (fun t => decide (A 25 t = 1)) tn
  show Ev X mX9_begin (d + 1) 0 [some (rV (some 11))] [] (K, I, J, R, A, B, Ln, n, sl) _
  refine ev_aload_n dX9_begin_0 rfl ?_
  refine ev_callV dX9_begin_1 okX9_opens inX9_opens seX9_opens mlX9_119 hM.m (by decide) rfl [] rfl rfl (Nat.le_of_ble_eq_true rfl) (Nat.le_of_ble_eq_true rfl) (sp_opens hM ht hb) (fun r_ G_ h_ => ?_)
  obtain ⟨rfl, rfl⟩ := h_
  try dsimp only [Option.toList, List.cons_append, List.nil_append]
  refine ev_iconstN 5 dX9_begin_4 (by decide) ?_
  refine ev_icmp_eqN 17 dX9_begin_5 (by decide) (by omega) (by omega) (fun c5 => ?_) (fun c5 => ?_)
  · refine ev_iconst (-1) dX9_begin_17 (by decide) ?_
    refine ev_ireturn dX9_begin_18 rfl ?_
    exact ⟨rfl, rfl⟩
  · refine ev_aload_n dX9_begin_8 rfl ?_
    refine ev_getIv dX9_begin_9 fX9_116 hM.m ht ?_
    refine ev_bipushN 60 dX9_begin_12 (by decide) ?_
    refine ev_icmp_neN 19 dX9_begin_14 (by decide) (by omega) (by omega) (fun c14 => ?_) (fun c14 => ?_)
    · omega
    · refine ev_iconst (-1) dX9_begin_17 (by decide) ?_
      refine ev_ireturn dX9_begin_18 rfl ?_
      exact ⟨rfl, rfl⟩
set_option maxRecDepth 100000 in
set_option maxHeartbeats 4000000 in
theorem sp_begin_yes (hM : MFix K R Ln) {tn : Nat} (ht : I 595 11 = nI tn) (hb : tn ≤ 60) (h5 : cnt (fun t => decide (A 25 t = 1)) tn ≠ 5) (h60 : tn ≠ 60) : EvM X mX9_begin (d + 1) [rV (some 11)] (K, I, J, R, A, B, Ln, n, sl) (fun r G' => r = some (iV (nI tn)) ∧ G' = (K, u2 I 595 11 (nI (tn + 1)), J, R, u2 (u2 A 25 tn 1) 26 tn (I 594 11), B, Ln, n, sl)) := by
  have hle := cnt_le (fun t => decide (A 25 t = 1)) tn
  show Ev X mX9_begin (d + 1) 0 [some (rV (some 11))] [] (K, I, J, R, A, B, Ln, n, sl) _
  refine ev_aload_n dX9_begin_0 rfl ?_
  refine ev_callV dX9_begin_1 okX9_opens inX9_opens seX9_opens mlX9_119 hM.m (by decide) rfl [] rfl rfl (Nat.le_of_ble_eq_true rfl) (Nat.le_of_ble_eq_true rfl) (sp_opens hM ht hb) (fun r_ G_ h_ => ?_)
  obtain ⟨rfl, rfl⟩ := h_
  try dsimp only [Option.toList, List.cons_append, List.nil_append]
  refine ev_iconstN 5 dX9_begin_4 (by decide) ?_
  refine ev_icmp_eqN 17 dX9_begin_5 (by decide) (by omega) (by omega) (fun c5 => absurd c5 h5) (fun c5 => ?_)
  refine ev_aload_n dX9_begin_8 rfl ?_
  refine ev_getIv dX9_begin_9 fX9_116 hM.m ht ?_
  refine ev_bipushN 60 dX9_begin_12 (by decide) ?_
  refine ev_icmp_neN 19 dX9_begin_14 (by decide) (by omega) (by omega) (fun c14 => ?_) (fun c14 => absurd c14 h60)
  refine ev_aload_n dX9_begin_19 rfl ?_
  refine ev_getR dX9_begin_20 fX9_50 hM.m hM.R_state ?_
  refine ev_aload_n dX9_begin_23 rfl ?_
  refine ev_getIv dX9_begin_24 fX9_116 hM.m ht ?_
  refine ev_iconstN 1 dX9_begin_27 (by decide) ?_
  refine ev_iast dX9_begin_28 hM.K_state hM.L_state (by decide) (by omega) ?_
  refine ev_aload_n dX9_begin_29 rfl ?_
  refine ev_getR dX9_begin_30 fX9_53 hM.m hM.R_began ?_
  refine ev_aload_n dX9_begin_33 rfl ?_
  refine ev_getIv dX9_begin_34 fX9_116 hM.m ht ?_
  refine ev_aload_n dX9_begin_37 rfl ?_
  refine ev_getI dX9_begin_38 fX9_103 hM.m ?_
  refine ev_iast dX9_begin_41 hM.K_began hM.L_began (by decide) (by omega) ?_
  refine ev_aload_n dX9_begin_42 rfl ?_
  refine ev_dup dX9_begin_43 rfl ?_
  refine ev_getIv dX9_begin_44 fX9_116 hM.m ht ?_
  refine ev_iconstN 1 dX9_begin_47 (by decide) ?_
  refine ev_iaddN dX9_begin_48 ?_
  refine ev_putI dX9_begin_49 fX9_116 (Or.inl rfl) (Or.inl rfl) hM.m ?_
  refine ev_aload_n dX9_begin_52 rfl ?_
  refine ev_getIv dX9_begin_53 fX9_116 hM.m u2_self ?_
  refine ev_iconstN 1 dX9_begin_56 (by decide) ?_
  refine ev_isubN dX9_begin_57 (by omega) ?_
  refine ev_ireturn dX9_begin_58 rfl ?_
  exact ⟨rfl, rfl⟩
set_option maxRecDepth 100000 in
set_option maxHeartbeats 4000000 in
theorem sp_abort_no (hM : MFix K R Ln) {tn : Nat} (ht : I 595 11 = nI tn) (hb : tn ≤ 60) {t : Int32} (hs : ∀ j, j < tn → t = nI j → ¬ A 25 j = 1) : EvM X mX9_abort (d + 1) [rV (some 11), iV t] (K, I, J, R, A, B, Ln, n, sl) (fun r G' => r = some (iV 0) ∧ G' = (K, I, J, R, A, B, Ln, n, sl)) := by
  show Ev X mX9_abort (d + 1) 0 [some (rV (some 11)), some (iV t)] [] (K, I, J, R, A, B, Ln, n, sl) _
  refine ev_aload_n dX9_abort_0 rfl ?_
  refine ev_iload_n dX9_abort_1 rfl ?_
  refine ev_callV dX9_abort_2 okX9_open inX9_open seX9_open mlX9_123 hM.m (by decide) rfl [iV _] rfl rfl (Nat.le_of_ble_eq_true rfl) (Nat.le_of_ble_eq_true rfl) (sp_open_no hM ht hb hs) (fun r_ G_ h_ => ?_)
  obtain ⟨rfl, rfl⟩ := h_
  try dsimp only [Option.toList, List.cons_append, List.nil_append]
  refine ev_if_ne 10 dX9_abort_5 (by decide) (fun c5 => absurd c5 (fun z => z rfl)) (fun c5 => ?_)
  refine ev_iconstN 0 dX9_abort_8 (by decide) ?_
  refine ev_zreturn dX9_abort_9 rfl (by decide) ?_
  exact ⟨rfl, rfl⟩
set_option maxRecDepth 100000 in
set_option maxHeartbeats 4000000 in
theorem sp_abort_yes (hM : MFix K R Ln) {tn : Nat} (ht : I 595 11 = nI tn) (hb : tn ≤ 60) {j : Nat} (hj : j < tn) (hs : A 25 j = 1) : EvM X mX9_abort (d + 1) [rV (some 11), iV (nI j)] (K, I, J, R, A, B, Ln, n, sl) (fun r G' => r = some (iV 1) ∧ G' = (K, I, J, R, u2 A 25 j 4, B, Ln, n, sl)) := by
  show Ev X mX9_abort (d + 1) 0 [some (rV (some 11)), some (iV (nI j))] [] (K, I, J, R, A, B, Ln, n, sl) _
  refine ev_aload_n dX9_abort_0 rfl ?_
  refine ev_iload_n dX9_abort_1 rfl ?_
  refine ev_callV dX9_abort_2 okX9_open inX9_open seX9_open mlX9_123 hM.m (by decide) rfl [iV _] rfl rfl (Nat.le_of_ble_eq_true rfl) (Nat.le_of_ble_eq_true rfl) (sp_open_yes hM ht hb hj hs) (fun r_ G_ h_ => ?_)
  obtain ⟨rfl, rfl⟩ := h_
  try dsimp only [Option.toList, List.cons_append, List.nil_append]
  refine ev_if_ne 10 dX9_abort_5 (by decide) (fun c5 => ?_) (fun c5 => absurd c5 (by decide))
  refine ev_aload_n dX9_abort_10 rfl ?_
  refine ev_getR dX9_abort_11 fX9_50 hM.m hM.R_state ?_
  refine ev_iload_n dX9_abort_14 rfl ?_
  refine ev_iconstN 4 dX9_abort_15 (by decide) ?_
  refine ev_iast dX9_abort_16 hM.K_state hM.L_state (by decide) (by omega) ?_
  refine ev_iconstN 1 dX9_abort_17 (by decide) ?_
  refine ev_zreturn dX9_abort_18 rfl (by decide) ?_
  exact ⟨rfl, rfl⟩
def crA (A : Nat → Nat → Int32) (e : Nat) : Nat → Nat → Int32 := fun i j => if i = 25 ∧ j < e ∧ A 25 j = 1 then 5 else A i j
theorem crA_0 {A : Nat → Nat → Int32} : crA A 0 = A := by
  funext i j
  unfold crA
  rw [if_neg (by omega)]
theorem crA_at {A : Nat → Nat → Int32} {e : Nat} : crA A e 25 e = A 25 e := by
  unfold crA
  rw [if_neg (by omega)]
theorem crA_yes {A : Nat → Nat → Int32} {e : Nat} (h : A 25 e = 1) : u2 (crA A e) 25 e 5 = crA A (e + 1) := by
  funext i j
  unfold crA u2
  by_cases h1 : i = 25 <;> by_cases h2 : j = e
  · subst h1; subst h2; simp [h]
  · subst h1; simp [h2, show j < e + 1 ↔ j < e by omega]
  · simp [h1]
  · simp [h1]
theorem crA_no {A : Nat → Nat → Int32} {e : Nat} (h : ¬ A 25 e = 1) : u2 (crA A e) 25 e (A 25 e) = crA A (e + 1) := by
  funext i j
  unfold crA u2
  by_cases h1 : i = 25 <;> by_cases h2 : j = e
  · subst h1; subst h2; simp [h]
  · subst h1; simp [h2, show j < e + 1 ↔ j < e by omega]
  · simp [h1]
  · simp [h1]
set_option maxRecDepth 100000 in
set_option maxHeartbeats 4000000 in
theorem lp_crash {Q : Option LV → GH → Prop} (hM : MFix K R Ln) {tn : Nat} (ht : I 595 11 = nI tn) (hb : tn ≤ 60) (hq : Q (some (iV (nI (cnt (fun t => decide (A 25 t = 1)) tn)))) (K, I, J, R, crA A tn, B, Ln, n, sl)) : ∀ (f e : Nat), e + f = tn → Ev X mX9_crash d 4 [some (rV (some 11)), some (iV (nI (cnt (fun t => decide (A 25 t = 1)) e))), some (iV (nI e))] [] (K, I, J, R, crA A e, B, Ln, n, sl) Q := by
  intro f
  induction f with
  | zero =>
    intro e he
    refine ev_iload_n dX9_crash_4 rfl ?_
    refine ev_aload_n dX9_crash_5 rfl ?_
    refine ev_getIv dX9_crash_6 fX9_116 hM.m ht ?_
    refine ev_icmp_geN 62 dX9_crash_9 (by decide) (by omega) (by omega) (fun c9 => ?_) (fun c9 => absurd c9 (by omega))
    refine ev_iload_n dX9_crash_62 rfl ?_
    refine ev_ireturn dX9_crash_63 rfl ?_
    have e2 : e = tn := by omega
    subst e2; exact hq
  | succ f ih =>
    intro e he
    have kont : ∀ (z : Nat) (A' : Nat → Nat → Int32), z = cnt (fun t => decide (A 25 t = 1)) (e + 1) → A' = crA A (e + 1) → Ev X mX9_crash d 56 [some (rV (some 11)), some (iV (nI (z))), some (iV (nI e))] [] (K, I, J, R, A', B, Ln, n, sl) Q := by
      intro z A' hz hA
      subst hz; subst hA
      refine ev_iincN (b := 1) _ dX9_crash_56 rfl (by decide) (by decide) rfl ?_
      refine ev_goto 4 dX9_crash_59 (by decide) ?_
      exact ih (e + 1) (by omega)
    by_cases hs : A 25 e = 1
    · refine ev_iload_n dX9_crash_4 rfl ?_
      refine ev_aload_n dX9_crash_5 rfl ?_
      refine ev_getIv dX9_crash_6 fX9_116 hM.m ht ?_
      refine ev_icmp_geN 62 dX9_crash_9 (by decide) (by omega) (by omega) (fun c9 => absurd c9 (by omega)) (fun c9 => ?_)
      refine ev_iload_n dX9_crash_12 rfl ?_
      refine ev_aload_n dX9_crash_13 rfl ?_
      refine ev_getR dX9_crash_14 fX9_50 hM.m hM.R_state ?_
      refine ev_iload_n dX9_crash_17 rfl ?_
      refine ev_ialdv dX9_crash_18 hM.K_state hM.L_state (by decide) (by omega) crA_at ?_
      refine ev_iconstN 1 dX9_crash_19 (by decide) ?_
      refine ev_icmp_ne (y := 1) 27 dX9_crash_20 (by decide) (fun c20 => absurd c20 (fun z => z hs)) (fun c20 => ?_)
      refine ev_iconstN 1 dX9_crash_23 (by decide) ?_
      refine ev_goto 28 dX9_crash_24 (by decide) ?_
      refine ev_iaddN dX9_crash_28 ?_
      refine ev_istore_n _ dX9_crash_29 (by decide) rfl ?_
      refine ev_aload_n dX9_crash_30 rfl ?_
      refine ev_getR dX9_crash_31 fX9_50 hM.m hM.R_state ?_
      refine ev_iload_n dX9_crash_34 rfl ?_
      refine ev_aload_n dX9_crash_35 rfl ?_
      refine ev_getR dX9_crash_36 fX9_50 hM.m hM.R_state ?_
      refine ev_iload_n dX9_crash_39 rfl ?_
      refine ev_ialdv dX9_crash_40 hM.K_state hM.L_state (by decide) (by omega) crA_at ?_
      refine ev_iconstN 1 dX9_crash_41 (by decide) ?_
      refine ev_icmp_ne (y := 1) 49 dX9_crash_42 (by decide) (fun c42 => absurd c42 (fun z => z hs)) (fun c42 => ?_)
      refine ev_iconstN 5 dX9_crash_45 (by decide) ?_
      refine ev_goto 55 dX9_crash_46 (by decide) ?_
      refine ev_iast dX9_crash_55 hM.K_state hM.L_state (by decide) (by omega) ?_
      exact kont _ _ (by simp [cnt, hs]) (crA_yes hs)
    · refine ev_iload_n dX9_crash_4 rfl ?_
      refine ev_aload_n dX9_crash_5 rfl ?_
      refine ev_getIv dX9_crash_6 fX9_116 hM.m ht ?_
      refine ev_icmp_geN 62 dX9_crash_9 (by decide) (by omega) (by omega) (fun c9 => absurd c9 (by omega)) (fun c9 => ?_)
      refine ev_iload_n dX9_crash_12 rfl ?_
      refine ev_aload_n dX9_crash_13 rfl ?_
      refine ev_getR dX9_crash_14 fX9_50 hM.m hM.R_state ?_
      refine ev_iload_n dX9_crash_17 rfl ?_
      refine ev_ialdv dX9_crash_18 hM.K_state hM.L_state (by decide) (by omega) crA_at ?_
      refine ev_iconstN 1 dX9_crash_19 (by decide) ?_
      refine ev_icmp_ne (y := 1) 27 dX9_crash_20 (by decide) (fun c20 => ?_) (fun c20 => absurd c20 hs)
      refine ev_iconstN 0 dX9_crash_27 (by decide) ?_
      refine ev_iaddN dX9_crash_28 ?_
      refine ev_istore_n _ dX9_crash_29 (by decide) rfl ?_
      refine ev_aload_n dX9_crash_30 rfl ?_
      refine ev_getR dX9_crash_31 fX9_50 hM.m hM.R_state ?_
      refine ev_iload_n dX9_crash_34 rfl ?_
      refine ev_aload_n dX9_crash_35 rfl ?_
      refine ev_getR dX9_crash_36 fX9_50 hM.m hM.R_state ?_
      refine ev_iload_n dX9_crash_39 rfl ?_
      refine ev_ialdv dX9_crash_40 hM.K_state hM.L_state (by decide) (by omega) crA_at ?_
      refine ev_iconstN 1 dX9_crash_41 (by decide) ?_
      refine ev_icmp_ne (y := 1) 49 dX9_crash_42 (by decide) (fun c42 => ?_) (fun c42 => absurd c42 hs)
      refine ev_aload_n dX9_crash_49 rfl ?_
      refine ev_getR dX9_crash_50 fX9_50 hM.m hM.R_state ?_
      refine ev_iload_n dX9_crash_53 rfl ?_
      refine ev_ialdv dX9_crash_54 hM.K_state hM.L_state (by decide) (by omega) crA_at ?_
      refine ev_iast dX9_crash_55 hM.K_state hM.L_state (by decide) (by omega) ?_
      exact kont _ _ (by simp [cnt, hs]) (crA_no hs)
theorem sp_crash (hM : MFix K R Ln) {tn : Nat} (ht : I 595 11 = nI tn) (hb : tn ≤ 60) : EvM X mX9_crash d [rV (some 11)] (K, I, J, R, A, B, Ln, n, sl) (fun r G' => r = some (iV (nI (cnt (fun t => decide (A 25 t = 1)) tn))) ∧ G' = (K, I, J, R, crA A tn, B, Ln, n, sl)) := by
  show Ev X mX9_crash d 0 [some (rV (some 11)), none, none] [] (K, I, J, R, A, B, Ln, n, sl) _
  refine ev_iconstN 0 dX9_crash_0 (by decide) ?_
  refine ev_istore_n _ dX9_crash_1 (by decide) rfl ?_
  refine ev_iconstN 0 dX9_crash_2 (by decide) ?_
  refine ev_istore_n _ dX9_crash_3 (by decide) rfl ?_
  have h := lp_crash (X := X) (d := d) (K := K) (I := I) (J := J) (R := R) (A := A) (B := B) (Ln := Ln) (n := n) (sl := sl) (Q := fun r G1 => r = some (iV (nI (cnt (fun t => decide (A 25 t = 1)) tn))) ∧ G1 = (K, I, J, R, crA A tn, B, Ln, n, sl)) hM ht hb ⟨rfl, rfl⟩ tn 0 (by omega)
  rw [crA_0] at h
  exact h
set_option maxRecDepth 100000 in
set_option maxHeartbeats 4000000 in
theorem sp_state_yes (hM : MFix K R Ln) {tn : Nat} (ht : I 595 11 = nI tn) (hb : tn ≤ 60) {j : Nat} (hj : j < tn) : EvM X mX9_state d [rV (some 11), iV (nI j)] (K, I, J, R, A, B, Ln, n, sl) (fun r G' => r = some (iV (A 25 j)) ∧ G' = (K, I, J, R, A, B, Ln, n, sl)) := by
  show Ev X mX9_state d 0 [some (rV (some 11)), some (iV (nI j))] [] (K, I, J, R, A, B, Ln, n, sl) _
  refine ev_iload_n dX9_state_0 rfl ?_
  refine ev_if_ltN 21 dX9_state_1 (by decide) (by omega) ?_
  refine ev_iload_n dX9_state_4 rfl ?_
  refine ev_aload_n dX9_state_5 rfl ?_
  refine ev_getIv dX9_state_6 fX9_116 hM.m ht ?_
  refine ev_icmp_geN 21 dX9_state_9 (by decide) (by omega) (by omega) (fun c9 => absurd c9 (by omega)) (fun c9 => ?_)
  refine ev_aload_n dX9_state_12 rfl ?_
  refine ev_getR dX9_state_13 fX9_50 hM.m hM.R_state ?_
  refine ev_iload_n dX9_state_16 rfl ?_
  refine ev_iald dX9_state_17 hM.K_state hM.L_state (by decide) (by omega) ?_
  refine ev_goto 22 dX9_state_18 (by decide) ?_
  refine ev_ireturn dX9_state_22 rfl ?_
  exact ⟨rfl, rfl⟩
set_option maxRecDepth 100000 in
set_option maxHeartbeats 4000000 in
theorem sp_state_no (hM : MFix K R Ln) {tn : Nat} (ht : I 595 11 = nI tn) (hb : tn ≤ 60) {t : Int32} (hn : ∀ j, j < tn → ¬ t = nI j) : EvM X mX9_state d [rV (some 11), iV t] (K, I, J, R, A, B, Ln, n, sl) (fun r G' => r = some (iV (-1)) ∧ G' = (K, I, J, R, A, B, Ln, n, sl)) := by
  show Ev X mX9_state d 0 [some (rV (some 11)), some (iV t)] [] (K, I, J, R, A, B, Ln, n, sl) _
  rcases pk_ix t (n := tn) (by omega) with hc | hc | ⟨j, hj, rfl⟩
  · refine ev_iload_n dX9_state_0 rfl ?_
    refine ev_if_lt 21 dX9_state_1 (by decide) (fun c1 => ?_) (fun c1 => absurd hc c1)
    refine ev_iconst (-1) dX9_state_21 (by decide) ?_
    refine ev_ireturn dX9_state_22 rfl ?_
    exact ⟨rfl, rfl⟩
  · refine ev_iload_n dX9_state_0 rfl ?_
    refine ev_if_lt 21 dX9_state_1 (by decide) (fun c1 => absurd c1 (Int32.not_lt.mpr (Int32.le_trans (nI_pos' (n := tn) (by omega)) hc))) (fun c1 => ?_)
    refine ev_iload_n dX9_state_4 rfl ?_
    refine ev_aload_n dX9_state_5 rfl ?_
    refine ev_getIv dX9_state_6 fX9_116 hM.m ht ?_
    refine ev_icmp_ge 21 dX9_state_9 (by decide) (fun c9 => ?_) (fun c9 => absurd hc c9)
    refine ev_iconst (-1) dX9_state_21 (by decide) ?_
    refine ev_ireturn dX9_state_22 rfl ?_
    exact ⟨rfl, rfl⟩
  · exact absurd rfl (hn j hj)
set_option maxRecDepth 100000 in
set_option maxHeartbeats 4000000 in
theorem sp_result_yes (hM : MFix K R Ln) {tn : Nat} (ht : I 603 11 = nI tn) (hb : tn ≤ 32) {j : Nat} (hj : j < tn) : EvM X mX9_result d [rV (some 11), iV (nI j)] (K, I, J, R, A, B, Ln, n, sl) (fun r G' => r = some (iV (A 31 j)) ∧ G' = (K, I, J, R, A, B, Ln, n, sl)) := by
  show Ev X mX9_result d 0 [some (rV (some 11)), some (iV (nI j))] [] (K, I, J, R, A, B, Ln, n, sl) _
  refine ev_iload_n dX9_result_0 rfl ?_
  refine ev_if_ltN 21 dX9_result_1 (by decide) (by omega) ?_
  refine ev_iload_n dX9_result_4 rfl ?_
  refine ev_aload_n dX9_result_5 rfl ?_
  refine ev_getIv dX9_result_6 fX9_252 hM.m ht ?_
  refine ev_icmp_geN 21 dX9_result_9 (by decide) (by omega) (by omega) (fun c9 => absurd c9 (by omega)) (fun c9 => ?_)
  refine ev_aload_n dX9_result_12 rfl ?_
  refine ev_getR dX9_result_13 fX9_68 hM.m hM.R_results ?_
  refine ev_iload_n dX9_result_16 rfl ?_
  refine ev_iald dX9_result_17 hM.K_results hM.L_results (by decide) (by omega) ?_
  refine ev_goto 22 dX9_result_18 (by decide) ?_
  refine ev_ireturn dX9_result_22 rfl ?_
  exact ⟨rfl, rfl⟩
set_option maxRecDepth 100000 in
set_option maxHeartbeats 4000000 in
theorem sp_result_no (hM : MFix K R Ln) {tn : Nat} (ht : I 603 11 = nI tn) (hb : tn ≤ 32) {t : Int32} (hn : ∀ j, j < tn → ¬ t = nI j) : EvM X mX9_result d [rV (some 11), iV t] (K, I, J, R, A, B, Ln, n, sl) (fun r G' => r = some (iV (-1)) ∧ G' = (K, I, J, R, A, B, Ln, n, sl)) := by
  show Ev X mX9_result d 0 [some (rV (some 11)), some (iV t)] [] (K, I, J, R, A, B, Ln, n, sl) _
  rcases pk_ix t (n := tn) (by omega) with hc | hc | ⟨j, hj, rfl⟩
  · refine ev_iload_n dX9_result_0 rfl ?_
    refine ev_if_lt 21 dX9_result_1 (by decide) (fun c1 => ?_) (fun c1 => absurd hc c1)
    refine ev_iconst (-1) dX9_result_21 (by decide) ?_
    refine ev_ireturn dX9_result_22 rfl ?_
    exact ⟨rfl, rfl⟩
  · refine ev_iload_n dX9_result_0 rfl ?_
    refine ev_if_lt 21 dX9_result_1 (by decide) (fun c1 => absurd c1 (Int32.not_lt.mpr (Int32.le_trans (nI_pos' (n := tn) (by omega)) hc))) (fun c1 => ?_)
    refine ev_iload_n dX9_result_4 rfl ?_
    refine ev_aload_n dX9_result_5 rfl ?_
    refine ev_getIv dX9_result_6 fX9_252 hM.m ht ?_
    refine ev_icmp_ge 21 dX9_result_9 (by decide) (fun c9 => ?_) (fun c9 => absurd hc c9)
    refine ev_iconst (-1) dX9_result_21 (by decide) ?_
    refine ev_ireturn dX9_result_22 rfl ?_
    exact ⟨rfl, rfl⟩
  · exact absurd rfl (hn j hj)
end M6
