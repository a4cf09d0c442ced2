section M27
variable {X : CX} {d : Nat} {K : Nat → Nat} {I : Nat → Nat → Int32} {J : Nat → Nat → Int64} {R : Nat → Nat → Option Nat} {A : Nat → Nat → Int32} {B : Nat → Nat → Option Nat} {Ln : Nat → Nat} {n sl : Nat}
set_option maxRecDepth 100000 in
set_option maxHeartbeats 4000000 in
theorem lp_settle {Inv : Nat → (Nat → Nat → Int32) → (Nat → Nat → Int32) → Prop} (hM : MFix K R Ln) (hstep : ∀ k I A, Inv k I A → ∃ fl, FlA A fl ∧ I 590 11 = nI fl.length ∧ fl.length ≤ 520 ∧ (k = 0 → ¬ 2 < (fl.filter (fun p => decide (p.2 = 0))).length ∧ ¬ 3 < (fl.filter (fun p => decide (p.2 = 1))).length) ∧ ∀ j, k = j + 1 → (2 < (fl.filter (fun p => decide (p.2 = 0))).length ∨ 3 < (fl.filter (fun p => decide (p.2 = 1))).length) ∧ EvM X mX9_compacts (d + 1) [rV (some 11), iV (nI (if 2 < (fl.filter (fun p => decide (p.2 = 0))).length then 0 else 1))] (K, I, J, R, A, B, Ln, n, sl) (fun r G' => ∃ o I' A', r = some (iV (nI o)) ∧ o < 2147483648 ∧ G' = (K, I', J, R, A', B, Ln, n, sl) ∧ Inv j I' A')) : ∀ (k turn : Nat) (I A : Nat → Nat → Int32) (w2 : Option LV), k + turn ≤ 600 → Inv k I A → Ev X mX9_settle (d + 2) 2 [some (rV (some 11)), some (iV (nI (turn))), w2] [] (K, I, J, R, A, B, Ln, n, sl) (fun r G' => r = none ∧ ∃ I' A', G' = (K, I', J, R, A', B, Ln, n, sl) ∧ Inv 0 I' A') := by
  intro k
  induction k with
  | zero =>
    intro turn I A w2 hk hi
    obtain ⟨fl, hfl, hfn, hfb, hz, -⟩ := hstep 0 I A hi
    obtain ⟨z0, z1⟩ := hz rfl
    have f0 := sp_files (X := X) (d := d + 1) (J := J) (A := A) (B := B) (n := n) (sl := sl) (x := 0) hM hfn hfb
    have f1 := sp_files (X := X) (d := d + 1) (J := J) (A := A) (B := B) (n := n) (sl := sl) (x := 1) hM hfn hfb
    rw [if_neg (by decide), hfl.cnt] at f0 f1
    refine ev_iload_n dX9_settle_2 rfl ?_
    refine ev_sipushN 600 dX9_settle_3 (by decide) ?_
    refine ev_icmp_geN 64 dX9_settle_6 (by decide) (by omega) (by omega) (fun c6 => ?_) (fun c6 => ?_)
    · refine ev_return dX9_settle_64 rfl ?_
      exact ⟨rfl, I, A, rfl, hi⟩
    · refine ev_aload_n dX9_settle_9 rfl ?_
      refine ev_iconstN 0 dX9_settle_10 (by decide) ?_
      refine ev_callV dX9_settle_11 okX9_files inX9_files seX9_files mlX9_173 hM.m (by decide) rfl [iV _] rfl rfl (Nat.le_of_ble_eq_true rfl) (Nat.le_of_ble_eq_true rfl) (f0) (fun r_ G_ h_ => ?_)
      obtain ⟨rfl, rfl⟩ := h_
      try dsimp only [Option.toList, List.cons_append, List.nil_append]
      refine ev_iconstN 2 dX9_settle_14 (by decide) ?_
      refine ev_icmp_gtN 27 dX9_settle_15 (by decide) (by omega) (by omega) (fun c15 => absurd c15 (by omega)) (fun c15 => ?_)
      refine ev_aload_n dX9_settle_18 rfl ?_
      refine ev_iconstN 1 dX9_settle_19 (by decide) ?_
      refine ev_callV dX9_settle_20 okX9_files inX9_files seX9_files mlX9_173 hM.m (by decide) rfl [iV _] rfl rfl (Nat.le_of_ble_eq_true rfl) (Nat.le_of_ble_eq_true rfl) (f1) (fun r_ G_ h_ => ?_)
      obtain ⟨rfl, rfl⟩ := h_
      try dsimp only [Option.toList, List.cons_append, List.nil_append]
      refine ev_iconstN 3 dX9_settle_23 (by decide) ?_
      refine ev_icmp_leN 64 dX9_settle_24 (by decide) (by omega) (by omega) (fun c24 => ?_) (fun c24 => absurd c24 (by omega))
      refine ev_return dX9_settle_64 rfl ?_
      exact ⟨rfl, I, A, rfl, hi⟩
  | succ k ih =>
    intro turn I A w2 hk hi
    obtain ⟨fl, hfl, hfn, hfb, -, hz⟩ := hstep (k + 1) I A hi
    obtain ⟨z0, hc⟩ := hz k rfl
    have l0 : (fl.filter (fun p => decide (p.2 = 0))).length ≤ fl.length := List.length_filter_le _ _
    have l1 : (fl.filter (fun p => decide (p.2 = 1))).length ≤ fl.length := List.length_filter_le _ _
    have f0 := sp_files (X := X) (d := d + 1) (J := J) (A := A) (B := B) (n := n) (sl := sl) (x := 0) hM hfn hfb
    have f1 := sp_files (X := X) (d := d + 1) (J := J) (A := A) (B := B) (n := n) (sl := sl) (x := 1) hM hfn hfb
    rw [if_neg (by decide), hfl.cnt] at f0 f1
    by_cases h0 : 2 < (fl.filter (fun p => decide (p.2 = 0))).length
    · rw [if_pos h0] at hc
      refine ev_iload_n dX9_settle_2 rfl ?_
      refine ev_sipushN 600 dX9_settle_3 (by decide) ?_
      refine ev_icmp_geN 64 dX9_settle_6 (by decide) (by omega) (by omega) (fun c6 => absurd c6 (by omega)) (fun c6 => ?_)
      refine ev_aload_n dX9_settle_9 rfl ?_
      refine ev_iconstN 0 dX9_settle_10 (by decide) ?_
      refine ev_callV dX9_settle_11 okX9_files inX9_files seX9_files mlX9_173 hM.m (by decide) rfl [iV _] rfl rfl (Nat.le_of_ble_eq_true rfl) (Nat.le_of_ble_eq_true rfl) (f0) (fun r_ G_ h_ => ?_)
      obtain ⟨rfl, rfl⟩ := h_
      try dsimp only [Option.toList, List.cons_append, List.nil_append]
      refine ev_iconstN 2 dX9_settle_14 (by decide) ?_
      refine ev_icmp_gtN 27 dX9_settle_15 (by decide) (by omega) (by omega) (fun c15 => ?_) (fun c15 => absurd c15 (by omega))
      refine ev_aload_n dX9_settle_27 rfl ?_
      refine ev_aload_n dX9_settle_28 rfl ?_
      refine ev_iconstN 0 dX9_settle_29 (by decide) ?_
      refine ev_callV dX9_settle_30 okX9_files inX9_files seX9_files mlX9_173 hM.m (by decide) rfl [iV _] rfl rfl (Nat.le_of_ble_eq_true rfl) (Nat.le_of_ble_eq_true rfl) (f0) (fun r_ G_ h_ => ?_)
      obtain ⟨rfl, rfl⟩ := h_
      try dsimp only [Option.toList, List.cons_append, List.nil_append]
      refine ev_iconstN 2 dX9_settle_33 (by decide) ?_
      refine ev_icmp_leN 41 dX9_settle_34 (by decide) (by omega) (by omega) (fun c34 => absurd c34 (by omega)) (fun c34 => ?_)
      refine ev_iconstN 0 dX9_settle_37 (by decide) ?_
      refine ev_goto 42 dX9_settle_38 (by decide) ?_
      refine ev_callV dX9_settle_42 okX9_compacts inX9_compacts seX9_compacts mlX9_175 hM.m (by decide) rfl [iV _] rfl rfl (Nat.le_of_ble_eq_true rfl) (Nat.le_of_ble_eq_true rfl) (hc) (fun r_ G_ h_ => ?_)
      obtain ⟨o, I', A', rfl, ho, rfl, hi⟩ := h_
      try dsimp only [Option.toList, List.cons_append, List.nil_append]
      refine ev_istore_nS dX9_settle_45 (by decide) rfl ?_
      refine ev_iload_n dX9_settle_46 rfl ?_
      refine ev_if_geN 56 dX9_settle_47 (by decide) (by omega) ?_
      refine ev_iload_n dX9_settle_56 rfl ?_
      refine ev_istore_nS dX9_settle_57 (by decide) rfl ?_
      refine ev_iincNS (b := 1) dX9_settle_58 rfl (by decide) (by decide) rfl ?_
      refine ev_goto 2 dX9_settle_61 (by decide) ?_
      exact ih (turn + 1) I' A' _ (by omega) hi
    · rw [if_neg h0] at hc
      have h1 := z0.resolve_left h0
      refine ev_iload_n dX9_settle_2 rfl ?_
      refine ev_sipushN 600 dX9_settle_3 (by decide) ?_
      refine ev_icmp_geN 64 dX9_settle_6 (by decide) (by omega) (by omega) (fun c6 => absurd c6 (by omega)) (fun c6 => ?_)
      refine ev_aload_n dX9_settle_9 rfl ?_
      refine ev_iconstN 0 dX9_settle_10 (by decide) ?_
      refine ev_callV dX9_settle_11 okX9_files inX9_files seX9_files mlX9_173 hM.m (by decide) rfl [iV _] rfl rfl (Nat.le_of_ble_eq_true rfl) (Nat.le_of_ble_eq_true rfl) (f0) (fun r_ G_ h_ => ?_)
      obtain ⟨rfl, rfl⟩ := h_
      try dsimp only [Option.toList, List.cons_append, List.nil_append]
      refine ev_iconstN 2 dX9_settle_14 (by decide) ?_
      refine ev_icmp_gtN 27 dX9_settle_15 (by decide) (by omega) (by omega) (fun c15 => absurd c15 (by omega)) (fun c15 => ?_)
      refine ev_aload_n dX9_settle_18 rfl ?_
      refine ev_iconstN 1 dX9_settle_19 (by decide) ?_
      refine ev_callV dX9_settle_20 okX9_files inX9_files seX9_files mlX9_173 hM.m (by decide) rfl [iV _] rfl rfl (Nat.le_of_ble_eq_true rfl) (Nat.le_of_ble_eq_true rfl) (f1) (fun r_ G_ h_ => ?_)
      obtain ⟨rfl, rfl⟩ := h_
      try dsimp only [Option.toList, List.cons_append, List.nil_append]
      refine ev_iconstN 3 dX9_settle_23 (by decide) ?_
      refine ev_icmp_leN 64 dX9_settle_24 (by decide) (by omega) (by omega) (fun c24 => absurd c24 (by omega)) (fun c24 => ?_)
      refine ev_aload_n dX9_settle_27 rfl ?_
      refine ev_aload_n dX9_settle_28 rfl ?_
      refine ev_iconstN 0 dX9_settle_29 (by decide) ?_
      refine ev_callV dX9_settle_30 okX9_files inX9_files seX9_files mlX9_173 hM.m (by decide) rfl [iV _] rfl rfl (Nat.le_of_ble_eq_true rfl) (Nat.le_of_ble_eq_true rfl) (f0) (fun r_ G_ h_ => ?_)
      obtain ⟨rfl, rfl⟩ := h_
      try dsimp only [Option.toList, List.cons_append, List.nil_append]
      refine ev_iconstN 2 dX9_settle_33 (by decide) ?_
      refine ev_icmp_leN 41 dX9_settle_34 (by decide) (by omega) (by omega) (fun c34 => ?_) (fun c34 => absurd c34 (by omega))
      refine ev_iconstN 1 dX9_settle_41 (by decide) ?_
      refine ev_callV dX9_settle_42 okX9_compacts inX9_compacts seX9_compacts mlX9_175 hM.m (by decide) rfl [iV _] rfl rfl (Nat.le_of_ble_eq_true rfl) (Nat.le_of_ble_eq_true rfl) (hc) (fun r_ G_ h_ => ?_)
      obtain ⟨o, I', A', rfl, ho, rfl, hi⟩ := h_
      try dsimp only [Option.toList, List.cons_append, List.nil_append]
      refine ev_istore_nS dX9_settle_45 (by decide) rfl ?_
      refine ev_iload_n dX9_settle_46 rfl ?_
      refine ev_if_geN 56 dX9_settle_47 (by decide) (by omega) ?_
      refine ev_iload_n dX9_settle_56 rfl ?_
      refine ev_istore_nS dX9_settle_57 (by decide) rfl ?_
      refine ev_iincNS (b := 1) dX9_settle_58 rfl (by decide) (by decide) rfl ?_
      refine ev_goto 2 dX9_settle_61 (by decide) ?_
      exact ih (turn + 1) I' A' _ (by omega) hi
theorem sp_settle {Inv : Nat → (Nat → Nat → Int32) → (Nat → Nat → Int32) → Prop} (hM : MFix K R Ln) (hstep : ∀ k I A, Inv k I A → ∃ fl, FlA A fl ∧ I 590 11 = nI fl.length ∧ fl.length ≤ 520 ∧ (k = 0 → ¬ 2 < (fl.filter (fun p => decide (p.2 = 0))).length ∧ ¬ 3 < (fl.filter (fun p => decide (p.2 = 1))).length) ∧ ∀ j, k = j + 1 → (2 < (fl.filter (fun p => decide (p.2 = 0))).length ∨ 3 < (fl.filter (fun p => decide (p.2 = 1))).length) ∧ EvM X mX9_compacts (d + 1) [rV (some 11), iV (nI (if 2 < (fl.filter (fun p => decide (p.2 = 0))).length then 0 else 1))] (K, I, J, R, A, B, Ln, n, sl) (fun r G' => ∃ o I' A', r = some (iV (nI o)) ∧ o < 2147483648 ∧ G' = (K, I', J, R, A', B, Ln, n, sl) ∧ Inv j I' A')) {k : Nat} (hk : k ≤ 600) (hi : Inv k I A) : EvM X mX9_settle (d + 2) [rV (some 11)] (K, I, J, R, A, B, Ln, n, sl) (fun r G' => r = none ∧ ∃ I' A', G' = (K, I', J, R, A', B, Ln, n, sl) ∧ Inv 0 I' A') := by
  show Ev X mX9_settle (d + 2) 0 [some (rV (some 11)), none, none] [] (K, I, J, R, A, B, Ln, n, sl) _
  refine ev_iconstN 0 dX9_settle_0 (by decide) ?_
  refine ev_istore_nS dX9_settle_1 (by decide) rfl ?_
  exact lp_settle hM hstep k 0 I A none (by omega) hi
end M27
