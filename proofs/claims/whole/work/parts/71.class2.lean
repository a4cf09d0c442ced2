section C71
variable {X : CX} {d : Nat} {K : Nat → Nat} {I : Nat → Nat → Int32} {J : Nat → Nat → Int64} {R : Nat → Nat → Option Nat} {A : Nat → Nat → Int32} {B : Nat → Nat → Option Nat} {Ln : Nat → Nat} {n sl : Nat}
def ndO (I : Nat → Nat → Int32) : Option Nat → Int32
  | none => nI 0
  | some i => I 68 i
set_option maxRecDepth 100000 in
set_option maxHeartbeats 4000000 in
theorem cs_nodesOf {o : Option Nat} (ho : ∀ a, o = some a → K a = 1) : EvM X mX1_nodesOf d [rV o] (K, I, J, R, A, B, Ln, n, sl) (fun r G' => r = some (iV (ndO I o)) ∧ G' = (K, I, J, R, A, B, Ln, n, sl)) := by
  cases o with
  | none => exact cs_nodes0
  | some i => exact cs_nodes1 (ho i rfl)
theorem cs_newExpr {i : Nat} {op v : Int32} {o1 o2 : Option Nat} (hk : K i = 1) (h1 : ∀ a, o1 = some a → K a = 1) (h2 : ∀ a, o2 = some a → K a = 1) : EvM X mX1_init (d + 1) [rV (some i), iV op, iV v, rV o1, rV o2] (K, I, J, R, A, B, Ln, n, sl) (fun r G' => r = none ∧ G' = (K, u2 (u2 (u2 I 64 i op) 65 i v) 68 i (nI 1 + ndO I o1 + ndO I o2), J, u2 (u2 R 66 i o1) 67 i o2, A, B, Ln, n, sl)) := by
  have hn : ∀ o, ndO (u2 (u2 I 64 i op) 65 i v) o = ndO I o := fun o => by
    cases o with
    | none => rfl
    | some a => exact (u2_ne1 (by decide)).trans (u2_ne1 (by decide))
  show Ev X mX1_init (d + 1) 0 [some (rV (some i)), some (iV op), some (iV v), some (rV o1), some (rV o2)] [] (K, I, J, R, A, B, Ln, n, sl) _
  refine ev_aload_n dX1_init_0 rfl ?_
  refine ev_objInit dX1_init_1 oiX1_3 oi_in oi_code (Nat.le_of_ble_eq_true rfl) ?_
  refine ev_aload_n dX1_init_4 rfl ?_
  refine ev_iload_n dX1_init_5 rfl ?_
  refine ev_putI dX1_init_6 fX1_9 (by first | exact Or.inl rfl | exact Or.inr ⟨rfl, rfl, rfl, mfX1_9⟩) (by first | exact Or.inl rfl | exact Or.inr (Or.inl rfl) | exact Or.inr (Or.inr rfl)) hk ?_
  refine ev_aload_n dX1_init_9 rfl ?_
  refine ev_iload_n dX1_init_10 rfl ?_
  refine ev_putI dX1_init_11 fX1_15 (by first | exact Or.inl rfl | exact Or.inr ⟨rfl, rfl, rfl, mfX1_15⟩) (by first | exact Or.inl rfl | exact Or.inr (Or.inl rfl) | exact Or.inr (Or.inr rfl)) hk ?_
  refine ev_aload_n dX1_init_14 rfl ?_
  refine ev_aload_n dX1_init_15 rfl ?_
  refine ev_putR dX1_init_16 fX1_18 (by first | exact Or.inl rfl | exact Or.inr ⟨rfl, rfl, rfl, mfX1_18⟩) hk ?_
  refine ev_aload_n dX1_init_19 rfl ?_
  refine ev_aload dX1_init_20 rfl ?_
  refine ev_putR dX1_init_22 fX1_22 (by first | exact Or.inl rfl | exact Or.inr ⟨rfl, rfl, rfl, mfX1_22⟩) hk ?_
  refine ev_aload_n dX1_init_25 rfl ?_
  refine ev_iconstN 1 dX1_init_26 (by decide) ?_
  refine ev_aload_n dX1_init_27 rfl ?_
  refine ev_callS dX1_init_28 okX1_nodesOf stX1_nodesOf mlX1_25 [rV _] rfl rfl (Nat.le_of_ble_eq_true rfl) (Nat.le_of_ble_eq_true rfl) (cs_nodesOf h1) (fun r_ G_ h_ => ?_)
  obtain ⟨rfl, rfl⟩ := h_
  try dsimp only [Option.toList, List.cons_append, List.nil_append]
  refine ev_iadd (x := 1) dX1_init_31 ?_
  refine ev_aload dX1_init_32 rfl ?_
  refine ev_callS dX1_init_34 okX1_nodesOf stX1_nodesOf mlX1_25 [rV _] rfl rfl (Nat.le_of_ble_eq_true rfl) (Nat.le_of_ble_eq_true rfl) (cs_nodesOf h2) (fun r_ G_ h_ => ?_)
  obtain ⟨rfl, rfl⟩ := h_
  try dsimp only [Option.toList, List.cons_append, List.nil_append]
  refine ev_iadd dX1_init_37 ?_
  refine ev_putI dX1_init_38 fX1_29 (by first | exact Or.inl rfl | exact Or.inr ⟨rfl, rfl, rfl, mfX1_29⟩) (by first | exact Or.inl rfl | exact Or.inr (Or.inl rfl) | exact Or.inr (Or.inr rfl)) hk ?_
  refine ev_return dX1_init_41 rfl ?_
  rw [hn, hn]
  exact ⟨rfl, rfl⟩
theorem cs_newRow {i : Nat} {a b c : Int32} (hk : K i = 3) : EvM X mX3_init (d + 1) [rV (some i), iV a, iV b, iV c] (K, I, J, R, A, B, Ln, n, sl) (fun r G' => r = none ∧ G' = (K, u2 (u2 (u2 I 192 i a) 193 i b) 194 i c, J, R, A, B, Ln, n, sl)) := by
  show Ev X mX3_init (d + 1) 0 [some (rV (some i)), some (iV a), some (iV b), some (iV c)] [] (K, I, J, R, A, B, Ln, n, sl) _
  refine ev_aload_n dX3_init_0 rfl ?_
  refine ev_objInit dX3_init_1 oiX3_3 oi_in oi_code (Nat.le_of_ble_eq_true rfl) ?_
  refine ev_aload_n dX3_init_4 rfl ?_
  refine ev_iload_n dX3_init_5 rfl ?_
  refine ev_putI dX3_init_6 fX3_9 (by first | exact Or.inl rfl | exact Or.inr ⟨rfl, rfl, rfl, mfX3_9⟩) (by first | exact Or.inl rfl | exact Or.inr (Or.inl rfl) | exact Or.inr (Or.inr rfl)) hk ?_
  refine ev_aload_n dX3_init_9 rfl ?_
  refine ev_iload_n dX3_init_10 rfl ?_
  refine ev_putI dX3_init_11 fX3_15 (by first | exact Or.inl rfl | exact Or.inr ⟨rfl, rfl, rfl, mfX3_15⟩) (by first | exact Or.inl rfl | exact Or.inr (Or.inl rfl) | exact Or.inr (Or.inr rfl)) hk ?_
  refine ev_aload_n dX3_init_14 rfl ?_
  refine ev_iload_n dX3_init_15 rfl ?_
  refine ev_putI dX3_init_16 fX3_18 (by first | exact Or.inl rfl | exact Or.inr ⟨rfl, rfl, rfl, mfX3_18⟩) (by first | exact Or.inl rfl | exact Or.inr (Or.inl rfl) | exact Or.inr (Or.inr rfl)) hk ?_
  refine ev_return dX3_init_19 rfl ?_
  exact ⟨rfl, rfl⟩
theorem cs_newEntry {i : Nat} {s v k t : Int32} {o : Option Nat} (hk : K i = 0) : EvM X mX0_init (d + 1) [rV (some i), iV s, iV v, iV k, iV t, rV o] (K, I, J, R, A, B, Ln, n, sl) (fun r G' => r = none ∧ G' = (K, u2 (u2 (u2 (u2 I 0 i s) 1 i v) 2 i k) 4 i t, u2 J 3 i (plcL s v k), u2 R 5 i o, A, B, Ln, n, sl)) := by
  show Ev X mX0_init (d + 1) 0 [some (rV (some i)), some (iV s), some (iV v), some (iV k), some (iV t), some (rV o)] [] (K, I, J, R, A, B, Ln, n, sl) _
  refine ev_aload_n dX0_init_0 rfl ?_
  refine ev_objInit dX0_init_1 oiX0_3 oi_in oi_code (Nat.le_of_ble_eq_true rfl) ?_
  refine ev_aload_n dX0_init_4 rfl ?_
  refine ev_iload_n dX0_init_5 rfl ?_
  refine ev_putI dX0_init_6 fX0_9 (by first | exact Or.inl rfl | exact Or.inr ⟨rfl, rfl, rfl, mfX0_9⟩) (by first | exact Or.inl rfl | exact Or.inr (Or.inl rfl) | exact Or.inr (Or.inr rfl)) hk ?_
  refine ev_aload_n dX0_init_9 rfl ?_
  refine ev_iload_n dX0_init_10 rfl ?_
  refine ev_putI dX0_init_11 fX0_15 (by first | exact Or.inl rfl | exact Or.inr ⟨rfl, rfl, rfl, mfX0_15⟩) (by first | exact Or.inl rfl | exact Or.inr (Or.inl rfl) | exact Or.inr (Or.inr rfl)) hk ?_
  refine ev_aload_n dX0_init_14 rfl ?_
  refine ev_iload_n dX0_init_15 rfl ?_
  refine ev_putI dX0_init_16 fX0_18 (by first | exact Or.inl rfl | exact Or.inr ⟨rfl, rfl, rfl, mfX0_18⟩) (by first | exact Or.inl rfl | exact Or.inr (Or.inl rfl) | exact Or.inr (Or.inr rfl)) hk ?_
  refine ev_aload_n dX0_init_19 rfl ?_
  refine ev_iload_n dX0_init_20 rfl ?_
  refine ev_iload_n dX0_init_21 rfl ?_
  refine ev_iload_n dX0_init_22 rfl ?_
  refine ev_callS dX0_init_23 okX0_placeOf stX0_placeOf mlX0_21 [iV _, iV _, iV _] rfl rfl (Nat.le_of_ble_eq_true rfl) (Nat.le_of_ble_eq_true rfl) (cs_placeOf) (fun r_ G_ h_ => ?_)
  obtain ⟨rfl, rfl⟩ := h_
  try dsimp only [Option.toList, List.cons_append, List.nil_append]
  refine ev_putJ dX0_init_26 fX0_25 (by first | exact Or.inl rfl | exact Or.inr ⟨rfl, rfl, rfl, mfX0_25⟩) hk ?_
  refine ev_aload_n dX0_init_29 rfl ?_
  refine ev_iload dX0_init_30 rfl ?_
  refine ev_putI dX0_init_32 fX0_29 (by first | exact Or.inl rfl | exact Or.inr ⟨rfl, rfl, rfl, mfX0_29⟩) (by first | exact Or.inl rfl | exact Or.inr (Or.inl rfl) | exact Or.inr (Or.inr rfl)) hk ?_
  refine ev_aload_n dX0_init_35 rfl ?_
  refine ev_aload dX0_init_36 rfl ?_
  refine ev_putR dX0_init_38 fX0_32 (by first | exact Or.inl rfl | exact Or.inr ⟨rfl, rfl, rfl, mfX0_32⟩) hk ?_
  refine ev_return dX0_init_41 rfl ?_
  exact ⟨rfl, rfl⟩
theorem cs_newRange {i : Nat} {o : Option Nat} (hk : K i = 2) : EvM X mX2_init (d + 1) [rV (some i), rV o] (K, I, J, R, A, B, Ln, n, sl) (fun r G' => r = none ∧ G' = (K, I, u2 (u2 J 129 i (-2147483648)) 130 i 2147483647, u2 R 128 i o, A, B, Ln, n, sl)) := by
  show Ev X mX2_init (d + 1) 0 [some (rV (some i)), some (rV o)] [] (K, I, J, R, A, B, Ln, n, sl) _
  refine ev_aload_n dX2_init_0 rfl ?_
  refine ev_objInit dX2_init_1 oiX2_3 oi_in oi_code (Nat.le_of_ble_eq_true rfl) ?_
  refine ev_aload_n dX2_init_4 rfl ?_
  refine ev_ldc2 dX2_init_5 coX2_9 ?_
  refine ev_putJ dX2_init_8 fX2_11 (by first | exact Or.inl rfl | exact Or.inr ⟨rfl, rfl, rfl, mfX2_11⟩) hk ?_
  refine ev_aload_n dX2_init_11 rfl ?_
  refine ev_ldc2 dX2_init_12 coX2_17 ?_
  refine ev_putJ dX2_init_15 fX2_19 (by first | exact Or.inl rfl | exact Or.inr ⟨rfl, rfl, rfl, mfX2_19⟩) hk ?_
  refine ev_aload_n dX2_init_18 rfl ?_
  refine ev_aload_n dX2_init_19 rfl ?_
  refine ev_putR dX2_init_20 fX2_22 (by first | exact Or.inl rfl | exact Or.inr ⟨rfl, rfl, rfl, mfX2_22⟩) hk ?_
  refine ev_return dX2_init_23 rfl ?_
  exact ⟨rfl, rfl⟩
theorem cs_newSieve {i : Nat} {h : Int32} {b : Bool} (hk : K i = 4) : EvM X mX4_init (d + 1) [rV (some i), iV h, iV (bZ b)] (K, I, J, R, A, B, Ln, n, sl) (fun r G' => r = none ∧ G' = (K, u2 (u2 I 256 i h) 257 i (bZ b), J, R, A, B, Ln, n, sl)) := by
  show Ev X mX4_init (d + 1) 0 [some (rV (some i)), some (iV h), some (iV (bZ b))] [] (K, I, J, R, A, B, Ln, n, sl) _
  refine ev_aload_n dX4_init_0 rfl ?_
  refine ev_objInit dX4_init_1 oiX4_1 oi_in oi_code (Nat.le_of_ble_eq_true rfl) ?_
  refine ev_aload_n dX4_init_4 rfl ?_
  refine ev_iload_n dX4_init_5 rfl ?_
  refine ev_putI dX4_init_6 fX4_7 (by first | exact Or.inl rfl | exact Or.inr ⟨rfl, rfl, rfl, mfX4_7⟩) (by first | exact Or.inl rfl | exact Or.inr (Or.inl rfl) | exact Or.inr (Or.inr rfl)) hk ?_
  refine ev_aload_n dX4_init_9 rfl ?_
  refine ev_iload_n dX4_init_10 rfl ?_
  refine ev_putI dX4_init_11 fX4_13 (by first | exact Or.inl rfl | exact Or.inr ⟨rfl, rfl, rfl, mfX4_13⟩) (Or.inr (bZ_01 b)) hk ?_
  refine ev_return dX4_init_14 rfl ?_
  exact ⟨rfl, rfl⟩
theorem cs_newSorted {i : Nat} {a b : Int32} {o : Option Nat} (hk : K i = 5) : EvM X mX5_init (d + 1) [rV (some i), iV a, iV b, rV o] (K, I, J, R, A, B, Ln, n, sl) (fun r G' => r = none ∧ G' = (K, u2 (u2 I 320 i a) 321 i b, J, u2 (u2 R 322 i o) 323 i o, A, B, Ln, n, sl)) := by
  show Ev X mX5_init (d + 1) 0 [some (rV (some i)), some (iV a), some (iV b), some (rV o)] [] (K, I, J, R, A, B, Ln, n, sl) _
  refine ev_aload_n dX5_init_0 rfl ?_
  refine ev_objInit dX5_init_1 oiX5_3 oi_in oi_code (Nat.le_of_ble_eq_true rfl) ?_
  refine ev_aload_n dX5_init_4 rfl ?_
  refine ev_iload_n dX5_init_5 rfl ?_
  refine ev_putI dX5_init_6 fX5_9 (by first | exact Or.inl rfl | exact Or.inr ⟨rfl, rfl, rfl, mfX5_9⟩) (by first | exact Or.inl rfl | exact Or.inr (Or.inl rfl) | exact Or.inr (Or.inr rfl)) hk ?_
  refine ev_aload_n dX5_init_9 rfl ?_
  refine ev_iload_n dX5_init_10 rfl ?_
  refine ev_putI dX5_init_11 fX5_15 (by first | exact Or.inl rfl | exact Or.inr ⟨rfl, rfl, rfl, mfX5_15⟩) (by first | exact Or.inl rfl | exact Or.inr (Or.inl rfl) | exact Or.inr (Or.inr rfl)) hk ?_
  refine ev_aload_n dX5_init_14 rfl ?_
  refine ev_aload_n dX5_init_15 rfl ?_
  refine ev_putR dX5_init_16 fX5_18 (by first | exact Or.inl rfl | exact Or.inr ⟨rfl, rfl, rfl, mfX5_18⟩) hk ?_
  refine ev_aload_n dX5_init_19 rfl ?_
  refine ev_aload_n dX5_init_20 rfl ?_
  refine ev_putR dX5_init_21 fX5_22 (by first | exact Or.inl rfl | exact Or.inr ⟨rfl, rfl, rfl, mfX5_22⟩) hk ?_
  refine ev_return dX5_init_24 rfl ?_
  exact ⟨rfl, rfl⟩
theorem cs_newTx {i : Nat} {b : Int32} (hk : K i = 7) (hi : i < n) : EvM X mX7_init (d + 1) [rV (some i), iV b] (K, I, J, R, A, B, Ln, n, sl) (fun r G' => r = none ∧ G' = (va_up (va_up K n 101) (n + 1) 104, u2 (u2 I 449 i 1) 448 i b, J, u2 (u2 R 451 i (some n)) 452 i (some (n + 1)), A, B, va_up (va_up Ln n 32) (n + 1) 32, n + 1 + 1, sl + 32 + 32)) := by
  have hk1 : va_up K n 101 i = 7 := (va_up_ne _ _ (by omega)).trans hk
  have hk2 : va_up (va_up K n 101) (n + 1) 104 i = 7 := (va_up_ne _ _ (by omega)).trans hk1
  show Ev X mX7_init (d + 1) 0 [some (rV (some i)), some (iV b)] [] (K, I, J, R, A, B, Ln, n, sl) _
  refine ev_aload_n dX7_init_0 rfl ?_
  refine ev_objInit dX7_init_1 oiX7_3 oi_in oi_code (Nat.le_of_ble_eq_true rfl) ?_
  refine ev_aload_n dX7_init_4 rfl ?_
  refine ev_iconstN 1 dX7_init_5 (by decide) ?_
  refine ev_putI dX7_init_6 fX7_9 (by first | exact Or.inl rfl | exact Or.inr ⟨rfl, rfl, rfl, mfX7_9⟩) (by first | exact Or.inl rfl | exact Or.inr (Or.inl rfl) | exact Or.inr (Or.inr rfl)) hk ?_
  refine ev_aload_n dX7_init_9 rfl ?_
  refine ev_bipushN 32 dX7_init_10 (by decide) ?_
  refine ev_newZ dX7_init_12 (by decide) ?_
  refine ev_putR dX7_init_14 fX7_15 (by first | exact Or.inl rfl | exact Or.inr ⟨rfl, rfl, rfl, mfX7_15⟩) hk1 ?_
  refine ev_aload_n dX7_init_17 rfl ?_
  refine ev_bipushN 32 dX7_init_18 (by decide) ?_
  refine ev_newR (q := 4) dX7_init_20 clX7_19 (by decide) (by decide) (by decide) ?_
  refine ev_putR dX7_init_23 fX7_21 (by first | exact Or.inl rfl | exact Or.inr ⟨rfl, rfl, rfl, mfX7_21⟩) hk2 ?_
  refine ev_aload_n dX7_init_26 rfl ?_
  refine ev_iload_n dX7_init_27 rfl ?_
  refine ev_putI dX7_init_28 fX7_25 (by first | exact Or.inl rfl | exact Or.inr ⟨rfl, rfl, rfl, mfX7_25⟩) (by first | exact Or.inl rfl | exact Or.inr (Or.inl rfl) | exact Or.inr (Or.inr rfl)) hk2 ?_
  refine ev_return dX7_init_31 rfl ?_
  exact ⟨rfl, rfl⟩
def tellV (I : Nat → Nat → Int32) (i a b w : Nat) : Int32 := if w = 0 then I 320 i else if w = 1 then I 324 i else if w = 2 then I 0 a else if w = 3 then I 1 a else if w = 4 then I 2 a else if w = 5 then I 0 b else if w = 6 then I 1 b else I 2 b
set_option maxRecDepth 100000 in
set_option maxHeartbeats 4000000 in
theorem cs_tell {i a b w : Nat} (hw : w < 8) (hk : K i = 5) (h1 : R 322 i = some a) (h2 : R 323 i = some b) (k1 : K a = 0) (k2 : K b = 0) : EvM X mX5_tell d [rV (some i), iV (nI w)] (K, I, J, R, A, B, Ln, n, sl) (fun r G' => r = some (iV (tellV I i a b w)) ∧ G' = (K, I, J, R, A, B, Ln, n, sl)) := by
  rcases (show w = 0 ∨ w = 1 ∨ w = 2 ∨ w = 3 ∨ w = 4 ∨ w = 5 ∨ w = 6 ∨ w = 7 by omega) with rfl | rfl | rfl | rfl | rfl | rfl | rfl | rfl
  · show Ev X mX5_tell d 0 [some (rV (some i)), some (iV (nI 0))] [] (K, I, J, R, A, B, Ln, n, sl) _
    refine ev_iload_n dX5_tell_0 rfl ?_
    refine ev_tswIn (x := 0) 48 dX5_tell_1 (by decide) (by decide) rfl (by decide) ?_
    refine ev_aload_n dX5_tell_48 rfl ?_
    refine ev_getI dX5_tell_49 fX5_9 hk ?_
    refine ev_ireturn dX5_tell_52 rfl ?_
    exact ⟨rfl, rfl⟩
  · show Ev X mX5_tell d 0 [some (rV (some i)), some (iV (nI 1))] [] (K, I, J, R, A, B, Ln, n, sl) _
    refine ev_iload_n dX5_tell_0 rfl ?_
    refine ev_tswIn (x := 1) 53 dX5_tell_1 (by decide) (by decide) rfl (by decide) ?_
    refine ev_aload_n dX5_tell_53 rfl ?_
    refine ev_getI dX5_tell_54 fX5_31 hk ?_
    refine ev_ireturn dX5_tell_57 rfl ?_
    exact ⟨rfl, rfl⟩
  · show Ev X mX5_tell d 0 [some (rV (some i)), some (iV (nI 2))] [] (K, I, J, R, A, B, Ln, n, sl) _
    refine ev_iload_n dX5_tell_0 rfl ?_
    refine ev_tswIn (x := 2) 58 dX5_tell_1 (by decide) (by decide) rfl (by decide) ?_
    refine ev_aload_n dX5_tell_58 rfl ?_
    refine ev_getR dX5_tell_59 fX5_18 hk h1 ?_
    refine ev_getI dX5_tell_62 fX5_38 k1 ?_
    refine ev_ireturn dX5_tell_65 rfl ?_
    exact ⟨rfl, rfl⟩
  · show Ev X mX5_tell d 0 [some (rV (some i)), some (iV (nI 3))] [] (K, I, J, R, A, B, Ln, n, sl) _
    refine ev_iload_n dX5_tell_0 rfl ?_
    refine ev_tswIn (x := 3) 66 dX5_tell_1 (by decide) (by decide) rfl (by decide) ?_
    refine ev_aload_n dX5_tell_66 rfl ?_
    refine ev_getR dX5_tell_67 fX5_18 hk h1 ?_
    refine ev_getI dX5_tell_70 fX5_41 k1 ?_
    refine ev_ireturn dX5_tell_73 rfl ?_
    exact ⟨rfl, rfl⟩
  · show Ev X mX5_tell d 0 [some (rV (some i)), some (iV (nI 4))] [] (K, I, J, R, A, B, Ln, n, sl) _
    refine ev_iload_n dX5_tell_0 rfl ?_
    refine ev_tswIn (x := 4) 74 dX5_tell_1 (by decide) (by decide) rfl (by decide) ?_
    refine ev_aload_n dX5_tell_74 rfl ?_
    refine ev_getR dX5_tell_75 fX5_18 hk h1 ?_
    refine ev_getI dX5_tell_78 fX5_44 k1 ?_
    refine ev_ireturn dX5_tell_81 rfl ?_
    exact ⟨rfl, rfl⟩
  · show Ev X mX5_tell d 0 [some (rV (some i)), some (iV (nI 5))] [] (K, I, J, R, A, B, Ln, n, sl) _
    refine ev_iload_n dX5_tell_0 rfl ?_
    refine ev_tswIn (x := 5) 82 dX5_tell_1 (by decide) (by decide) rfl (by decide) ?_
    refine ev_aload_n dX5_tell_82 rfl ?_
    refine ev_getR dX5_tell_83 fX5_22 hk h2 ?_
    refine ev_getI dX5_tell_86 fX5_38 k2 ?_
    refine ev_ireturn dX5_tell_89 rfl ?_
    exact ⟨rfl, rfl⟩
  · show Ev X mX5_tell d 0 [some (rV (some i)), some (iV (nI 6))] [] (K, I, J, R, A, B, Ln, n, sl) _
    refine ev_iload_n dX5_tell_0 rfl ?_
    refine ev_tswIn (x := 6) 90 dX5_tell_1 (by decide) (by decide) rfl (by decide) ?_
    refine ev_aload_n dX5_tell_90 rfl ?_
    refine ev_getR dX5_tell_91 fX5_22 hk h2 ?_
    refine ev_getI dX5_tell_94 fX5_41 k2 ?_
    refine ev_ireturn dX5_tell_97 rfl ?_
    exact ⟨rfl, rfl⟩
  · show Ev X mX5_tell d 0 [some (rV (some i)), some (iV (nI 7))] [] (K, I, J, R, A, B, Ln, n, sl) _
    refine ev_iload_n dX5_tell_0 rfl ?_
    refine ev_tswIn (x := 7) 98 dX5_tell_1 (by decide) (by decide) rfl (by decide) ?_
    refine ev_aload_n dX5_tell_98 rfl ?_
    refine ev_getR dX5_tell_99 fX5_22 hk h2 ?_
    refine ev_getI dX5_tell_102 fX5_44 k2 ?_
    refine ev_ireturn dX5_tell_105 rfl ?_
    exact ⟨rfl, rfl⟩
theorem cs_tell_no {i : Nat} {x : Int32} (hk : K i = 5) (hx : x.toInt < 0 ∨ 7 < x.toInt) : EvM X mX5_tell d [rV (some i), iV x] (K, I, J, R, A, B, Ln, n, sl) (fun r G' => r = some (iV (-1)) ∧ G' = (K, I, J, R, A, B, Ln, n, sl)) := by
  show Ev X mX5_tell d 0 [some (rV (some i)), some (iV x)] [] (K, I, J, R, A, B, Ln, n, sl) _
  refine ev_iload_n dX5_tell_0 rfl ?_
  refine ev_tswOut 106 dX5_tell_1 hx (by decide) ?_
  refine ev_iconst (-1) dX5_tell_106 (by decide) ?_
  refine ev_ireturn dX5_tell_107 rfl ?_
  exact ⟨rfl, rfl⟩
theorem cs_narrow {i : Nat} {a b : Int64} (hk : K i = 2) : EvM X mX2_narrow (d + 1) [rV (some i), lV a, lV b] (K, I, J, R, A, B, Ln, n, sl) (fun r G' => r = none ∧ G' = (K, u2 I 131 i 1, u2 (u2 J 129 i (if a < J 129 i then J 129 i else a)) 130 i (if b < J 130 i then b else J 130 i), R, A, B, Ln, n, sl)) := by
  show Ev X mX2_narrow (d + 1) 0 [some (rV (some i)), some (lV a), none, some (lV b), none] [] (K, I, J, R, A, B, Ln, n, sl) _
  refine ev_aload_n dX2_narrow_0 rfl ?_
  refine ev_aload_n dX2_narrow_1 rfl ?_
  refine ev_getJ dX2_narrow_2 fX2_11 hk ?_
  refine ev_lload_n dX2_narrow_5 rfl ?_
  refine ev_maxL dX2_narrow_6 mpX2_61 (Nat.le_of_ble_eq_true rfl) ?_
  refine ev_putJ dX2_narrow_9 fX2_11 (Or.inl rfl) hk ?_
  refine ev_aload_n dX2_narrow_12 rfl ?_
  refine ev_aload_n dX2_narrow_13 rfl ?_
  refine ev_getJv dX2_narrow_14 fX2_19 hk (u2_ne1 (by decide)) ?_
  refine ev_lload_n dX2_narrow_17 rfl ?_
  refine ev_minL dX2_narrow_18 mpX2_67 (Nat.le_of_ble_eq_true rfl) ?_
  refine ev_putJ dX2_narrow_21 fX2_19 (Or.inl rfl) hk ?_
  refine ev_aload_n dX2_narrow_24 rfl ?_
  refine ev_iconstN 1 dX2_narrow_25 (by decide) ?_
  refine ev_putI dX2_narrow_26 fX2_70 (Or.inl rfl) (by first | exact Or.inl rfl | exact Or.inr (Or.inl rfl) | exact Or.inr (Or.inr rfl)) hk ?_
  refine ev_return dX2_narrow_29 rfl ?_
  exact ⟨rfl, rfl⟩
/-- what a sieve says of an entry: covered before it, and kept -/
def covB (J : Nat → Nat → Int64) (bf : Option Nat) (c : Bool) (e : Nat) : Bool := match bf with
  | none => false
  | some b => decide (J 3 b = J 3 e) && c
def kpB (c : Bool) (t h : Int32) (dd : Bool) (o : Option Nat) : Bool := !c && !(decide (t ≤ h) && dd && o.isNone)
set_option maxRecDepth 100000 in
set_option maxHeartbeats 4000000 in
theorem kp_27 {i e : Nat} {cv dd : Bool} {I0 : Nat → Nat → Int32} (hk : K i = 4) (he : K e = 0) (hc : I 259 i = bZ cv) (hd : I 257 i = bZ dd) (hI : ∀ x, u2 I 259 i x = u2 I0 259 i x) (h4 : I 4 e = I0 4 e) (h256 : I 256 i = I0 256 i) : Ev X mX4_keeps d 27 [some (rV (some i)), some (rV (some e))] [] (K, I, J, R, A, B, Ln, n, sl) (fun r G' => r = some (iV (bZ (kpB cv (I0 4 e) (I0 256 i) dd (R 5 e)))) ∧ G' = (K, u2 I0 259 i (bZ (cv || decide (I0 4 e ≤ I0 256 i))), J, u2 R 258 i (some e), A, B, Ln, n, sl)) := by
  have hse : u2 I 259 i (I 259 i) = I := by
    funext a b
    unfold u2
    by_cases z : a = 259 ∧ b = i
    · rw [if_pos z, z.1, z.2]
    · rw [if_neg z]
  rw [← h4, ← h256, ← hI]
  cases cv with
  | true =>
    rw [show (true || decide (I 4 e ≤ I 256 i)) = true from rfl, ← hc, hse]
    refine ev_aload_n dX4_keeps_27 rfl ?_
    refine ev_aload_n dX4_keeps_28 rfl ?_
    refine ev_putR dX4_keeps_29 fX4_17 (Or.inl rfl) hk ?_
    refine ev_aload_n dX4_keeps_32 rfl ?_
    refine ev_getIv dX4_keeps_33 fX4_27 hk hc ?_
    refine ev_if_eq 41 dX4_keeps_36 (by decide) (fun c36 => absurd c36 (by decide)) (fun c36 => ?_)
    refine ev_iconstN 0 dX4_keeps_39 (by decide) ?_
    refine ev_zreturn dX4_keeps_40 rfl (by decide) ?_
    exact ⟨rfl, rfl⟩
  | false =>
    have hr5 : u2 R 258 i (some e) 5 e = R 5 e := u2_ne1 (by decide)
    have h57 : ∀ x, u2 I 259 i x 257 i = bZ dd := fun x => (u2_ne1 (by decide)).trans hd
    by_cases hle : I 4 e ≤ I 256 i
    · rw [decide_eq_true hle]
      cases dd with
      | false =>
        refine ev_aload_n dX4_keeps_27 rfl ?_
        refine ev_aload_n dX4_keeps_28 rfl ?_
        refine ev_putR dX4_keeps_29 fX4_17 (Or.inl rfl) hk ?_
        refine ev_aload_n dX4_keeps_32 rfl ?_
        refine ev_getIv dX4_keeps_33 fX4_27 hk hc ?_
        refine ev_if_eq 41 dX4_keeps_36 (by decide) (fun c36 => ?_) (fun c36 => absurd c36 (fun z => z rfl))
        refine ev_aload_n dX4_keeps_41 rfl ?_
        refine ev_aload_n dX4_keeps_42 rfl ?_
        refine ev_getI dX4_keeps_43 fX4_30 he ?_
        refine ev_aload_n dX4_keeps_46 rfl ?_
        refine ev_getI dX4_keeps_47 fX4_7 hk ?_
        refine ev_icmp_gt 57 dX4_keeps_50 (by decide) (fun c50 => absurd hle (Int32.not_le.mpr c50)) (fun c50 => ?_)
        refine ev_iconstN 1 dX4_keeps_53 (by decide) ?_
        refine ev_goto 58 dX4_keeps_54 (by decide) ?_
        refine ev_putI dX4_keeps_58 fX4_27 (Or.inl rfl) (by first | exact Or.inl rfl | exact Or.inr (Or.inl rfl) | exact Or.inr (Or.inr rfl)) hk ?_
        refine ev_aload_n dX4_keeps_61 rfl ?_
        refine ev_getIv dX4_keeps_62 fX4_27 hk u2_self ?_
        refine ev_if_eq 82 dX4_keeps_65 (by decide) (fun c65 => absurd c65 (by decide)) (fun c65 => ?_)
        refine ev_aload_n dX4_keeps_68 rfl ?_
        refine ev_getIv dX4_keeps_69 fX4_13 hk (h57 _) ?_
        refine ev_if_eq 82 dX4_keeps_72 (by decide) (fun c72 => ?_) (fun c72 => absurd c72 (fun z => z rfl))
        refine ev_iconstN 1 dX4_keeps_82 (by decide) ?_
        refine ev_goto 87 dX4_keeps_83 (by decide) ?_
        refine ev_zreturn dX4_keeps_87 rfl (by decide) ?_
        exact ⟨by simp [kpB, bZ, hle]; rfl, rfl⟩
      | true =>
        cases hrow : R 5 e with
        | none =>
          rw [hrow] at hr5
          refine ev_aload_n dX4_keeps_27 rfl ?_
          refine ev_aload_n dX4_keeps_28 rfl ?_
          refine ev_putR dX4_keeps_29 fX4_17 (Or.inl rfl) hk ?_
          refine ev_aload_n dX4_keeps_32 rfl ?_
          refine ev_getIv dX4_keeps_33 fX4_27 hk hc ?_
          refine ev_if_eq 41 dX4_keeps_36 (by decide) (fun c36 => ?_) (fun c36 => absurd c36 (fun z => z rfl))
          refine ev_aload_n dX4_keeps_41 rfl ?_
          refine ev_aload_n dX4_keeps_42 rfl ?_
          refine ev_getI dX4_keeps_43 fX4_30 he ?_
          refine ev_aload_n dX4_keeps_46 rfl ?_
          refine ev_getI dX4_keeps_47 fX4_7 hk ?_
          refine ev_icmp_gt 57 dX4_keeps_50 (by decide) (fun c50 => absurd hle (Int32.not_le.mpr c50)) (fun c50 => ?_)
          refine ev_iconstN 1 dX4_keeps_53 (by decide) ?_
          refine ev_goto 58 dX4_keeps_54 (by decide) ?_
          refine ev_putI dX4_keeps_58 fX4_27 (Or.inl rfl) (by first | exact Or.inl rfl | exact Or.inr (Or.inl rfl) | exact Or.inr (Or.inr rfl)) hk ?_
          refine ev_aload_n dX4_keeps_61 rfl ?_
          refine ev_getIv dX4_keeps_62 fX4_27 hk u2_self ?_
          refine ev_if_eq 82 dX4_keeps_65 (by decide) (fun c65 => absurd c65 (by decide)) (fun c65 => ?_)
          refine ev_aload_n dX4_keeps_68 rfl ?_
          refine ev_getIv dX4_keeps_69 fX4_13 hk (h57 _) ?_
          refine ev_if_eq 82 dX4_keeps_72 (by decide) (fun c72 => absurd c72 (by decide)) (fun c72 => ?_)
          refine ev_aload_n dX4_keeps_75 rfl ?_
          refine ev_getR dX4_keeps_76 fX4_33 he hr5 ?_
          refine ev_ifnull 86 dX4_keeps_79 (by decide) (fun c79 => ?_) (fun x c79 => by cases c79)
          refine ev_iconstN 0 dX4_keeps_86 (by decide) ?_
          refine ev_zreturn dX4_keeps_87 rfl (by decide) ?_
          exact ⟨by simp [kpB, bZ, hle]; rfl, rfl⟩
        | some z =>
          rw [hrow] at hr5
          refine ev_aload_n dX4_keeps_27 rfl ?_
          refine ev_aload_n dX4_keeps_28 rfl ?_
          refine ev_putR dX4_keeps_29 fX4_17 (Or.inl rfl) hk ?_
          refine ev_aload_n dX4_keeps_32 rfl ?_
          refine ev_getIv dX4_keeps_33 fX4_27 hk hc ?_
          refine ev_if_eq 41 dX4_keeps_36 (by decide) (fun c36 => ?_) (fun c36 => absurd c36 (fun z => z rfl))
          refine ev_aload_n dX4_keeps_41 rfl ?_
          refine ev_aload_n dX4_keeps_42 rfl ?_
          refine ev_getI dX4_keeps_43 fX4_30 he ?_
          refine ev_aload_n dX4_keeps_46 rfl ?_
          refine ev_getI dX4_keeps_47 fX4_7 hk ?_
          refine ev_icmp_gt 57 dX4_keeps_50 (by decide) (fun c50 => absurd hle (Int32.not_le.mpr c50)) (fun c50 => ?_)
          refine ev_iconstN 1 dX4_keeps_53 (by decide) ?_
          refine ev_goto 58 dX4_keeps_54 (by decide) ?_
          refine ev_putI dX4_keeps_58 fX4_27 (Or.inl rfl) (by first | exact Or.inl rfl | exact Or.inr (Or.inl rfl) | exact Or.inr (Or.inr rfl)) hk ?_
          refine ev_aload_n dX4_keeps_61 rfl ?_
          refine ev_getIv dX4_keeps_62 fX4_27 hk u2_self ?_
          refine ev_if_eq 82 dX4_keeps_65 (by decide) (fun c65 => absurd c65 (by decide)) (fun c65 => ?_)
          refine ev_aload_n dX4_keeps_68 rfl ?_
          refine ev_getIv dX4_keeps_69 fX4_13 hk (h57 _) ?_
          refine ev_if_eq 82 dX4_keeps_72 (by decide) (fun c72 => absurd c72 (by decide)) (fun c72 => ?_)
          refine ev_aload_n dX4_keeps_75 rfl ?_
          refine ev_getR dX4_keeps_76 fX4_33 he hr5 ?_
          refine ev_ifnull 86 dX4_keeps_79 (by decide) (fun c79 => by cases c79) (fun x c79 => ?_)
          refine ev_iconstN 1 dX4_keeps_82 (by decide) ?_
          refine ev_goto 87 dX4_keeps_83 (by decide) ?_
          refine ev_zreturn dX4_keeps_87 rfl (by decide) ?_
          exact ⟨by simp [kpB, bZ, hle]; rfl, rfl⟩
    · rw [decide_eq_false hle]
      refine ev_aload_n dX4_keeps_27 rfl ?_
      refine ev_aload_n dX4_keeps_28 rfl ?_
      refine ev_putR dX4_keeps_29 fX4_17 (Or.inl rfl) hk ?_
      refine ev_aload_n dX4_keeps_32 rfl ?_
      refine ev_getIv dX4_keeps_33 fX4_27 hk hc ?_
      refine ev_if_eq 41 dX4_keeps_36 (by decide) (fun c36 => ?_) (fun c36 => absurd c36 (fun z => z rfl))
      refine ev_aload_n dX4_keeps_41 rfl ?_
      refine ev_aload_n dX4_keeps_42 rfl ?_
      refine ev_getI dX4_keeps_43 fX4_30 he ?_
      refine ev_aload_n dX4_keeps_46 rfl ?_
      refine ev_getI dX4_keeps_47 fX4_7 hk ?_
      refine ev_icmp_gt 57 dX4_keeps_50 (by decide) (fun c50 => ?_) (fun c50 => absurd (Int32.not_lt.mp c50) hle)
      refine ev_iconstN 0 dX4_keeps_57 (by decide) ?_
      refine ev_putI dX4_keeps_58 fX4_27 (Or.inl rfl) (by first | exact Or.inl rfl | exact Or.inr (Or.inl rfl) | exact Or.inr (Or.inr rfl)) hk ?_
      refine ev_aload_n dX4_keeps_61 rfl ?_
      refine ev_getIv dX4_keeps_62 fX4_27 hk u2_self ?_
      refine ev_if_eq 82 dX4_keeps_65 (by decide) (fun c65 => ?_) (fun c65 => absurd c65 (fun z => z rfl))
      refine ev_iconstN 1 dX4_keeps_82 (by decide) ?_
      refine ev_goto 87 dX4_keeps_83 (by decide) ?_
      refine ev_zreturn dX4_keeps_87 rfl (by decide) ?_
      exact ⟨by simp [kpB, bZ, hle]; rfl, rfl⟩
theorem cs_keeps {i e : Nat} {cv dd : Bool} {bf : Option Nat} (hk : K i = 4) (he : K e = 0) (hb : R 258 i = bf) (hbk : ∀ b, bf = some b → K b = 0) (hc : I 259 i = bZ cv) (hd : I 257 i = bZ dd) : EvM X mX4_keeps d [rV (some i), rV (some e)] (K, I, J, R, A, B, Ln, n, sl) (fun r G' => r = some (iV (bZ (kpB (covB J bf cv e) (I 4 e) (I 256 i) dd (R 5 e)))) ∧ G' = (K, u2 I 259 i (bZ (covB J bf cv e || decide (I 4 e ≤ I 256 i))), J, u2 R 258 i (some e), A, B, Ln, n, sl)) := by
  show Ev X mX4_keeps d 0 [some (rV (some i)), some (rV (some e))] [] (K, I, J, R, A, B, Ln, n, sl) _
  have k0 := kp_27 (X := X) (d := d) (K := K) (I := u2 I 259 i (bZ false)) (J := J) (R := R) (A := A) (B := B) (Ln := Ln) (n := n) (sl := sl) (i := i) (e := e) (cv := false) (dd := dd) (I0 := I) hk he u2_self ((u2_ne1 (by decide)).trans hd) (fun x => u2_u2) (u2_ne1 (by decide)) (u2_ne1 (by decide))
  have k1 := kp_27 (X := X) (d := d) (K := K) (I := I) (J := J) (R := R) (A := A) (B := B) (Ln := Ln) (n := n) (sl := sl) (i := i) (e := e) (cv := cv) (dd := dd) (I0 := I) hk he hc hd (fun x => rfl) rfl rfl
  cases bf with
  | none =>
    refine ev_aload_n dX4_keeps_0 rfl ?_
    refine ev_getR dX4_keeps_1 fX4_17 hk hb ?_
    refine ev_ifnull 22 dX4_keeps_4 (by decide) (fun c4 => ?_) (fun x c4 => by cases c4)
    refine ev_aload_n dX4_keeps_22 rfl ?_
    refine ev_iconstN 0 dX4_keeps_23 (by decide) ?_
    refine ev_putI dX4_keeps_24 fX4_27 (Or.inl rfl) (by first | exact Or.inl rfl | exact Or.inr (Or.inl rfl) | exact Or.inr (Or.inr rfl)) hk ?_
    exact k0
  | some b =>
    have hkb := hbk b rfl
    by_cases hpl : J 3 b = J 3 e
    · rw [show covB J (some b) cv e = cv from (congrArg (· && cv) (decide_eq_true hpl)).trans (Bool.true_and cv)]
      refine ev_aload_n dX4_keeps_0 rfl ?_
      refine ev_getR dX4_keeps_1 fX4_17 hk hb ?_
      refine ev_ifnull 22 dX4_keeps_4 (by decide) (fun c4 => by cases c4) (fun x c4 => ?_)
      refine ev_aload_n dX4_keeps_7 rfl ?_
      refine ev_getR dX4_keeps_8 fX4_17 hk hb ?_
      refine ev_getJ dX4_keeps_11 fX4_21 hkb ?_
      refine ev_aload_n dX4_keeps_14 rfl ?_
      refine ev_getJ dX4_keeps_15 fX4_21 he ?_
      refine ev_lcmp dX4_keeps_18 ?_
      refine ev_if_eq 27 dX4_keeps_19 (by decide) (fun c19 => ?_) (fun c19 => absurd (lgc_eq.mpr hpl) c19)
      exact k1
    · rw [show covB J (some b) cv e = false from (congrArg (· && cv) (decide_eq_false hpl)).trans (Bool.false_and cv)]
      refine ev_aload_n dX4_keeps_0 rfl ?_
      refine ev_getR dX4_keeps_1 fX4_17 hk hb ?_
      refine ev_ifnull 22 dX4_keeps_4 (by decide) (fun c4 => by cases c4) (fun x c4 => ?_)
      refine ev_aload_n dX4_keeps_7 rfl ?_
      refine ev_getR dX4_keeps_8 fX4_17 hk hb ?_
      refine ev_getJ dX4_keeps_11 fX4_21 hkb ?_
      refine ev_aload_n dX4_keeps_14 rfl ?_
      refine ev_getJ dX4_keeps_15 fX4_21 he ?_
      refine ev_lcmp dX4_keeps_18 ?_
      refine ev_if_eq 27 dX4_keeps_19 (by decide) (fun c19 => absurd (lgc_eq.mp c19) hpl) (fun c19 => ?_)
      refine ev_aload_n dX4_keeps_22 rfl ?_
      refine ev_iconstN 0 dX4_keeps_23 (by decide) ?_
      refine ev_putI dX4_keeps_24 fX4_27 (Or.inl rfl) (by first | exact Or.inl rfl | exact Or.inr (Or.inl rfl) | exact Or.inr (Or.inr rfl)) hk ?_
      exact k0
end C71
