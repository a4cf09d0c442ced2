section C70
variable {X : CX} {d : Nat} {K : Nat → Nat} {I : Nat → Nat → Int32} {J : Nat → Nat → Int64} {R : Nat → Nat → Option Nat} {A : Nat → Nat → Int32} {B : Nat → Nat → Option Nat} {Ln : Nat → Nat} {n sl : Nat}
theorem lgc_eq {a b : Int64} : lg_cmp a b = 0 ↔ a = b := by
  constructor
  · intro h
    have h1 : ¬ b < a := lgc_le.mp (by rw [h]; decide)
    have h2 : ¬ a < b := lgc_ge.mp (by rw [h]; decide)
    exact Int64.le_antisymm (Int64.not_lt.mp h1) (Int64.not_lt.mp h2)
  · intro h
    subst h
    have h1 : lg_cmp a a ≤ 0 := lgc_le.mpr (Int64.lt_irrefl)
    have h2 : 0 ≤ lg_cmp a a := lgc_ge.mpr (Int64.lt_irrefl)
    exact Int32.le_antisymm h1 h2
/-- space, value and key as one number -/
def plcL (s v k : Int32) : Int64 := (s.toInt64 <<< ((nI 37).toInt64 &&& 63)) + ((v.toInt64 - (-2147483648)) <<< ((nI 5).toInt64 &&& 63)) + k.toInt64
def befL (p : Int64) (t : Int32) (q : Int64) (u : Int32) : Bool := decide (p < q ∨ (p = q ∧ u < t))
def witB (s : Int32) (v : Int32) (x : Int32) (lo hi : Int64) : Bool := decide (s = x ∧ ¬ v.toInt64 < lo ∧ ¬ hi < v.toInt64)
set_option maxRecDepth 100000 in
set_option maxHeartbeats 4000000 in
theorem cs_placeOf {s v k : Int32} {G : GH} : EvM X mX0_placeOf d [iV s, iV v, iV k] G (fun r G' => r = some (lV (plcL s v k)) ∧ G' = G) := by
  show Ev X mX0_placeOf d 0 [some (iV s), some (iV v), some (iV k)] [] G _
  refine ev_iload_n dX0_placeOf_0 rfl ?_
  refine ev_i2l dX0_placeOf_1 ?_
  refine ev_bipushN 37 dX0_placeOf_2 (by decide) ?_
  refine ev_lshl dX0_placeOf_4 ?_
  refine ev_iload_n dX0_placeOf_5 rfl ?_
  refine ev_i2l dX0_placeOf_6 ?_
  refine ev_ldc2 dX0_placeOf_7 coX0_36 ?_
  refine ev_lsub dX0_placeOf_10 ?_
  refine ev_iconstN 5 dX0_placeOf_11 (by decide) ?_
  refine ev_lshl dX0_placeOf_12 ?_
  refine ev_ladd dX0_placeOf_13 ?_
  refine ev_iload_n dX0_placeOf_14 rfl ?_
  refine ev_i2l dX0_placeOf_15 ?_
  refine ev_ladd dX0_placeOf_16 ?_
  refine ev_lreturn dX0_placeOf_17 rfl ?_
  exact ⟨rfl, rfl⟩
theorem cs_isBefore {i : Nat} (hk : K i = 0) {q : Int64} {u : Int32} : EvM X mX0_isBefore d [rV (some i), lV q, iV u] (K, I, J, R, A, B, Ln, n, sl) (fun r G' => r = some (iV (bZ (befL (J 3 i) (I 4 i) q u))) ∧ G' = (K, I, J, R, A, B, Ln, n, sl)) := by
  show Ev X mX0_isBefore d 0 [some (rV (some i)), some (lV q), none, some (iV u)] [] (K, I, J, R, A, B, Ln, n, sl) _
  have k31 : ∀ z : Nat, nI z = bZ (befL (J 3 i) (I 4 i) q u) → Ev X mX0_isBefore d 31 [some (rV (some i)), some (lV q), none, some (iV u)] [iV (nI z)] (K, I, J, R, A, B, Ln, n, sl) (fun r G' => r = some (iV (bZ (befL (J 3 i) (I 4 i) q u))) ∧ G' = (K, I, J, R, A, B, Ln, n, sl)) := by
    intro z hz
    have h01 := bZ_01 (befL (J 3 i) (I 4 i) q u)
    rw [hz]
    refine ev_zreturn dX0_isBefore_31 rfl h01 ?_
    exact ⟨rfl, rfl⟩
  refine ev_aload_n dX0_isBefore_0 rfl ?_
  refine ev_getJ dX0_isBefore_1 fX0_25 hk ?_
  refine ev_lload_n dX0_isBefore_4 rfl ?_
  refine ev_lcmp dX0_isBefore_5 ?_
  refine ev_if_lt 26 dX0_isBefore_6 (by decide) (fun c6 => ?_) (fun c6 => ?_)
  · refine ev_iconstN 1 dX0_isBefore_26 (by decide) ?_
    refine ev_goto 31 dX0_isBefore_27 (by decide) ?_
    first | exact k31 1 (congrArg bZ (decide_eq_true (Or.inl (lgc_lt.mp c6)))).symm | exact k31 1 (congrArg bZ (decide_eq_true (Or.inr ⟨lgc_eq.mp c15, Int32.not_le.mp c23⟩))).symm | (have y15 := c15; have n15 : ¬ J 3 i = q := fun z => y15 (lgc_eq.mpr z); exact k31 0 (congrArg bZ (decide_eq_false (by rintro (z | z); exact c6 (lgc_lt.mpr z); exact n15 z.1))).symm) | exact k31 0 (congrArg bZ (decide_eq_false (by rintro (z | z); exact c6 (lgc_lt.mpr z); exact absurd z.2 (Int32.not_lt.mpr c23)))).symm
  · refine ev_aload_n dX0_isBefore_9 rfl ?_
    refine ev_getJ dX0_isBefore_10 fX0_25 hk ?_
    refine ev_lload_n dX0_isBefore_13 rfl ?_
    refine ev_lcmp dX0_isBefore_14 ?_
    refine ev_if_ne 30 dX0_isBefore_15 (by decide) (fun c15 => ?_) (fun c15 => ?_)
    · refine ev_iconstN 0 dX0_isBefore_30 (by decide) ?_
      first | exact k31 1 (congrArg bZ (decide_eq_true (Or.inl (lgc_lt.mp c6)))).symm | exact k31 1 (congrArg bZ (decide_eq_true (Or.inr ⟨lgc_eq.mp c15, Int32.not_le.mp c23⟩))).symm | (have y15 := c15; have n15 : ¬ J 3 i = q := fun z => y15 (lgc_eq.mpr z); exact k31 0 (congrArg bZ (decide_eq_false (by rintro (z | z); exact c6 (lgc_lt.mpr z); exact n15 z.1))).symm) | exact k31 0 (congrArg bZ (decide_eq_false (by rintro (z | z); exact c6 (lgc_lt.mpr z); exact absurd z.2 (Int32.not_lt.mpr c23)))).symm
    · refine ev_aload_n dX0_isBefore_18 rfl ?_
      refine ev_getI dX0_isBefore_19 fX0_29 hk ?_
      refine ev_iload_n dX0_isBefore_22 rfl ?_
      refine ev_icmp_le 30 dX0_isBefore_23 (by decide) (fun c23 => ?_) (fun c23 => ?_)
      · refine ev_iconstN 0 dX0_isBefore_30 (by decide) ?_
        first | exact k31 1 (congrArg bZ (decide_eq_true (Or.inl (lgc_lt.mp c6)))).symm | exact k31 1 (congrArg bZ (decide_eq_true (Or.inr ⟨lgc_eq.mp c15, Int32.not_le.mp c23⟩))).symm | (have y15 := c15; have n15 : ¬ J 3 i = q := fun z => y15 (lgc_eq.mpr z); exact k31 0 (congrArg bZ (decide_eq_false (by rintro (z | z); exact c6 (lgc_lt.mpr z); exact n15 z.1))).symm) | exact k31 0 (congrArg bZ (decide_eq_false (by rintro (z | z); exact c6 (lgc_lt.mpr z); exact absurd z.2 (Int32.not_lt.mpr c23)))).symm
      · refine ev_iconstN 1 dX0_isBefore_26 (by decide) ?_
        refine ev_goto 31 dX0_isBefore_27 (by decide) ?_
        first | exact k31 1 (congrArg bZ (decide_eq_true (Or.inl (lgc_lt.mp c6)))).symm | exact k31 1 (congrArg bZ (decide_eq_true (Or.inr ⟨lgc_eq.mp c15, Int32.not_le.mp c23⟩))).symm | (have y15 := c15; have n15 : ¬ J 3 i = q := fun z => y15 (lgc_eq.mpr z); exact k31 0 (congrArg bZ (decide_eq_false (by rintro (z | z); exact c6 (lgc_lt.mpr z); exact n15 z.1))).symm) | exact k31 0 (congrArg bZ (decide_eq_false (by rintro (z | z); exact c6 (lgc_lt.mpr z); exact absurd z.2 (Int32.not_lt.mpr c23)))).symm
theorem cs_isWithin {i : Nat} (hk : K i = 0) {x : Int32} {lo hi : Int64} : EvM X mX0_isWithin d [rV (some i), iV x, lV lo, lV hi] (K, I, J, R, A, B, Ln, n, sl) (fun r G' => r = some (iV (bZ (witB (I 0 i) (I 1 i) x lo hi))) ∧ G' = (K, I, J, R, A, B, Ln, n, sl)) := by
  show Ev X mX0_isWithin d 0 [some (rV (some i)), some (iV x), some (lV lo), none, some (lV hi), none] [] (K, I, J, R, A, B, Ln, n, sl) _
  have k34 : ∀ z : Nat, nI z = bZ (witB (I 0 i) (I 1 i) x lo hi) → Ev X mX0_isWithin d 34 [some (rV (some i)), some (iV x), some (lV lo), none, some (lV hi), none] [iV (nI z)] (K, I, J, R, A, B, Ln, n, sl) (fun r G' => r = some (iV (bZ (witB (I 0 i) (I 1 i) x lo hi))) ∧ G' = (K, I, J, R, A, B, Ln, n, sl)) := by
    intro z hz
    have h01 := bZ_01 (witB (I 0 i) (I 1 i) x lo hi)
    rw [hz]
    refine ev_zreturn dX0_isWithin_34 rfl h01 ?_
    exact ⟨rfl, rfl⟩
  refine ev_aload_n dX0_isWithin_0 rfl ?_
  refine ev_getI dX0_isWithin_1 fX0_9 hk ?_
  refine ev_iload_n dX0_isWithin_4 rfl ?_
  refine ev_icmp_ne 33 dX0_isWithin_5 (by decide) (fun c5 => ?_) (fun c5 => ?_)
  · refine ev_iconstN 0 dX0_isWithin_33 (by decide) ?_
    first | exact k34 0 (congrArg bZ (decide_eq_false (fun z => c5 z.1))).symm | (have y26 := lgc_gt.mp c26; exact k34 0 (congrArg bZ (decide_eq_false (fun z => z.2.2 y26))).symm) | (have y15 := lgc_lt.mp c15; exact k34 0 (congrArg bZ (decide_eq_false (fun z => z.2.1 y15))).symm) | exact k34 1 (congrArg bZ (decide_eq_true ⟨c5, fun z => c15 (lgc_lt.mpr z), fun z => c26 (lgc_gt.mpr z)⟩)).symm
  · refine ev_aload_n dX0_isWithin_8 rfl ?_
    refine ev_getI dX0_isWithin_9 fX0_15 hk ?_
    refine ev_i2l dX0_isWithin_12 ?_
    refine ev_lload_n dX0_isWithin_13 rfl ?_
    refine ev_lcmp dX0_isWithin_14 ?_
    refine ev_if_lt 33 dX0_isWithin_15 (by decide) (fun c15 => ?_) (fun c15 => ?_)
    · refine ev_iconstN 0 dX0_isWithin_33 (by decide) ?_
      first | exact k34 0 (congrArg bZ (decide_eq_false (fun z => c5 z.1))).symm | (have y26 := lgc_gt.mp c26; exact k34 0 (congrArg bZ (decide_eq_false (fun z => z.2.2 y26))).symm) | (have y15 := lgc_lt.mp c15; exact k34 0 (congrArg bZ (decide_eq_false (fun z => z.2.1 y15))).symm) | exact k34 1 (congrArg bZ (decide_eq_true ⟨c5, fun z => c15 (lgc_lt.mpr z), fun z => c26 (lgc_gt.mpr z)⟩)).symm
    · refine ev_aload_n dX0_isWithin_18 rfl ?_
      refine ev_getI dX0_isWithin_19 fX0_15 hk ?_
      refine ev_i2l dX0_isWithin_22 ?_
      refine ev_lload dX0_isWithin_23 rfl ?_
      refine ev_lcmp dX0_isWithin_25 ?_
      refine ev_if_gt 33 dX0_isWithin_26 (by decide) (fun c26 => ?_) (fun c26 => ?_)
      · refine ev_iconstN 0 dX0_isWithin_33 (by decide) ?_
        first | exact k34 0 (congrArg bZ (decide_eq_false (fun z => c5 z.1))).symm | (have y26 := lgc_gt.mp c26; exact k34 0 (congrArg bZ (decide_eq_false (fun z => z.2.2 y26))).symm) | (have y15 := lgc_lt.mp c15; exact k34 0 (congrArg bZ (decide_eq_false (fun z => z.2.1 y15))).symm) | exact k34 1 (congrArg bZ (decide_eq_true ⟨c5, fun z => c15 (lgc_lt.mpr z), fun z => c26 (lgc_gt.mpr z)⟩)).symm
      · refine ev_iconstN 1 dX0_isWithin_29 (by decide) ?_
        refine ev_goto 34 dX0_isWithin_30 (by decide) ?_
        first | exact k34 0 (congrArg bZ (decide_eq_false (fun z => c5 z.1))).symm | (have y26 := lgc_gt.mp c26; exact k34 0 (congrArg bZ (decide_eq_false (fun z => z.2.2 y26))).symm) | (have y15 := lgc_lt.mp c15; exact k34 0 (congrArg bZ (decide_eq_false (fun z => z.2.1 y15))).symm) | exact k34 1 (congrArg bZ (decide_eq_true ⟨c5, fun z => c15 (lgc_lt.mpr z), fun z => c26 (lgc_gt.mpr z)⟩)).symm
theorem cs_isInRetired0 {i : Nat} (hk : K i = 0) (hr : R 6 i = none) : EvM X mX0_isInRetiredFile d [rV (some i)] (K, I, J, R, A, B, Ln, n, sl) (fun r G' => r = some (iV 0) ∧ G' = (K, I, J, R, A, B, Ln, n, sl)) := by
  show Ev X mX0_isInRetiredFile d 0 [some (rV (some i))] [] (K, I, J, R, A, B, Ln, n, sl) _
  refine ev_aload_n dX0_isInRetiredFile_0 rfl ?_
  refine ev_getR dX0_isInRetiredFile_1 fX0_38 hk hr ?_
  refine ev_ifnull 21 dX0_isInRetiredFile_4 (by decide) (fun c4 => ?_) (fun x c4 => by cases c4)
  refine ev_iconstN 0 dX0_isInRetiredFile_21 (by decide) ?_
  refine ev_zreturn dX0_isInRetiredFile_22 rfl (by decide) ?_
  exact ⟨rfl, rfl⟩
theorem cs_isInRetired1 {i f : Nat} (hk : K i = 0) (hr : R 6 i = some f) (hf : K f = 5) {b : Bool} (hv : I 325 f = bZ b) : EvM X mX0_isInRetiredFile d [rV (some i)] (K, I, J, R, A, B, Ln, n, sl) (fun r G' => r = some (iV (bZ b)) ∧ G' = (K, I, J, R, A, B, Ln, n, sl)) := by
  show Ev X mX0_isInRetiredFile d 0 [some (rV (some i))] [] (K, I, J, R, A, B, Ln, n, sl) _
  cases b with
  | false =>
    refine ev_aload_n dX0_isInRetiredFile_0 rfl ?_
    refine ev_getR dX0_isInRetiredFile_1 fX0_38 hk hr ?_
    refine ev_ifnull 21 dX0_isInRetiredFile_4 (by decide) (fun c4 => by cases c4) (fun x c4 => ?_)
    refine ev_aload_n dX0_isInRetiredFile_7 rfl ?_
    refine ev_getR dX0_isInRetiredFile_8 fX0_38 hk hr ?_
    refine ev_getIv dX0_isInRetiredFile_11 fX0_42 hf hv ?_
    refine ev_if_eq 21 dX0_isInRetiredFile_14 (by decide) (fun c14 => ?_) (fun c14 => absurd c14 (fun z => z rfl))
    refine ev_iconstN 0 dX0_isInRetiredFile_21 (by decide) ?_
    refine ev_zreturn dX0_isInRetiredFile_22 rfl (by decide) ?_
    exact ⟨rfl, rfl⟩
  | true =>
    refine ev_aload_n dX0_isInRetiredFile_0 rfl ?_
    refine ev_getR dX0_isInRetiredFile_1 fX0_38 hk hr ?_
    refine ev_ifnull 21 dX0_isInRetiredFile_4 (by decide) (fun c4 => by cases c4) (fun x c4 => ?_)
    refine ev_aload_n dX0_isInRetiredFile_7 rfl ?_
    refine ev_getR dX0_isInRetiredFile_8 fX0_38 hk hr ?_
    refine ev_getIv dX0_isInRetiredFile_11 fX0_42 hf hv ?_
    refine ev_if_eq 21 dX0_isInRetiredFile_14 (by decide) (fun c14 => absurd c14 (by decide)) (fun c14 => ?_)
    refine ev_iconstN 1 dX0_isInRetiredFile_17 (by decide) ?_
    refine ev_goto 22 dX0_isInRetiredFile_18 (by decide) ?_
    refine ev_zreturn dX0_isInRetiredFile_22 rfl (by decide) ?_
    exact ⟨rfl, rfl⟩
theorem cs_nodes0 {G : GH} : EvM X mX1_nodesOf d [rV none] G (fun r G' => r = some (iV (nI 0)) ∧ G' = G) := by
  show Ev X mX1_nodesOf d 0 [some (rV none)] [] G _
  refine ev_aload_n dX1_nodesOf_0 rfl ?_
  refine ev_ifnonnull 8 dX1_nodesOf_1 (by decide) (fun x c1 => by cases c1) (fun c1 => ?_)
  refine ev_iconstN 0 dX1_nodesOf_4 (by decide) ?_
  refine ev_goto 12 dX1_nodesOf_5 (by decide) ?_
  refine ev_ireturn dX1_nodesOf_12 rfl ?_
  exact ⟨rfl, rfl⟩
theorem cs_nodes1 {i : Nat} (hk : K i = 1) : EvM X mX1_nodesOf d [rV (some i)] (K, I, J, R, A, B, Ln, n, sl) (fun r G' => r = some (iV (I 68 i)) ∧ G' = (K, I, J, R, A, B, Ln, n, sl)) := by
  show Ev X mX1_nodesOf d 0 [some (rV (some i))] [] (K, I, J, R, A, B, Ln, n, sl) _
  refine ev_aload_n dX1_nodesOf_0 rfl ?_
  refine ev_ifnonnull 8 dX1_nodesOf_1 (by decide) (fun x c1 => ?_) (fun c1 => by cases c1)
  refine ev_aload_n dX1_nodesOf_8 rfl ?_
  refine ev_getI dX1_nodesOf_9 fX1_29 hk ?_
  refine ev_ireturn dX1_nodesOf_12 rfl ?_
  exact ⟨rfl, rfl⟩
theorem cs_isBool {i m : Nat} (hk : K i = 1) (ho : I 64 i = nI m) (hm : m ≤ 12) : EvM X mX1_isBool d [rV (some i)] (K, I, J, R, A, B, Ln, n, sl) (fun r G' => r = some (iV (bZ (decide (7 ≤ m)))) ∧ G' = (K, I, J, R, A, B, Ln, n, sl)) := by
  show Ev X mX1_isBool d 0 [some (rV (some i))] [] (K, I, J, R, A, B, Ln, n, sl) _
  refine ev_aload_n dX1_isBool_0 rfl ?_
  refine ev_getIv dX1_isBool_1 fX1_9 hk ho ?_
  refine ev_bipushN 7 dX1_isBool_4 (by decide) ?_
  refine ev_icmp_ltN 13 dX1_isBool_6 (by decide) (by omega) (by omega) (fun c6 => ?_) (fun c6 => ?_)
  · refine ev_iconstN 0 dX1_isBool_13 (by decide) ?_
    refine ev_zreturn dX1_isBool_14 rfl (by decide) ?_
    first | (rw [decide_eq_false (by omega)]; exact ⟨rfl, rfl⟩) | (rw [decide_eq_true (by omega)]; exact ⟨rfl, rfl⟩)
  · refine ev_iconstN 1 dX1_isBool_9 (by decide) ?_
    refine ev_goto 14 dX1_isBool_10 (by decide) ?_
    refine ev_zreturn dX1_isBool_14 rfl (by decide) ?_
    first | (rw [decide_eq_false (by omega)]; exact ⟨rfl, rfl⟩) | (rw [decide_eq_true (by omega)]; exact ⟨rfl, rfl⟩)
theorem cs_isConst {i m : Nat} (hk : K i = 1) (ho : I 64 i = nI m) (hm : m ≤ 12) : EvM X mX1_isConst d [rV (some i)] (K, I, J, R, A, B, Ln, n, sl) (fun r G' => r = some (iV (bZ (decide (m = 3)))) ∧ G' = (K, I, J, R, A, B, Ln, n, sl)) := by
  show Ev X mX1_isConst d 0 [some (rV (some i))] [] (K, I, J, R, A, B, Ln, n, sl) _
  refine ev_aload_n dX1_isConst_0 rfl ?_
  refine ev_getIv dX1_isConst_1 fX1_9 hk ho ?_
  refine ev_iconstN 3 dX1_isConst_4 (by decide) ?_
  refine ev_icmp_neN 12 dX1_isConst_5 (by decide) (by omega) (by omega) (fun c5 => ?_) (fun c5 => ?_)
  · refine ev_iconstN 0 dX1_isConst_12 (by decide) ?_
    refine ev_zreturn dX1_isConst_13 rfl (by decide) ?_
    first | (rw [decide_eq_false (by omega)]; exact ⟨rfl, rfl⟩) | (rw [decide_eq_true (by omega)]; exact ⟨rfl, rfl⟩)
  · refine ev_iconstN 1 dX1_isConst_8 (by decide) ?_
    refine ev_goto 13 dX1_isConst_9 (by decide) ?_
    refine ev_zreturn dX1_isConst_13 rfl (by decide) ?_
    first | (rw [decide_eq_false (by omega)]; exact ⟨rfl, rfl⟩) | (rw [decide_eq_true (by omega)]; exact ⟨rfl, rfl⟩)
theorem cs_width {i : Nat} (hk : K i = 2) : EvM X mX2_width d [rV (some i)] (K, I, J, R, A, B, Ln, n, sl) (fun r G' => r = some (lV (J 130 i - J 129 i)) ∧ G' = (K, I, J, R, A, B, Ln, n, sl)) := by
  show Ev X mX2_width d 0 [some (rV (some i))] [] (K, I, J, R, A, B, Ln, n, sl) _
  refine ev_aload_n dX2_width_0 rfl ?_
  refine ev_getJ dX2_width_1 fX2_19 hk ?_
  refine ev_aload_n dX2_width_4 rfl ?_
  refine ev_getJ dX2_width_5 fX2_11 hk ?_
  refine ev_lsub dX2_width_8 ?_
  refine ev_lreturn dX2_width_9 rfl ?_
  exact ⟨rfl, rfl⟩
theorem cs_append {i e : Nat} (hk : K i = 5) (he : K e = 0) : EvM X mX5_append d [rV (some i), rV (some e)] (K, I, J, R, A, B, Ln, n, sl) (fun r G' => r = none ∧ G' = (K, u2 I 324 i (I 324 i + 1), J, u2 (u2 R 6 e (some i)) 323 i (some e), A, B, Ln, n, sl)) := by
  show Ev X mX5_append d 0 [some (rV (some i)), some (rV (some e))] [] (K, I, J, R, A, B, Ln, n, sl) _
  refine ev_aload_n dX5_append_0 rfl ?_
  refine ev_aload_n dX5_append_1 rfl ?_
  refine ev_putR dX5_append_2 fX5_25 (Or.inl rfl) he ?_
  refine ev_aload_n dX5_append_5 rfl ?_
  refine ev_aload_n dX5_append_6 rfl ?_
  refine ev_putR dX5_append_7 fX5_22 (Or.inl rfl) hk ?_
  refine ev_aload_n dX5_append_10 rfl ?_
  refine ev_dup dX5_append_11 rfl ?_
  refine ev_getI dX5_append_12 fX5_31 hk ?_
  refine ev_iconstN 1 dX5_append_15 (by decide) ?_
  refine ev_iadd (y := 1) dX5_append_16 ?_
  refine ev_putI dX5_append_17 fX5_31 (Or.inl rfl) (Or.inl rfl) hk ?_
  refine ev_return dX5_append_20 rfl ?_
  exact ⟨rfl, rfl⟩
theorem cs_isFull {i e l s : Nat} (hk : K i = 5) (he : K e = 0) (hl : R 323 i = some l) (hkl : K l = 0) (hs : I 324 i = nI s) (hsb : s < 2147483648) : EvM X mX5_isFullBefore d [rV (some i), rV (some e)] (K, I, J, R, A, B, Ln, n, sl) (fun r G' => r = some (iV (bZ (decide (12 ≤ s ∧ ¬ J 3 l = J 3 e)))) ∧ G' = (K, I, J, R, A, B, Ln, n, sl)) := by
  show Ev X mX5_isFullBefore d 0 [some (rV (some i)), some (rV (some e))] [] (K, I, J, R, A, B, Ln, n, sl) _
  refine ev_aload_n dX5_isFullBefore_0 rfl ?_
  refine ev_getIv dX5_isFullBefore_1 fX5_31 hk hs ?_
  refine ev_bipushN 12 dX5_isFullBefore_4 (by decide) ?_
  refine ev_icmp_ltN 28 dX5_isFullBefore_6 (by decide) (by omega) (by omega) (fun c6 => ?_) (fun c6 => ?_)
  · refine ev_iconstN 0 dX5_isFullBefore_28 (by decide) ?_
    refine ev_zreturn dX5_isFullBefore_29 rfl (by decide) ?_
    first | (rw [decide_eq_false (by omega)]; exact ⟨rfl, rfl⟩) | (rw [decide_eq_false (fun z => z.2 (lgc_eq.mp c21))]; exact ⟨rfl, rfl⟩) | (rw [decide_eq_true ⟨by omega, fun z => c21 (lgc_eq.mpr z)⟩]; exact ⟨rfl, rfl⟩)
  · refine ev_aload_n dX5_isFullBefore_9 rfl ?_
    refine ev_getR dX5_isFullBefore_10 fX5_22 hk hl ?_
    refine ev_getJ dX5_isFullBefore_13 fX5_34 hkl ?_
    refine ev_aload_n dX5_isFullBefore_16 rfl ?_
    refine ev_getJ dX5_isFullBefore_17 fX5_34 he ?_
    refine ev_lcmp dX5_isFullBefore_20 ?_
    refine ev_if_eq 28 dX5_isFullBefore_21 (by decide) (fun c21 => ?_) (fun c21 => ?_)
    · refine ev_iconstN 0 dX5_isFullBefore_28 (by decide) ?_
      refine ev_zreturn dX5_isFullBefore_29 rfl (by decide) ?_
      first | (rw [decide_eq_false (by omega)]; exact ⟨rfl, rfl⟩) | (rw [decide_eq_false (fun z => z.2 (lgc_eq.mp c21))]; exact ⟨rfl, rfl⟩) | (rw [decide_eq_true ⟨by omega, fun z => c21 (lgc_eq.mpr z)⟩]; exact ⟨rfl, rfl⟩)
    · refine ev_iconstN 1 dX5_isFullBefore_24 (by decide) ?_
      refine ev_goto 29 dX5_isFullBefore_25 (by decide) ?_
      refine ev_zreturn dX5_isFullBefore_29 rfl (by decide) ?_
      first | (rw [decide_eq_false (by omega)]; exact ⟨rfl, rfl⟩) | (rw [decide_eq_false (fun z => z.2 (lgc_eq.mp c21))]; exact ⟨rfl, rfl⟩) | (rw [decide_eq_true ⟨by omega, fun z => c21 (lgc_eq.mpr z)⟩]; exact ⟨rfl, rfl⟩)
theorem cs_meets {i g a b c e : Nat} (hk : K i = 5) (hg : K g = 5) (h1 : R 322 i = some a) (h2 : R 323 i = some b) (h3 : R 322 g = some c) (h4 : R 323 g = some e) (k1 : K a = 0) (k2 : K b = 0) (k3 : K c = 0) (k4 : K e = 0) : EvM X mX5_meets d [rV (some i), rV (some g)] (K, I, J, R, A, B, Ln, n, sl) (fun r G' => r = some (iV (bZ (decide (¬ J 3 b < J 3 c ∧ ¬ J 3 e < J 3 a)))) ∧ G' = (K, I, J, R, A, B, Ln, n, sl)) := by
  show Ev X mX5_meets d 0 [some (rV (some i)), some (rV (some g))] [] (K, I, J, R, A, B, Ln, n, sl) _
  refine ev_aload_n dX5_meets_0 rfl ?_
  refine ev_getR dX5_meets_1 fX5_22 hk h2 ?_
  refine ev_getJ dX5_meets_4 fX5_34 k2 ?_
  refine ev_aload_n dX5_meets_7 rfl ?_
  refine ev_getR dX5_meets_8 fX5_18 hg h3 ?_
  refine ev_getJ dX5_meets_11 fX5_34 k3 ?_
  refine ev_lcmp dX5_meets_14 ?_
  refine ev_if_lt 40 dX5_meets_15 (by decide) (fun c15 => ?_) (fun c15 => ?_)
  · refine ev_iconstN 0 dX5_meets_40 (by decide) ?_
    refine ev_zreturn dX5_meets_41 rfl (by decide) ?_
    first | (have y33 := lgc_lt.mp c33; rw [decide_eq_false (fun z => z.2 y33)]; exact ⟨rfl, rfl⟩) | (have y15 := lgc_lt.mp c15; rw [decide_eq_false (fun z => z.1 y15)]; exact ⟨rfl, rfl⟩) | (rw [decide_eq_true ⟨fun z => c15 (lgc_lt.mpr z), fun z => c33 (lgc_lt.mpr z)⟩]; exact ⟨rfl, rfl⟩)
  · refine ev_aload_n dX5_meets_18 rfl ?_
    refine ev_getR dX5_meets_19 fX5_22 hg h4 ?_
    refine ev_getJ dX5_meets_22 fX5_34 k4 ?_
    refine ev_aload_n dX5_meets_25 rfl ?_
    refine ev_getR dX5_meets_26 fX5_18 hk h1 ?_
    refine ev_getJ dX5_meets_29 fX5_34 k1 ?_
    refine ev_lcmp dX5_meets_32 ?_
    refine ev_if_lt 40 dX5_meets_33 (by decide) (fun c33 => ?_) (fun c33 => ?_)
    · refine ev_iconstN 0 dX5_meets_40 (by decide) ?_
      refine ev_zreturn dX5_meets_41 rfl (by decide) ?_
      first | (have y33 := lgc_lt.mp c33; rw [decide_eq_false (fun z => z.2 y33)]; exact ⟨rfl, rfl⟩) | (have y15 := lgc_lt.mp c15; rw [decide_eq_false (fun z => z.1 y15)]; exact ⟨rfl, rfl⟩) | (rw [decide_eq_true ⟨fun z => c15 (lgc_lt.mpr z), fun z => c33 (lgc_lt.mpr z)⟩]; exact ⟨rfl, rfl⟩)
    · refine ev_iconstN 1 dX5_meets_36 (by decide) ?_
      refine ev_goto 41 dX5_meets_37 (by decide) ?_
      refine ev_zreturn dX5_meets_41 rfl (by decide) ?_
      first | (have y33 := lgc_lt.mp c33; rw [decide_eq_false (fun z => z.2 y33)]; exact ⟨rfl, rfl⟩) | (have y15 := lgc_lt.mp c15; rw [decide_eq_false (fun z => z.1 y15)]; exact ⟨rfl, rfl⟩) | (rw [decide_eq_true ⟨fun z => c15 (lgc_lt.mpr z), fun z => c33 (lgc_lt.mpr z)⟩]; exact ⟨rfl, rfl⟩)
theorem cs_hasRoom {i c m : Nat} (hk : K i = 6) (hc : I 385 i = nI c) (hb : c + m < 2147483648) : EvM X mX6_hasRoomFor d [rV (some i), iV (nI m)] (K, I, J, R, A, B, Ln, n, sl) (fun r G' => r = some (iV (bZ (decide (c + m ≤ 500)))) ∧ G' = (K, I, J, R, A, B, Ln, n, sl)) := by
  show Ev X mX6_hasRoomFor d 0 [some (rV (some i)), some (iV (nI m))] [] (K, I, J, R, A, B, Ln, n, sl) _
  refine ev_aload_n dX6_hasRoomFor_0 rfl ?_
  refine ev_getIv dX6_hasRoomFor_1 fX6_24 hk hc ?_
  refine ev_iload_n dX6_hasRoomFor_4 rfl ?_
  refine ev_iaddN dX6_hasRoomFor_5 ?_
  refine ev_sipushN 500 dX6_hasRoomFor_6 (by decide) ?_
  refine ev_icmp_gtN 16 dX6_hasRoomFor_9 (by decide) (by omega) (by omega) (fun c9 => ?_) (fun c9 => ?_)
  · refine ev_iconstN 0 dX6_hasRoomFor_16 (by decide) ?_
    refine ev_zreturn dX6_hasRoomFor_17 rfl (by decide) ?_
    first | (rw [decide_eq_false (by omega)]; exact ⟨rfl, rfl⟩) | (rw [decide_eq_true (by omega)]; exact ⟨rfl, rfl⟩)
  · refine ev_iconstN 1 dX6_hasRoomFor_12 (by decide) ?_
    refine ev_goto 17 dX6_hasRoomFor_13 (by decide) ?_
    refine ev_zreturn dX6_hasRoomFor_17 rfl (by decide) ?_
    first | (rw [decide_eq_false (by omega)]; exact ⟨rfl, rfl⟩) | (rw [decide_eq_true (by omega)]; exact ⟨rfl, rfl⟩)
theorem cs_isOpen {i : Nat} (hk : K i = 7) : EvM X mX7_isOpen d [rV (some i)] (K, I, J, R, A, B, Ln, n, sl) (fun r G' => r = some (iV (bZ (decide (I 449 i = 1)))) ∧ G' = (K, I, J, R, A, B, Ln, n, sl)) := by
  show Ev X mX7_isOpen d 0 [some (rV (some i))] [] (K, I, J, R, A, B, Ln, n, sl) _
  refine ev_aload_n dX7_isOpen_0 rfl ?_
  refine ev_getI dX7_isOpen_1 fX7_9 hk ?_
  refine ev_iconstN 1 dX7_isOpen_4 (by decide) ?_
  refine ev_icmp_ne (y := 1) 12 dX7_isOpen_5 (by decide) (fun c5 => ?_) (fun c5 => ?_)
  · refine ev_iconstN 0 dX7_isOpen_12 (by decide) ?_
    refine ev_zreturn dX7_isOpen_13 rfl (by decide) ?_
    first | (rw [decide_eq_false c5]; exact ⟨rfl, rfl⟩) | (rw [decide_eq_true c5]; exact ⟨rfl, rfl⟩)
  · refine ev_iconstN 1 dX7_isOpen_8 (by decide) ?_
    refine ev_goto 13 dX7_isOpen_9 (by decide) ?_
    refine ev_zreturn dX7_isOpen_13 rfl (by decide) ?_
    first | (rw [decide_eq_false c5]; exact ⟨rfl, rfl⟩) | (rw [decide_eq_true c5]; exact ⟨rfl, rfl⟩)
theorem cs_put {i a b k : Nat} {o : Option Nat} (hk : K i = 7) (h1 : R 451 i = some a) (k1 : K a = 101) (l1 : Ln a = 32) (h2 : R 452 i = some b) (k2 : K b = 104) (l2 : Ln b = 32) (hb : k < 32) (ho : ∀ v, o = some v → K v = 3) : EvM X mX7_put d [rV (some i), iV (nI k), rV o] (K, I, J, R, A, B, Ln, n, sl) (fun r G' => r = none ∧ G' = (K, u2 I 450 i 1, J, R, u2 A a k 1, u2 B b k o, Ln, n, sl)) := by
  cases o with
  | none =>
    show Ev X mX7_put d 0 [some (rV (some i)), some (iV (nI k)), some (rV none)] [] (K, I, J, R, A, B, Ln, n, sl) _
    refine ev_aload_n dX7_put_0 rfl ?_
    refine ev_iconstN 1 dX7_put_1 (by decide) ?_
    refine ev_putI dX7_put_2 fX7_28 (Or.inl rfl) (by first | exact Or.inl rfl | exact Or.inr (Or.inl rfl) | exact Or.inr (Or.inr rfl)) hk ?_
    refine ev_aload_n dX7_put_5 rfl ?_
    refine ev_getR dX7_put_6 fX7_15 hk h1 ?_
    refine ev_iload_n dX7_put_9 rfl ?_
    refine ev_iconstN 1 dX7_put_10 (by decide) ?_
    refine ev_zast dX7_put_11 k1 l1 (by decide) (by omega) (Or.inr rfl) ?_
    refine ev_aload_n dX7_put_12 rfl ?_
    refine ev_getR dX7_put_13 fX7_21 hk h2 ?_
    refine ev_iload_n dX7_put_16 rfl ?_
    refine ev_aload_n dX7_put_17 rfl ?_
    refine ev_aastN (q := 4) dX7_put_18 k2 (by decide) (by decide) l2 (by decide) (by omega) ?_
    refine ev_return dX7_put_19 rfl ?_
    exact ⟨rfl, rfl⟩
  | some v =>
    have hv := ho v rfl
    show Ev X mX7_put d 0 [some (rV (some i)), some (iV (nI k)), some (rV (some v))] [] (K, I, J, R, A, B, Ln, n, sl) _
    refine ev_aload_n dX7_put_0 rfl ?_
    refine ev_iconstN 1 dX7_put_1 (by decide) ?_
    refine ev_putI dX7_put_2 fX7_28 (Or.inl rfl) (by first | exact Or.inl rfl | exact Or.inr (Or.inl rfl) | exact Or.inr (Or.inr rfl)) hk ?_
    refine ev_aload_n dX7_put_5 rfl ?_
    refine ev_getR dX7_put_6 fX7_15 hk h1 ?_
    refine ev_iload_n dX7_put_9 rfl ?_
    refine ev_iconstN 1 dX7_put_10 (by decide) ?_
    refine ev_zast dX7_put_11 k1 l1 (by decide) (by omega) (Or.inr rfl) ?_
    refine ev_aload_n dX7_put_12 rfl ?_
    refine ev_getR dX7_put_13 fX7_21 hk h2 ?_
    refine ev_iload_n dX7_put_16 rfl ?_
    refine ev_aload_n dX7_put_17 rfl ?_
    refine ev_aast (q := 4) dX7_put_18 k2 (by decide) (by decide) l2 (by decide) (by omega) hv (by decide) (Or.inl rfl) ?_
    refine ev_return dX7_put_19 rfl ?_
    exact ⟨rfl, rfl⟩
end C70
