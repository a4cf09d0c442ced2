section M10
variable {X : CX} {d : Nat} {K : Nat → Nat} {I : Nat → Nat → Int32} {J : Nat → Nat → Int64} {R : Nat → Nat → Option Nat} {A : Nat → Nat → Int32} {B : Nat → Nat → Option Nat} {Ln : Nat → Nat} {n sl : Nat}
theorem dpE_app : ∀ (p q : EX) (k : Nat), dpE (p ++ q) k = dpE q (dpE p k)
  | [], _, _ => rfl
  | on :: p, q, k => by
    show dpE (p ++ q) (k - needM on.1 + 1) = _
    rw [dpE_app p q]
    rfl
theorem wfE_app : ∀ (p q : EX) (k : Nat), wfE (p ++ q) k ↔ wfE p k ∧ wfE q (dpE p k)
  | [], _, _ => by simp [wfE, dpE]
  | on :: p, q, k => by
    show (on.1 ≤ 12 ∧ needM on.1 ≤ k ∧ _ ∧ wfE (p ++ q) (k - needM on.1 + 1)) ↔ _
    rw [wfE_app p q]
    show _ ↔ (on.1 ≤ 12 ∧ needM on.1 ≤ k ∧ _ ∧ wfE p (k - needM on.1 + 1)) ∧ wfE q (dpE p (k - needM on.1 + 1))
    constructor
    · rintro ⟨a, b, c, e, f⟩
      exact ⟨⟨a, b, c, e⟩, f⟩
    · rintro ⟨⟨a, b, c, e⟩, f⟩
      exact ⟨a, b, c, e, f⟩
/-- one expression, whole -/
def TreeE (e : EX) : Prop := wfE e 0 ∧ dpE e 0 = 1
theorem dpE_pos : ∀ (p : EX) (k : Nat), p ≠ [] → 0 < dpE p k
  | [], _, h => absurd rfl h
  | [on], k, _ => by show 0 < k - needM on.1 + 1; omega
  | on :: o2 :: p, k, _ => dpE_pos (o2 :: p) (k - needM on.1 + 1) (by simp)
theorem needN_nI {m : Nat} (h : m ≤ 12) : needN (nI m) = needM m := by
  unfold needN needM
  have e : nI m < 4 ↔ m < 4 := nI_ltI (b := 4) (by omega) (by decide)
  have e2 : nI m = 12 ↔ m = 12 := nI_eq (b := 12) (by omega) (by decide)
  have e3 : nI m = 11 ↔ m = 11 := nI_eq (b := 11) (by omega) (by decide)
  simp only [e, e2, e3]
theorem needM_le (m : Nat) : needM m ≤ 2 := by
  unfold needM
  split
  · omega
  · split <;> omega
theorem dpE_le (p : EX) : ∀ k, dpE p k ≤ k + p.length := by
  induction p with
  | nil => intro k; exact Nat.le_refl k
  | cons on p ih =>
    intro k
    have := ih (k - needM on.1 + 1)
    show dpE p (k - needM on.1 + 1) ≤ k + (p.length + 1)
    omega
set_option maxRecDepth 100000 in
set_option maxHeartbeats 4000000 in
theorem lp_from {Q : Option LV → GH → Prop} (hM : MFix K R Ln) {x nd : Nat} {ex pre : EX} (hx : x < 11) (hE : ExA A x ex) (hq : Q (some (iV (nI pre.length))) (K, I, J, R, A, B, Ln, n, sl)) : ∀ (f : Nat) (p suf : EX), p.length = f → ex = pre ++ p ++ suf → wfE p 0 → Ev X mX9_from (d + 1) 7 [some (rV (some 11)), some (iV (nI x)), some (iV (nI nd)), some (iV (nI (dpE p 0))), some (iV (nI (pre.length + p.length)))] [] (K, I, J, R, A, B, Ln, n, sl) Q := by
  intro f
  induction f with
  | zero =>
    intro p suf hp hex hw
    have e : p = [] := List.eq_nil_of_length_eq_zero hp
    subst e
    show Ev X mX9_from (d + 1) 7 [some (rV (some 11)), some (iV (nI x)), some (iV (nI nd)), some (iV (nI (0))), some (iV (nI (pre.length)))] [] (K, I, J, R, A, B, Ln, n, sl) Q
    refine ev_iload_n dX9_from_7 rfl ?_
    refine ev_if_leN 37 dX9_from_8 (by decide) (by omega) (fun c8 => ?_) (fun c8 => absurd c8 (by decide))
    refine ev_iload dX9_from_37 rfl ?_
    refine ev_ireturn dX9_from_39 rfl ?_
    exact hq
  | succ f ih =>
    intro p suf hp hex hw
    obtain ⟨q, on, rfl⟩ : ∃ q on, p = q ++ [on] := ⟨p.dropLast, p.getLast (by intro h; rw [h] at hp; cases hp), (List.dropLast_concat_getLast _).symm⟩
    have hql : q.length = f := by simp at hp; exact hp
    have hlen : ex.length = pre.length + (q.length + 1) + suf.length := by rw [hex]; simp; omega
    have h15 := hE.2.1
    have hon := hE.2.2 (pre.length + q.length) on (by rw [hex]; simp)
    rw [wfE_app] at hw
    obtain ⟨hw1, hon12, hneed, -⟩ := hw
    have hdp : dpE (q ++ [on]) 0 = dpE q 0 - needM on.1 + 1 := by rw [dpE_app]; rfl
    have hdl := dpE_le q 0
    have hn2 := needM_le on.1
    rw [hdp, show pre.length + (q ++ [on]).length = pre.length + q.length + 1 by simp; omega]
    refine ev_iload_n dX9_from_7 rfl ?_
    refine ev_if_leN 37 dX9_from_8 (by decide) (by omega) (fun c8 => absurd c8 (by omega)) (fun c8 => ?_)
    refine ev_iincM _ dX9_from_11 rfl (by decide) (by decide) rfl ?_
    refine ev_iload_n dX9_from_14 rfl ?_
    refine ev_aload_n dX9_from_15 rfl ?_
    refine ev_getR dX9_from_16 fX9_13 hM.m hM.R_op ?_
    refine ev_bipushN 15 dX9_from_19 (by decide) ?_
    refine ev_iload_n dX9_from_21 rfl ?_
    refine ev_imulN dX9_from_22 ?_
    refine ev_iload dX9_from_23 rfl ?_
    refine ev_iaddN dX9_from_25 ?_
    refine ev_ialdv dX9_from_26 hM.K_op hM.L_op (by decide) (by omega) hon.1 ?_
    refine ev_callS dX9_from_27 okX9_needs stX9_needs mlX9_88 [iV _] rfl rfl (Nat.le_of_ble_eq_true rfl) (Nat.le_of_ble_eq_true rfl) (sp_needs) (fun r_ G_ h_ => ?_)
    obtain ⟨rfl, rfl⟩ := h_
    rw [needN_nI hon12]
    try dsimp only [Option.toList, List.cons_append, List.nil_append]
    refine ev_iconstN 1 dX9_from_30 (by decide) ?_
    refine ev_isub (y := 1) dX9_from_31 ?_
    refine ev_iadd dX9_from_32 ?_
    refine ev_istore_n _ dX9_from_33 (by decide) rfl ?_
    refine ev_goto 7 dX9_from_34 (by decide) ?_
    rw [show nI (dpE q 0 - needM on.1 + 1) + (nI (needM on.1) - 1) = nI (dpE q 0) by
      have e1 : nI (dpE q 0 - needM on.1 + 1) = nI (dpE q 0 - needM on.1) + 1 := nI_succ _
      rw [e1, show nI (dpE q 0 - needM on.1) + 1 + (nI (needM on.1) - 1) = nI (dpE q 0 - needM on.1) + nI (needM on.1) by
        generalize nI (dpE q 0 - needM on.1) = u
        generalize nI (needM on.1) = v
        rw [Int32.add_assoc, Int32.add_comm 1, Int32.sub_add_cancel]]
      rw [nI_add]
      exact congrArg nI (by omega)]
    exact ih q ([on] ++ suf) hql (by rw [hex]; simp) hw1
set_option maxRecDepth 100000 in
set_option maxHeartbeats 4000000 in
theorem sp_from (hM : MFix K R Ln) {x : Nat} {ex pre sub suf : EX} (hx : x < 11) (hE : ExA A x ex) (hex : ex = pre ++ sub ++ suf) (hs : TreeE sub) {nd : Nat} (hnd : nd + 1 = pre.length + sub.length) : EvM X mX9_from (d + 1) [rV (some 11), iV (nI x), iV (nI nd)] (K, I, J, R, A, B, Ln, n, sl) (fun r G' => r = some (iV (nI pre.length)) ∧ G' = (K, I, J, R, A, B, Ln, n, sl)) := by
  show Ev X mX9_from (d + 1) 0 [some (rV (some 11)), some (iV (nI x)), some (iV (nI nd)), none, none] [] (K, I, J, R, A, B, Ln, n, sl) _
  refine ev_iconstN 1 dX9_from_0 (by decide) ?_
  refine ev_istore_n _ dX9_from_1 (by decide) rfl ?_
  refine ev_iload_n dX9_from_2 rfl ?_
  refine ev_iconstN 1 dX9_from_3 (by decide) ?_
  refine ev_iaddN dX9_from_4 ?_
  refine ev_istore _ dX9_from_5 (by decide) rfl ?_
  have h := lp_from (X := X) (d := d) (nd := nd) (pre := pre) (I := I) (J := J) (B := B) (n := n) (sl := sl) (Q := fun r G' => r = some (iV (nI pre.length)) ∧ G' = (K, I, J, R, A, B, Ln, n, sl)) hM hx hE ⟨rfl, rfl⟩ sub.length sub suf rfl hex hs.1
  rw [hs.2, ← hnd] at h
  exact h
def mxL (a b : Int64) : Int64 := if b < a then a else b
def mnL (a b : Int64) : Int64 := if a < b then a else b
theorem lgc_le {a b : Int64} : lg_cmp a b ≤ 0 ↔ ¬ b < a := by
  unfold lg_cmp
  by_cases h1 : b < a
  · simp [h1]
  · simp only [h1, if_false, not_false_eq_true, iff_true]
    split <;> decide
theorem lgc_ge {a b : Int64} : 0 ≤ lg_cmp a b ↔ ¬ a < b := by
  unfold lg_cmp
  by_cases h1 : b < a
  · have : ¬ a < b := Int64.not_lt.mpr (Int64.le_of_lt h1)
    simp [h1, this]
  · by_cases h2 : a < b
    · have hne : ¬ a = b := fun e => by subst e; exact h1 h2
      simp [h1, h2, hne]
    · have he : a = b := Int64.le_antisymm (Int64.not_lt.mp h1) (Int64.not_lt.mp h2)
      simp [he]
set_option maxRecDepth 100000 in
set_option maxHeartbeats 4000000 in
theorem sp_bound (hM : MFix K R Ln) {a b : Int64} : EvM X mX9_bound d [rV (some 11), lV a, lV b] (K, I, J, R, A, B, Ln, n, sl) (fun r G' => r = none ∧ G' = (K, u2 I 608 11 1, u2 (u2 J 609 11 (mxL a (J 609 11))) 610 11 (mnL b (J 610 11)), R, A, B, Ln, n, sl)) := by
  show Ev X mX9_bound d 0 [some (rV (some 11)), some (lV a), none, some (lV b), none] [] (K, I, J, R, A, B, Ln, n, sl) _
  refine ev_aload_n dX9_bound_0 rfl ?_
  refine ev_iconstN 1 dX9_bound_1 (by decide) ?_
  refine ev_putI dX9_bound_2 fX9_209 (Or.inl rfl) (Or.inr (Or.inr rfl)) hM.m ?_
  refine ev_aload_n dX9_bound_5 rfl ?_
  refine ev_lload_n dX9_bound_6 rfl ?_
  refine ev_aload_n dX9_bound_7 rfl ?_
  refine ev_getJ dX9_bound_8 fX9_213 hM.m ?_
  refine ev_lcmp dX9_bound_11 ?_
  refine ev_if_le 19 dX9_bound_12 (by decide) (fun c12 => ?_) (fun c12 => ?_)
  · refine ev_aload_n dX9_bound_19 rfl ?_
    refine ev_getJ dX9_bound_20 fX9_213 hM.m ?_
    refine ev_putJ dX9_bound_23 fX9_213 (Or.inl rfl) hM.m ?_
    refine ev_aload_n dX9_bound_26 rfl ?_
    refine ev_lload_n dX9_bound_27 rfl ?_
    refine ev_aload_n dX9_bound_28 rfl ?_
    refine ev_getJv dX9_bound_29 fX9_217 hM.m (u2_ne1 (by decide)) ?_
    refine ev_lcmp dX9_bound_32 ?_
    refine ev_if_ge 40 dX9_bound_33 (by decide) (fun c33 => ?_) (fun c33 => ?_)
    · refine ev_aload_n dX9_bound_40 rfl ?_
      refine ev_getJv dX9_bound_41 fX9_217 hM.m (u2_ne1 (by decide)) ?_
      refine ev_putJ dX9_bound_44 fX9_217 (Or.inl rfl) hM.m ?_
      refine ev_return dX9_bound_47 rfl ?_
      refine ⟨rfl, ?_⟩
      first | (rw [mxL, mnL, if_neg (lgc_le.mp c12), if_neg (lgc_ge.mp c33)]; rfl) | (rw [mxL, mnL, if_neg (lgc_le.mp c12), if_pos (Classical.not_not.mp (fun z => c33 (lgc_ge.mpr z)))]; rfl) | (rw [mxL, mnL, if_pos (Classical.not_not.mp (fun z => c12 (lgc_le.mpr z))), if_neg (lgc_ge.mp c33)]; rfl) | (rw [mxL, mnL, if_pos (Classical.not_not.mp (fun z => c12 (lgc_le.mpr z))), if_pos (Classical.not_not.mp (fun z => c33 (lgc_ge.mpr z)))]; rfl)
    · refine ev_lload_n dX9_bound_36 rfl ?_
      refine ev_goto 44 dX9_bound_37 (by decide) ?_
      refine ev_putJ dX9_bound_44 fX9_217 (Or.inl rfl) hM.m ?_
      refine ev_return dX9_bound_47 rfl ?_
      refine ⟨rfl, ?_⟩
      first | (rw [mxL, mnL, if_neg (lgc_le.mp c12), if_neg (lgc_ge.mp c33)]; rfl) | (rw [mxL, mnL, if_neg (lgc_le.mp c12), if_pos (Classical.not_not.mp (fun z => c33 (lgc_ge.mpr z)))]; rfl) | (rw [mxL, mnL, if_pos (Classical.not_not.mp (fun z => c12 (lgc_le.mpr z))), if_neg (lgc_ge.mp c33)]; rfl) | (rw [mxL, mnL, if_pos (Classical.not_not.mp (fun z => c12 (lgc_le.mpr z))), if_pos (Classical.not_not.mp (fun z => c33 (lgc_ge.mpr z)))]; rfl)
  · refine ev_lload_n dX9_bound_15 rfl ?_
    refine ev_goto 23 dX9_bound_16 (by decide) ?_
    refine ev_putJ dX9_bound_23 fX9_213 (Or.inl rfl) hM.m ?_
    refine ev_aload_n dX9_bound_26 rfl ?_
    refine ev_lload_n dX9_bound_27 rfl ?_
    refine ev_aload_n dX9_bound_28 rfl ?_
    refine ev_getJv dX9_bound_29 fX9_217 hM.m (u2_ne1 (by decide)) ?_
    refine ev_lcmp dX9_bound_32 ?_
    refine ev_if_ge 40 dX9_bound_33 (by decide) (fun c33 => ?_) (fun c33 => ?_)
    · refine ev_aload_n dX9_bound_40 rfl ?_
      refine ev_getJv dX9_bound_41 fX9_217 hM.m (u2_ne1 (by decide)) ?_
      refine ev_putJ dX9_bound_44 fX9_217 (Or.inl rfl) hM.m ?_
      refine ev_return dX9_bound_47 rfl ?_
      refine ⟨rfl, ?_⟩
      first | (rw [mxL, mnL, if_neg (lgc_le.mp c12), if_neg (lgc_ge.mp c33)]; rfl) | (rw [mxL, mnL, if_neg (lgc_le.mp c12), if_pos (Classical.not_not.mp (fun z => c33 (lgc_ge.mpr z)))]; rfl) | (rw [mxL, mnL, if_pos (Classical.not_not.mp (fun z => c12 (lgc_le.mpr z))), if_neg (lgc_ge.mp c33)]; rfl) | (rw [mxL, mnL, if_pos (Classical.not_not.mp (fun z => c12 (lgc_le.mpr z))), if_pos (Classical.not_not.mp (fun z => c33 (lgc_ge.mpr z)))]; rfl)
    · refine ev_lload_n dX9_bound_36 rfl ?_
      refine ev_goto 44 dX9_bound_37 (by decide) ?_
      refine ev_putJ dX9_bound_44 fX9_217 (Or.inl rfl) hM.m ?_
      refine ev_return dX9_bound_47 rfl ?_
      refine ⟨rfl, ?_⟩
      first | (rw [mxL, mnL, if_neg (lgc_le.mp c12), if_neg (lgc_ge.mp c33)]; rfl) | (rw [mxL, mnL, if_neg (lgc_le.mp c12), if_pos (Classical.not_not.mp (fun z => c33 (lgc_ge.mpr z)))]; rfl) | (rw [mxL, mnL, if_pos (Classical.not_not.mp (fun z => c12 (lgc_le.mpr z))), if_neg (lgc_ge.mp c33)]; rfl) | (rw [mxL, mnL, if_pos (Classical.not_not.mp (fun z => c12 (lgc_le.mpr z))), if_pos (Classical.not_not.mp (fun z => c33 (lgc_ge.mpr z)))]; rfl)
end M10
