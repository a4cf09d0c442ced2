section M9
variable {X : CX} {d : Nat} {K : Nat → Nat} {I : Nat → Nat → Int32} {J : Nat → Nat → Int64} {R : Nat → Nat → Option Nat} {A : Nat → Nat → Int32} {B : Nat → Nat → Option Nat} {Ln : Nat → Nat} {n sl : Nat}
/-- an expression in the order of its nodes, operands first: operation and number -/
abbrev EX : Type := List (Nat × Int32)
def needM (m : Nat) : Nat := if m < 4 ∨ m = 12 then 0 else if m = 11 then 1 else 2
def stepE (r : Nat → Int32) (m : Nat) (v : Int32) (st : List Int32) : List Int32 :=
  if m < 3 then r m :: st else if m = 3 then v :: st else if m = 12 then startI (r 2).toNatClampNeg v.toNatClampNeg :: st
  else if m = 11 then (1 - st.headD 0) :: st.tail else twoI (nI m) (st.tail.headD 0) (st.headD 0) :: st.tail.tail
def evE (r : Nat → Int32) : EX → List Int32 → List Int32
  | [], st => st
  | on :: e, st => evE r e (stepE r on.1 on.2 st)
/-- operations are 0 .. 12, what they need is there, names are names -/
def wfE : EX → Nat → Prop
  | [], _ => True
  | on :: e, k => on.1 ≤ 12 ∧ needM on.1 ≤ k ∧ (on.1 = 12 → ∃ w : Nat, w < 2147483648 ∧ on.2 = nI w) ∧ wfE e (k - needM on.1 + 1)
/-- how many values stand behind it -/
def dpE : EX → Nat → Nat
  | [], k => k
  | on :: e, k => dpE e (k - needM on.1 + 1)
/-- the expression lies in place x of the pile or the indexes -/
def ExA (A : Nat → Nat → Int32) (x : Nat) (ex : EX) : Prop := A 12 x = nI ex.length ∧ ex.length ≤ 15 ∧ ∀ k on, ex[k]? = some on → A 13 (15 * x + k) = nI on.1 ∧ A 14 (15 * x + k) = on.2
/-- the stack lies in the reference's 'numbers' -/
def StkA (A : Nat → Nat → Int32) (st : List Int32) : Prop := ∀ j v, st.reverse[j]? = some v → A 30 j = v
theorem StkA.push {A : Nat → Nat → Int32} {st : List Int32} (h : StkA A st) (v : Int32) : StkA (u2 A 30 st.length v) (v :: st) := by
  intro j z hj
  rw [List.reverse_cons] at hj
  by_cases hl : j < st.length
  · rw [List.getElem?_append_left (by rw [List.length_reverse]; exact hl)] at hj
    rw [u2_ne2 (by omega)]
    exact h j z hj
  · rw [List.getElem?_append_right (by rw [List.length_reverse]; omega), List.length_reverse] at hj
    have : j - st.length = 0 := by
      have := (List.getElem?_eq_some_iff.mp hj).1
      simp at this
      omega
    rw [this] at hj
    have e : j = st.length := by omega
    subst e
    simp at hj
    subst hj
    exact u2_self
theorem StkA.pop {A : Nat → Nat → Int32} {st : List Int32} {x : Int32} (h : StkA A (x :: st)) : StkA A st := by
  intro j z hj
  have hl : j < st.reverse.length := (List.getElem?_eq_some_iff.mp hj).1
  exact h j z (by rw [List.reverse_cons, List.getElem?_append_left hl]; exact hj)
theorem StkA.top {A : Nat → Nat → Int32} {st : List Int32} {x : Int32} (h : StkA A (x :: st)) : A 30 st.length = x :=
  h st.length x (by rw [List.reverse_cons, List.getElem?_append_right (by rw [List.length_reverse]; omega), List.length_reverse, Nat.sub_self]; rfl)
theorem exA_at {A : Nat → Nat → Int32} {x k : Nat} {ex rs : EX} {on : Nat × Int32} (h : ExA A x ex) (hd : ex.drop k = on :: rs) : A 13 (15 * x + k) = nI on.1 ∧ A 14 (15 * x + k) = on.2 ∧ ex.drop (k + 1) = rs ∧ k < ex.length := by
  have hk : ex[k]? = some on := by
    have := congrArg (fun l => l[0]?) hd
    simpa [List.getElem?_drop] using this
  have hl := (List.getElem?_eq_some_iff.mp hk).1
  refine ⟨(h.2.2 k on hk).1, (h.2.2 k on hk).2, ?_, hl⟩
  have := congrArg List.tail hd
  simpa [List.tail_drop] using this
theorem startI_01 (a b : Nat) : startI a b = 0 ∨ startI a b = 1 := by
  unfold startI
  split
  · exact Or.inr rfl
  · exact Or.inl rfl
set_option maxRecDepth 100000 in
set_option maxHeartbeats 4000000 in
theorem lp_value {Q : Option LV → GH → Prop} (hM : MFix K R Ln) {x : Nat} {ex : EX} (hx : x < 11) (hE : ExA A x ex) {nm : Nat} (hnm : A 29 2 = nI nm) (hnb : nm < 2147483648) : ∀ (rs : EX) (k : Nat) (st : List Int32) (A' : Nat → Nat → Int32) (o : Option LV), (∀ i, i ≠ 30 → A' i = A i) → StkA A' st → ex.drop k = rs → wfE rs st.length → st.length ≤ k → k ≤ ex.length → (∀ A'', (∀ i, i ≠ 30 → A'' i = A i) → Q (some (iV ((evE (A 29) rs st).headD 0))) (K, I, J, R, A'', B, Ln, n, sl)) → dpE rs st.length = 1 → Ev X mX9_value (d + 1) 7 [some (rV (some 11)), some (iV (nI x)), some (iV (nI (st.length))), some (iV (nI (15 * x + k))), o] [] (K, I, J, R, A', B, Ln, n, sl) Q := by
  intro rs
  have hL := hE.2.1
  induction rs with
  | nil =>
    intro k st A' o hA hs hd hw hk hkx0 hq hdp
    have hkx : ex.length ≤ k := by
      have := congrArg List.length hd
      simp at this
      omega
    obtain ⟨v, rfl⟩ : ∃ v, st = [v] := by
      have h1 : st.length = 1 := hdp
      cases st with
      | nil => cases h1
      | cons v st => cases st with
        | nil => exact ⟨v, rfl⟩
        | cons z st => simp at h1
    have h30 : A' 30 0 = v := hs.top
    refine ev_iload_n dX9_value_7 rfl ?_
    refine ev_bipushN 15 dX9_value_8 (by decide) ?_
    refine ev_iload_n dX9_value_10 rfl ?_
    refine ev_imulN dX9_value_11 ?_
    refine ev_aload_n dX9_value_12 rfl ?_
    refine ev_getR dX9_value_13 fX9_7 hM.m hM.R_nodes ?_
    refine ev_iload_n dX9_value_16 rfl ?_
    refine ev_ialdv dX9_value_17 hM.K_nodes hM.L_nodes (by decide) (by omega) (((congrFun (hA 12 (by decide)) _).trans hE.1)) ?_
    refine ev_iaddN dX9_value_18 ?_
    refine ev_icmp_geN 173 dX9_value_19 (by decide) (by omega) (by omega) (fun c19 => ?_) (fun c19 => absurd c19 (by omega))
    refine ev_aload_n dX9_value_173 rfl ?_
    refine ev_getR dX9_value_174 fX9_65 hM.m hM.R_numbers ?_
    refine ev_iconstN 0 dX9_value_177 (by decide) ?_
    refine ev_ialdv dX9_value_178 hM.K_numbers hM.L_numbers (by decide) (by omega) h30 ?_
    refine ev_ireturn dX9_value_179 rfl ?_
    exact hq A' hA
  | cons on rs ih =>
    intro k st A' o hA hs hd hw hk hkx0 hq hdp
    obtain ⟨h13, h14, hd', hkl⟩ := exA_at hE hd
    obtain ⟨m, v⟩ := on
    simp only [wfE] at hw
    dsimp only at h13 h14
    have hm12 : m ≤ 12 := hw.1
    simp only [dpE] at hdp
    by_cases h3 : m < 3
    · refine ev_iload_n dX9_value_7 rfl ?_
      refine ev_bipushN 15 dX9_value_8 (by decide) ?_
      refine ev_iload_n dX9_value_10 rfl ?_
      refine ev_imulN dX9_value_11 ?_
      refine ev_aload_n dX9_value_12 rfl ?_
      refine ev_getR dX9_value_13 fX9_7 hM.m hM.R_nodes ?_
      refine ev_iload_n dX9_value_16 rfl ?_
      refine ev_ialdv dX9_value_17 hM.K_nodes hM.L_nodes (by decide) (by omega) (((congrFun (hA 12 (by decide)) _).trans hE.1)) ?_
      refine ev_iaddN dX9_value_18 ?_
      refine ev_icmp_geN 173 dX9_value_19 (by decide) (by omega) (by omega) (fun c19 => absurd c19 (by omega)) (fun c19 => ?_)
      refine ev_aload_n dX9_value_22 rfl ?_
      refine ev_getR dX9_value_23 fX9_13 hM.m hM.R_op ?_
      refine ev_iload_n dX9_value_26 rfl ?_
      refine ev_ialdv dX9_value_27 hM.K_op hM.L_op (by decide) (by omega) (((congrFun (hA 13 (by decide)) _).trans h13)) ?_
      refine ev_istore _ dX9_value_28 (by decide) rfl ?_
      refine ev_iload dX9_value_30 rfl ?_
      refine ev_iconstN 4 dX9_value_32 (by decide) ?_
      refine ev_icmp_ltN 43 dX9_value_33 (by decide) (by omega) (by omega) (fun c33 => ?_) (fun c33 => absurd c33 (by omega))
      refine ev_aload_n dX9_value_43 rfl ?_
      refine ev_getR dX9_value_44 fX9_65 hM.m hM.R_numbers ?_
      refine ev_iload_n dX9_value_47 rfl ?_
      refine ev_iload dX9_value_48 rfl ?_
      refine ev_iconstN 3 dX9_value_50 (by decide) ?_
      refine ev_icmp_geN 64 dX9_value_51 (by decide) (by omega) (by omega) (fun c51 => absurd c51 (by omega)) (fun c51 => ?_)
      refine ev_aload_n dX9_value_54 rfl ?_
      refine ev_getR dX9_value_55 fX9_62 hM.m hM.R_row ?_
      refine ev_iload dX9_value_58 rfl ?_
      refine ev_ialdv dX9_value_60 hM.K_row hM.L_row (by decide) (by omega) (congrFun (hA 29 (by decide)) _) ?_
      refine ev_goto 102 dX9_value_61 (by decide) ?_
      refine ev_iast dX9_value_102 hM.K_numbers hM.L_numbers (by decide) (by omega) ?_
      refine ev_iincN (b := 1) _ dX9_value_103 rfl (by decide) (by decide) rfl ?_
      refine ev_goto 167 dX9_value_106 (by decide) ?_
      have hq2 : ∀ A'', (∀ i, i ≠ 30 → A'' i = A i) → Q (some (iV ((evE (A 29) rs (A 29 m :: st)).headD 0))) (K, I, J, R, A'', B, Ln, n, sl) := fun A'' h => by
        have := hq A'' h
        rw [evE] at this
        simpa [stepE, h3, show m < 4 by omega] using this
      have hw2 : wfE rs (A 29 m :: st).length := by
        have := hw.2.2.2
        simpa [needM, h3, show m < 4 by omega] using this
      have hdp2 : dpE rs (A 29 m :: st).length = 1 := by
        have := hdp
        simpa [needM, h3, show m < 4 by omega] using this
      refine ev_iincN (b := 1) _ dX9_value_167 rfl (by decide) (by decide) rfl ?_
      refine ev_goto 7 dX9_value_170 (by decide) ?_
      exact ih (k + 1) (A 29 m :: st) _ _ (fun i hi => (u2_row' hi).trans (hA i hi)) (hs.push _) hd' hw2 (by simp at hk ⊢; omega) (by omega) hq2 hdp2
    · by_cases h33 : m = 3
      · subst h33
        refine ev_iload_n dX9_value_7 rfl ?_
        refine ev_bipushN 15 dX9_value_8 (by decide) ?_
        refine ev_iload_n dX9_value_10 rfl ?_
        refine ev_imulN dX9_value_11 ?_
        refine ev_aload_n dX9_value_12 rfl ?_
        refine ev_getR dX9_value_13 fX9_7 hM.m hM.R_nodes ?_
        refine ev_iload_n dX9_value_16 rfl ?_
        refine ev_ialdv dX9_value_17 hM.K_nodes hM.L_nodes (by decide) (by omega) (((congrFun (hA 12 (by decide)) _).trans hE.1)) ?_
        refine ev_iaddN dX9_value_18 ?_
        refine ev_icmp_geN 173 dX9_value_19 (by decide) (by omega) (by omega) (fun c19 => absurd c19 (by omega)) (fun c19 => ?_)
        refine ev_aload_n dX9_value_22 rfl ?_
        refine ev_getR dX9_value_23 fX9_13 hM.m hM.R_op ?_
        refine ev_iload_n dX9_value_26 rfl ?_
        refine ev_ialdv dX9_value_27 hM.K_op hM.L_op (by decide) (by omega) (((congrFun (hA 13 (by decide)) _).trans h13)) ?_
        refine ev_istore _ dX9_value_28 (by decide) rfl ?_
        refine ev_iload dX9_value_30 rfl ?_
        refine ev_iconstN 4 dX9_value_32 (by decide) ?_
        refine ev_icmp_ltN 43 dX9_value_33 (by decide) (by omega) (by omega) (fun c33 => ?_) (fun c33 => absurd c33 (by decide))
        refine ev_aload_n dX9_value_43 rfl ?_
        refine ev_getR dX9_value_44 fX9_65 hM.m hM.R_numbers ?_
        refine ev_iload_n dX9_value_47 rfl ?_
        refine ev_iload dX9_value_48 rfl ?_
        refine ev_iconstN 3 dX9_value_50 (by decide) ?_
        refine ev_icmp_geN 64 dX9_value_51 (by decide) (by omega) (by omega) (fun c51 => ?_) (fun c51 => absurd c51 (by decide))
        refine ev_iload dX9_value_64 rfl ?_
        refine ev_iconstN 3 dX9_value_66 (by decide) ?_
        refine ev_icmp_neN 79 dX9_value_67 (by decide) (by omega) (by omega) (fun c67 => absurd c67 (by decide)) (fun c67 => ?_)
        refine ev_aload_n dX9_value_70 rfl ?_
        refine ev_getR dX9_value_71 fX9_16 hM.m hM.R_with ?_
        refine ev_iload_n dX9_value_74 rfl ?_
        refine ev_ialdv dX9_value_75 hM.K_with hM.L_with (by decide) (by omega) (((congrFun (hA 14 (by decide)) _).trans h14)) ?_
        refine ev_goto 102 dX9_value_76 (by decide) ?_
        refine ev_iast dX9_value_102 hM.K_numbers hM.L_numbers (by decide) (by omega) ?_
        refine ev_iincN (b := 1) _ dX9_value_103 rfl (by decide) (by decide) rfl ?_
        refine ev_goto 167 dX9_value_106 (by decide) ?_
        have hq2 : ∀ A'', (∀ i, i ≠ 30 → A'' i = A i) → Q (some (iV ((evE (A 29) rs (v :: st)).headD 0))) (K, I, J, R, A'', B, Ln, n, sl) := fun A'' h => by
          have := hq A'' h
          rw [evE] at this
          simpa [stepE] using this
        have hw2 : wfE rs (v :: st).length := by
          have := hw.2.2.2
          simpa [needM] using this
        have hdp2 : dpE rs (v :: st).length = 1 := by
          have := hdp
          simpa [needM] using this
        refine ev_iincN (b := 1) _ dX9_value_167 rfl (by decide) (by decide) rfl ?_
        refine ev_goto 7 dX9_value_170 (by decide) ?_
        exact ih (k + 1) (v :: st) _ _ (fun i hi => (u2_row' hi).trans (hA i hi)) (hs.push _) hd' hw2 (by simp at hk ⊢; omega) (by omega) hq2 hdp2
      · by_cases h12 : m = 12
        · subst h12
          obtain ⟨wv, hwv, rfl⟩ := hw.2.2.1 rfl
          refine ev_iload_n dX9_value_7 rfl ?_
          refine ev_bipushN 15 dX9_value_8 (by decide) ?_
          refine ev_iload_n dX9_value_10 rfl ?_
          refine ev_imulN dX9_value_11 ?_
          refine ev_aload_n dX9_value_12 rfl ?_
          refine ev_getR dX9_value_13 fX9_7 hM.m hM.R_nodes ?_
          refine ev_iload_n dX9_value_16 rfl ?_
          refine ev_ialdv dX9_value_17 hM.K_nodes hM.L_nodes (by decide) (by omega) (((congrFun (hA 12 (by decide)) _).trans hE.1)) ?_
          refine ev_iaddN dX9_value_18 ?_
          refine ev_icmp_geN 173 dX9_value_19 (by decide) (by omega) (by omega) (fun c19 => absurd c19 (by omega)) (fun c19 => ?_)
          refine ev_aload_n dX9_value_22 rfl ?_
          refine ev_getR dX9_value_23 fX9_13 hM.m hM.R_op ?_
          refine ev_iload_n dX9_value_26 rfl ?_
          refine ev_ialdv dX9_value_27 hM.K_op hM.L_op (by decide) (by omega) (((congrFun (hA 13 (by decide)) _).trans h13)) ?_
          refine ev_istore _ dX9_value_28 (by decide) rfl ?_
          refine ev_iload dX9_value_30 rfl ?_
          refine ev_iconstN 4 dX9_value_32 (by decide) ?_
          refine ev_icmp_ltN 43 dX9_value_33 (by decide) (by omega) (by omega) (fun c33 => absurd c33 (by decide)) (fun c33 => ?_)
          refine ev_iload dX9_value_36 rfl ?_
          refine ev_bipushN 12 dX9_value_38 (by decide) ?_
          refine ev_icmp_neN 109 dX9_value_40 (by decide) (by omega) (by omega) (fun c40 => absurd c40 (by decide)) (fun c40 => ?_)
          refine ev_aload_n dX9_value_43 rfl ?_
          refine ev_getR dX9_value_44 fX9_65 hM.m hM.R_numbers ?_
          refine ev_iload_n dX9_value_47 rfl ?_
          refine ev_iload dX9_value_48 rfl ?_
          refine ev_iconstN 3 dX9_value_50 (by decide) ?_
          refine ev_icmp_geN 64 dX9_value_51 (by decide) (by omega) (by omega) (fun c51 => ?_) (fun c51 => absurd c51 (by decide))
          refine ev_iload dX9_value_64 rfl ?_
          refine ev_iconstN 3 dX9_value_66 (by decide) ?_
          refine ev_icmp_neN 79 dX9_value_67 (by decide) (by omega) (by omega) (fun c67 => ?_) (fun c67 => absurd c67 (by decide))
          refine ev_aload_n dX9_value_79 rfl ?_
          refine ev_getR dX9_value_80 fX9_62 hM.m hM.R_row ?_
          refine ev_iconstN 2 dX9_value_83 (by decide) ?_
          refine ev_ialdv dX9_value_84 hM.K_row hM.L_row (by decide) (by omega) ((congrFun (hA 29 (by decide)) _).trans hnm) ?_
          refine ev_aload_n dX9_value_85 rfl ?_
          refine ev_getR dX9_value_86 fX9_16 hM.m hM.R_with ?_
          refine ev_iload_n dX9_value_89 rfl ?_
          refine ev_ialdv dX9_value_90 hM.K_with hM.L_with (by decide) (by omega) ((congrFun (hA 14 (by decide)) _).trans h14) ?_
          refine ev_callS dX9_value_91 okX9_starts stX9_starts mlX9_92 [iV _, iV _] rfl rfl (Nat.le_of_ble_eq_true rfl) (Nat.le_of_ble_eq_true rfl) (sp_starts hnb hwv) (fun r_ G_ h_ => ?_)
          obtain ⟨rfl, rfl⟩ := h_
          try dsimp only [Option.toList, List.cons_append, List.nil_append]
          refine ev_if_eq 101 dX9_value_94 (by decide) (fun c94 => ?_) (fun c94 => ?_)
          · refine ev_iconstN 0 dX9_value_101 (by decide) ?_
            refine ev_iast dX9_value_102 hM.K_numbers hM.L_numbers (by decide) (by omega) ?_
            refine ev_iincN (b := 1) _ dX9_value_103 rfl (by decide) (by decide) rfl ?_
            refine ev_goto 167 dX9_value_106 (by decide) ?_
            have hst : startI nm wv = 0 := c94
            have hq2 : ∀ A'', (∀ i, i ≠ 30 → A'' i = A i) → Q (some (iV ((evE (A 29) rs (0 :: st)).headD 0))) (K, I, J, R, A'', B, Ln, n, sl) := fun A'' h => by
              have := hq A'' h
              rw [evE] at this
              simpa [stepE, hnm, nI_clamp hnb, nI_clamp hwv, hst] using this
            have hw2 : wfE rs (0 :: st).length := by
              have := hw.2.2.2
              simpa [needM, hnm, nI_clamp hnb, nI_clamp hwv, hst] using this
            have hdp2 : dpE rs (0 :: st).length = 1 := by
              have := hdp
              simpa [needM, hnm, nI_clamp hnb, nI_clamp hwv, hst] using this
            refine ev_iincN (b := 1) _ dX9_value_167 rfl (by decide) (by decide) rfl ?_
            refine ev_goto 7 dX9_value_170 (by decide) ?_
            exact ih (k + 1) (0 :: st) _ _ (fun i hi => (u2_row' hi).trans (hA i hi)) (hs.push _) hd' hw2 (by simp at hk ⊢; omega) (by omega) hq2 hdp2
          · refine ev_iconstN 1 dX9_value_97 (by decide) ?_
            refine ev_goto 102 dX9_value_98 (by decide) ?_
            refine ev_iast dX9_value_102 hM.K_numbers hM.L_numbers (by decide) (by omega) ?_
            refine ev_iincN (b := 1) _ dX9_value_103 rfl (by decide) (by decide) rfl ?_
            refine ev_goto 167 dX9_value_106 (by decide) ?_
            have hst : startI nm wv = 1 := by rcases startI_01 nm wv with h | h; exact absurd h c94; exact h
            have hq2 : ∀ A'', (∀ i, i ≠ 30 → A'' i = A i) → Q (some (iV ((evE (A 29) rs (1 :: st)).headD 0))) (K, I, J, R, A'', B, Ln, n, sl) := fun A'' h => by
              have := hq A'' h
              rw [evE] at this
              simpa [stepE, hnm, nI_clamp hnb, nI_clamp hwv, hst] using this
            have hw2 : wfE rs (1 :: st).length := by
              have := hw.2.2.2
              simpa [needM, hnm, nI_clamp hnb, nI_clamp hwv, hst] using this
            have hdp2 : dpE rs (1 :: st).length = 1 := by
              have := hdp
              simpa [needM, hnm, nI_clamp hnb, nI_clamp hwv, hst] using this
            refine ev_iincN (b := 1) _ dX9_value_167 rfl (by decide) (by decide) rfl ?_
            refine ev_goto 7 dX9_value_170 (by decide) ?_
            exact ih (k + 1) (1 :: st) _ _ (fun i hi => (u2_row' hi).trans (hA i hi)) (hs.push _) hd' hw2 (by simp at hk ⊢; omega) (by omega) hq2 hdp2
        · by_cases h11 : m = 11
          · subst h11
            cases st with
            | nil => exact absurd hw.2.1 (by decide)
            | cons y st =>
              simp only [List.length_cons] at hk hw hdp ⊢
              refine ev_iload_n dX9_value_7 rfl ?_
              refine ev_bipushN 15 dX9_value_8 (by decide) ?_
              refine ev_iload_n dX9_value_10 rfl ?_
              refine ev_imulN dX9_value_11 ?_
              refine ev_aload_n dX9_value_12 rfl ?_
              refine ev_getR dX9_value_13 fX9_7 hM.m hM.R_nodes ?_
              refine ev_iload_n dX9_value_16 rfl ?_
              refine ev_ialdv dX9_value_17 hM.K_nodes hM.L_nodes (by decide) (by omega) (((congrFun (hA 12 (by decide)) _).trans hE.1)) ?_
              refine ev_iaddN dX9_value_18 ?_
              refine ev_icmp_geN 173 dX9_value_19 (by decide) (by omega) (by omega) (fun c19 => absurd c19 (by omega)) (fun c19 => ?_)
              refine ev_aload_n dX9_value_22 rfl ?_
              refine ev_getR dX9_value_23 fX9_13 hM.m hM.R_op ?_
              refine ev_iload_n dX9_value_26 rfl ?_
              refine ev_ialdv dX9_value_27 hM.K_op hM.L_op (by decide) (by omega) (((congrFun (hA 13 (by decide)) _).trans h13)) ?_
              refine ev_istore _ dX9_value_28 (by decide) rfl ?_
              refine ev_iload dX9_value_30 rfl ?_
              refine ev_iconstN 4 dX9_value_32 (by decide) ?_
              refine ev_icmp_ltN 43 dX9_value_33 (by decide) (by omega) (by omega) (fun c33 => absurd c33 (by decide)) (fun c33 => ?_)
              refine ev_iload dX9_value_36 rfl ?_
              refine ev_bipushN 12 dX9_value_38 (by decide) ?_
              refine ev_icmp_neN 109 dX9_value_40 (by decide) (by omega) (by omega) (fun c40 => ?_) (fun c40 => absurd c40 (by decide))
              refine ev_iload dX9_value_109 rfl ?_
              refine ev_bipushN 11 dX9_value_111 (by decide) ?_
              refine ev_icmp_neN 137 dX9_value_113 (by decide) (by omega) (by omega) (fun c113 => absurd c113 (by decide)) (fun c113 => ?_)
              refine ev_aload_n dX9_value_116 rfl ?_
              refine ev_getR dX9_value_117 fX9_65 hM.m hM.R_numbers ?_
              refine ev_iload_n dX9_value_120 rfl ?_
              refine ev_iconstN 1 dX9_value_121 (by decide) ?_
              refine ev_isubN dX9_value_122 (by omega) ?_
              refine ev_iconstN 1 dX9_value_123 (by decide) ?_
              refine ev_aload_n dX9_value_124 rfl ?_
              refine ev_getR dX9_value_125 fX9_65 hM.m hM.R_numbers ?_
              refine ev_iload_n dX9_value_128 rfl ?_
              refine ev_iconstN 1 dX9_value_129 (by decide) ?_
              refine ev_isubN dX9_value_130 (by omega) ?_
              refine ev_ialdv dX9_value_131 hM.K_numbers hM.L_numbers (by decide) (by omega) hs.top ?_
              refine ev_isub (x := 1) dX9_value_132 ?_
              refine ev_iast dX9_value_133 hM.K_numbers hM.L_numbers (by decide) (by omega) ?_
              refine ev_goto 167 dX9_value_134 (by decide) ?_
              have hq2 : ∀ A'', (∀ i, i ≠ 30 → A'' i = A i) → Q (some (iV ((evE (A 29) rs ((1 - y) :: st)).headD 0))) (K, I, J, R, A'', B, Ln, n, sl) := fun A'' h => by
                have := hq A'' h
                rw [evE] at this
                simpa [stepE] using this
              have hw2 : wfE rs ((1 - y) :: st).length := by
                have := hw.2.2.2
                simpa [needM] using this
              have hdp2 : dpE rs ((1 - y) :: st).length = 1 := by
                have := hdp
                simpa [needM] using this
              refine ev_iincN (b := 1) _ dX9_value_167 rfl (by decide) (by decide) rfl ?_
              refine ev_goto 7 dX9_value_170 (by decide) ?_
              exact ih (k + 1) ((1 - y) :: st) _ _ (fun i hi => (u2_row' hi).trans (hA i hi)) (hs.pop.push _) hd' hw2 (by simp at hk ⊢; omega) (by omega) hq2 hdp2
          · cases st with
            | nil => exact absurd hw.2.1 (by simp [needM, h12, h11, show ¬ m < 4 by omega])
            | cons y st =>
              cases st with
              | nil => exact absurd hw.2.1 (by simp [needM, h12, h11, show ¬ m < 4 by omega])
              | cons z st =>
                simp only [List.length_cons] at hk hw hdp ⊢
                refine ev_iload_n dX9_value_7 rfl ?_
                refine ev_bipushN 15 dX9_value_8 (by decide) ?_
                refine ev_iload_n dX9_value_10 rfl ?_
                refine ev_imulN dX9_value_11 ?_
                refine ev_aload_n dX9_value_12 rfl ?_
                refine ev_getR dX9_value_13 fX9_7 hM.m hM.R_nodes ?_
                refine ev_iload_n dX9_value_16 rfl ?_
                refine ev_ialdv dX9_value_17 hM.K_nodes hM.L_nodes (by decide) (by omega) (((congrFun (hA 12 (by decide)) _).trans hE.1)) ?_
                refine ev_iaddN dX9_value_18 ?_
                refine ev_icmp_geN 173 dX9_value_19 (by decide) (by omega) (by omega) (fun c19 => absurd c19 (by omega)) (fun c19 => ?_)
                refine ev_aload_n dX9_value_22 rfl ?_
                refine ev_getR dX9_value_23 fX9_13 hM.m hM.R_op ?_
                refine ev_iload_n dX9_value_26 rfl ?_
                refine ev_ialdv dX9_value_27 hM.K_op hM.L_op (by decide) (by omega) (((congrFun (hA 13 (by decide)) _).trans h13)) ?_
                refine ev_istore _ dX9_value_28 (by decide) rfl ?_
                refine ev_iload dX9_value_30 rfl ?_
                refine ev_iconstN 4 dX9_value_32 (by decide) ?_
                refine ev_icmp_ltN 43 dX9_value_33 (by decide) (by omega) (by omega) (fun c33 => absurd c33 (by omega)) (fun c33 => ?_)
                refine ev_iload dX9_value_36 rfl ?_
                refine ev_bipushN 12 dX9_value_38 (by decide) ?_
                refine ev_icmp_neN 109 dX9_value_40 (by decide) (by omega) (by omega) (fun c40 => ?_) (fun c40 => absurd c40 (by omega))
                refine ev_iload dX9_value_109 rfl ?_
                refine ev_bipushN 11 dX9_value_111 (by decide) ?_
                refine ev_icmp_neN 137 dX9_value_113 (by decide) (by omega) (by omega) (fun c113 => ?_) (fun c113 => absurd c113 (by omega))
                refine ev_iincM _ dX9_value_137 rfl (by decide) (by decide) rfl ?_
                refine ev_aload_n dX9_value_140 rfl ?_
                refine ev_getR dX9_value_141 fX9_65 hM.m hM.R_numbers ?_
                refine ev_iload_n dX9_value_144 rfl ?_
                refine ev_iconstN 1 dX9_value_145 (by decide) ?_
                refine ev_isubN dX9_value_146 (by omega) ?_
                refine ev_iload dX9_value_147 rfl ?_
                refine ev_aload_n dX9_value_149 rfl ?_
                refine ev_getR dX9_value_150 fX9_65 hM.m hM.R_numbers ?_
                refine ev_iload_n dX9_value_153 rfl ?_
                refine ev_iconstN 1 dX9_value_154 (by decide) ?_
                refine ev_isubN dX9_value_155 (by omega) ?_
                refine ev_ialdv dX9_value_156 hM.K_numbers hM.L_numbers (by decide) (by omega) hs.pop.top ?_
                refine ev_aload_n dX9_value_157 rfl ?_
                refine ev_getR dX9_value_158 fX9_65 hM.m hM.R_numbers ?_
                refine ev_iload_n dX9_value_161 rfl ?_
                refine ev_ialdv dX9_value_162 hM.K_numbers hM.L_numbers (by decide) (by omega) hs.top ?_
                refine ev_callS dX9_value_163 okX9_two stX9_two mlX9_96 [iV _, iV _, iV _] rfl rfl (Nat.le_of_ble_eq_true rfl) (Nat.le_of_ble_eq_true rfl) (sp_two) (fun r_ G_ h_ => ?_)
                obtain ⟨rfl, rfl⟩ := h_
                try dsimp only [Option.toList, List.cons_append, List.nil_append]
                refine ev_iast dX9_value_166 hM.K_numbers hM.L_numbers (by decide) (by omega) ?_
                have hq2 : ∀ A'', (∀ i, i ≠ 30 → A'' i = A i) → Q (some (iV ((evE (A 29) rs (twoI (nI m) z y :: st)).headD 0))) (K, I, J, R, A'', B, Ln, n, sl) := fun A'' h => by
                  have := hq A'' h
                  rw [evE] at this
                  simpa [stepE, h3, h33, h12, h11, show ¬ m < 4 by omega] using this
                have hw2 : wfE rs (twoI (nI m) z y :: st).length := by
                  have := hw.2.2.2
                  simpa [needM, h3, h33, h12, h11, show ¬ m < 4 by omega] using this
                have hdp2 : dpE rs (twoI (nI m) z y :: st).length = 1 := by
                  have := hdp
                  simpa [needM, h3, h33, h12, h11, show ¬ m < 4 by omega] using this
                refine ev_iincN (b := 1) _ dX9_value_167 rfl (by decide) (by decide) rfl ?_
                refine ev_goto 7 dX9_value_170 (by decide) ?_
                exact ih (k + 1) (twoI (nI m) z y :: st) _ _ (fun i hi => (u2_row' hi).trans (hA i hi)) (hs.pop.pop.push _) hd' hw2 (by simp at hk ⊢; omega) (by omega) hq2 hdp2
set_option maxRecDepth 100000 in
set_option maxHeartbeats 4000000 in
theorem sp_value (hM : MFix K R Ln) {x : Nat} {ex : EX} (hx : x < 11) (hE : ExA A x ex) (hw : wfE ex 0) (hdp : dpE ex 0 = 1) {nm : Nat} (hnm : A 29 2 = nI nm) (hnb : nm < 2147483648) : EvM X mX9_value (d + 1) [rV (some 11), iV (nI x)] (K, I, J, R, A, B, Ln, n, sl) (fun r G' => ∃ A', G' = (K, I, J, R, A', B, Ln, n, sl) ∧ r = some (iV ((evE (A 29) ex []).headD 0)) ∧ ∀ i, i ≠ 30 → A' i = A i) := by
  show Ev X mX9_value (d + 1) 0 [some (rV (some 11)), some (iV (nI x)), none, none, none] [] (K, I, J, R, A, B, Ln, n, sl) _
  refine ev_iconstN 0 dX9_value_0 (by decide) ?_
  refine ev_istore_n _ dX9_value_1 (by decide) rfl ?_
  refine ev_bipushN 15 dX9_value_2 (by decide) ?_
  refine ev_iload_n dX9_value_4 rfl ?_
  refine ev_imulN dX9_value_5 ?_
  refine ev_istore_n _ dX9_value_6 (by decide) rfl ?_
  exact lp_value hM hx hE hnm hnb ex 0 [] A none (fun _ _ => rfl) (fun j v h => by simp at h) rfl hw (Nat.le_refl 0) (Nat.zero_le _) (fun A'' h => ⟨A'', rfl, rfl, h⟩) hdp
end M9
