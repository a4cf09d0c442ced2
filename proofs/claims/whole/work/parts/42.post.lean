/-! Expressions in the order of their nodes: how one whole expression falls into its parts, in one way only. -/
theorem shE : ∀ (e : EX) (j k : Nat), wfE e j → wfE e (k + j) ∧ dpE e (k + j) = k + dpE e j
  | [], _, _, _ => ⟨trivial, rfl⟩
  | on :: e, j, k, h => by
    have h2 : needM on.1 ≤ j := h.2.1
    have ih := shE e (j - needM on.1 + 1) k h.2.2.2
    have e1 : k + j - needM on.1 + 1 = k + (j - needM on.1 + 1) := by omega
    refine ⟨⟨h.1, by omega, h.2.2.1, ?_⟩, ?_⟩
    · rw [e1]; exact ih.1
    · show dpE e (k + j - needM on.1 + 1) = k + dpE e (j - needM on.1 + 1)
      rw [e1]; exact ih.2
theorem lastE {e : EX} (h : e ≠ []) : ∃ q on, e = q ++ [on] := ⟨e.dropLast, e.getLast h, (List.dropLast_concat_getLast h).symm⟩
theorem tree_snoc {q : EX} {on : Nat × Int32} (hw : wfE (q ++ [on]) 0) : wfE q 0 ∧ on.1 ≤ 12 ∧ needM on.1 ≤ dpE q 0 ∧ (on.1 = 12 → ∃ w : Nat, w < 2147483648 ∧ on.2 = nI w) ∧ dpE (q ++ [on]) 0 = dpE q 0 - needM on.1 + 1 := by
  rw [wfE_app] at hw
  exact ⟨hw.1, hw.2.1, hw.2.2.1, hw.2.2.2.1, by rw [dpE_app]; rfl⟩
/-- the last whole expression of a row of them -/
theorem peelE : ∀ (f : Nat) (p : EX) (k : Nat), p.length ≤ f → wfE p 0 → dpE p 0 = k + 1 → ∃ p1 p2, p = p1 ++ p2 ∧ wfE p1 0 ∧ dpE p1 0 = k ∧ TreeE p2
  | 0, p, k, hl, hw, hd => by
    have : p = [] := List.eq_nil_of_length_eq_zero (by omega)
    subst this
    cases hd
  | f + 1, p, k, hl, hw, hd => by
    have hne : p ≠ [] := fun z => by rw [z] at hd; cases hd
    obtain ⟨q, on, rfl⟩ := lastE hne
    obtain ⟨h1, h2, h3, h4, h5⟩ := tree_snoc hw
    have hq : q.length ≤ f := by simp at hl; omega
    have hn2 := needM_le on.1
    have hm : dpE q 0 = k + needM on.1 := by omega
    have tail : ∀ p2 : EX, wfE p2 0 → dpE p2 0 = needM on.1 → TreeE (p2 ++ [on]) := fun p2 w2 d2 => by
      refine ⟨(wfE_app p2 [on] 0).mpr ⟨w2, h2, by omega, h4, trivial⟩, ?_⟩
      rw [dpE_app, d2]
      show needM on.1 - needM on.1 + 1 = 1
      omega
    rcases (show needM on.1 = 0 ∨ needM on.1 = 1 ∨ needM on.1 = 2 by omega) with hz | hz | hz
    · exact ⟨q, [on], rfl, h1, by omega, tail [] trivial (by rw [hz]; rfl)⟩
    · obtain ⟨p1, p2, e, w1, d1, t2⟩ := peelE f q k hq h1 (by omega)
      exact ⟨p1, p2 ++ [on], by rw [e, List.append_assoc], w1, d1, tail p2 t2.1 (by rw [t2.2, hz])⟩
    · obtain ⟨p1, p2, e, w1, d1, t2⟩ := peelE f q (k + 1) hq h1 (by omega)
      obtain ⟨p3, p4, e', w3, d3, t4⟩ := peelE f p1 k (by rw [e] at hq; simp at hq; omega) w1 d1
      have w42 : wfE (p4 ++ p2) 0 := (wfE_app p4 p2 0).mpr ⟨t4.1, by rw [t4.2]; exact (shE p2 0 1 t2.1).1⟩
      have d42 : dpE (p4 ++ p2) 0 = 2 := by
        rw [dpE_app, t4.2, (show dpE p2 1 = 1 + dpE p2 0 from (shE p2 0 1 t2.1).2), t2.2]
      exact ⟨p3, p4 ++ p2 ++ [on], by rw [e, e']; simp, w3, d3, tail (p4 ++ p2) w42 (by rw [d42, hz])⟩
theorem tree_cases {e : EX} (h : TreeE e) : ∃ q on, e = q ++ [on] ∧ on.1 ≤ 12 ∧ (on.1 = 12 → ∃ w : Nat, w < 2147483648 ∧ on.2 = nI w) ∧ ((needM on.1 = 0 ∧ q = []) ∨ (needM on.1 = 1 ∧ TreeE q) ∨ (needM on.1 = 2 ∧ ∃ a b, q = a ++ b ∧ TreeE a ∧ TreeE b)) := by
  obtain ⟨q, on, rfl⟩ := lastE (tree_ne h)
  obtain ⟨h1, h2, h3, h4, h5⟩ := tree_snoc h.1
  have hd := h.2
  have hn2 := needM_le on.1
  have hm : dpE q 0 = needM on.1 := by omega
  refine ⟨q, on, rfl, h2, h4, ?_⟩
  rcases (show needM on.1 = 0 ∨ needM on.1 = 1 ∨ needM on.1 = 2 by omega) with hz | hz | hz
  · refine Or.inl ⟨hz, ?_⟩
    cases q with
    | nil => rfl
    | cons a q => exact absurd (dpE_pos (a :: q) 0 (by simp)) (by omega)
  · exact Or.inr (Or.inl ⟨hz, h1, by omega⟩)
  · obtain ⟨p1, p2, e, w1, d1, t2⟩ := peelE q.length q 1 (Nat.le_refl _) h1 (by omega)
    exact Or.inr (Or.inr ⟨hz, p1, p2, e, ⟨w1, d1⟩, t2⟩)
theorem tree_uniq {a b c e : EX} (hb : TreeE b) (he : TreeE e) (h : a ++ b = c ++ e) : a = c ∧ b = e := by
  have key : ∀ {b e x : EX}, TreeE b → TreeE e → e = x ++ b → x = [] := by
    intro b e x hb he hx
    cases x with
    | nil => rfl
    | cons y x =>
      exfalso
      have hw := he.1
      have hd := he.2
      rw [hx] at hw hd
      rw [wfE_app] at hw
      rw [dpE_app] at hd
      have h1 := (shE b 0 (dpE (y :: x) 0) hb.1).2
      rw [Nat.add_zero] at h1
      rw [h1, hb.2] at hd
      have := dpE_pos (y :: x) 0 (by simp)
      omega
  rcases List.append_eq_append_iff.mp h with ⟨x, h1, h2⟩ | ⟨x, h1, h2⟩
  · have := key he hb h2
    subst this
    exact ⟨by rw [h1]; simp, by rw [h2]; simp⟩
  · have := key hb he h2
    subst this
    exact ⟨by rw [h1]; simp, by rw [h2]; simp⟩
theorem tree_join2 {a b : EX} {on : Nat × Int32} (ha : TreeE a) (hb : TreeE b) (h12 : on.1 ≤ 12) (hn : needM on.1 = 2) (h4 : on.1 = 12 → ∃ w : Nat, w < 2147483648 ∧ on.2 = nI w) : TreeE (a ++ b ++ [on]) := by
  have w : wfE (a ++ b) 0 := (wfE_app a b 0).mpr ⟨ha.1, by rw [ha.2]; exact (shE b 0 1 hb.1).1⟩
  have dd : dpE (a ++ b) 0 = 2 := by rw [dpE_app, ha.2, (show dpE b 1 = 1 + dpE b 0 from (shE b 0 1 hb.1).2), hb.2]
  refine ⟨(wfE_app (a ++ b) [on] 0).mpr ⟨w, h12, by rw [dd, hn]; exact Nat.le_refl 2, h4, trivial⟩, ?_⟩
  rw [dpE_app, dd]
  show 2 - needM on.1 + 1 = 1
  omega
theorem tree_join1 {a : EX} {on : Nat × Int32} (ha : TreeE a) (h12 : on.1 ≤ 12) (hn : needM on.1 = 1) (h4 : on.1 = 12 → ∃ w : Nat, w < 2147483648 ∧ on.2 = nI w) : TreeE (a ++ [on]) := by
  refine ⟨(wfE_app a [on] 0).mpr ⟨ha.1, h12, by rw [ha.2, hn]; exact Nat.le_refl 1, h4, trivial⟩, ?_⟩
  rw [dpE_app, ha.2]
  show 1 - needM on.1 + 1 = 1
  omega
theorem tree_join0 {on : Nat × Int32} (h12 : on.1 ≤ 12) (hn : needM on.1 = 0) (h4 : on.1 = 12 → ∃ w : Nat, w < 2147483648 ∧ on.2 = nI w) : TreeE [on] := by
  refine ⟨⟨h12, by omega, h4, trivial⟩, ?_⟩
  show 0 - needM on.1 + 1 = 1
  omega
