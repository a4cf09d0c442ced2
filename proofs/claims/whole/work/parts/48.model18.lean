section M18
variable {X : CX} {d : Nat} {K : Nat → Nat} {I : Nat → Nat → Int32} {J : Nat → Nat → Int64} {R : Nat → Nat → Option Nat} {A : Nat → Nat → Int32} {B : Nat → Nat → Option Nat} {Ln : Nat → Nat} {n sl : Nat}
/-- e put into a row that stands in falling order (the last first) -/
def insR (bf : Nat → Nat → Bool) (e : Nat) : List Nat → List Nat
  | [] => [e]
  | y :: r => if bf e y = true then y :: insR bf e r else e :: y :: r
/-- the taken ones of the first e, the last first -/
def srtR (bf : Nat → Nat → Bool) (tk : Nat → Bool) : Nat → List Nat
  | 0 => []
  | e + 1 => if tk e = true then insR bf e (srtR bf tk e) else srtR bf tk e
theorem insR_len {bf : Nat → Nat → Bool} {e : Nat} : ∀ l : List Nat, (insR bf e l).length = l.length + 1
  | [] => rfl
  | y :: r => by
    unfold insR
    split
    · simp [insR_len r]
    · rfl
theorem srtR_len {bf : Nat → Nat → Bool} {tk : Nat → Bool} : ∀ e, (srtR bf tk e).length ≤ e
  | 0 => Nat.le_refl 0
  | e + 1 => by
    have := srtR_len (bf := bf) (tk := tk) e
    unfold srtR
    split
    · rw [insR_len]; omega
    · omega
theorem insR_mem {bf : Nat → Nat → Bool} {e x : Nat} : ∀ {l : List Nat}, x ∈ insR bf e l ↔ x = e ∨ x ∈ l
  | [] => by simp [insR]
  | y :: r => by
    unfold insR
    split
    · rw [List.mem_cons, insR_mem (l := r), List.mem_cons]
      constructor
      · rintro (h | h | h)
        · exact Or.inr (Or.inl h)
        · exact Or.inl h
        · exact Or.inr (Or.inr h)
      · rintro (h | h | h)
        · exact Or.inr (Or.inl h)
        · exact Or.inl h
        · exact Or.inr (Or.inr h)
    · rw [List.mem_cons]
theorem srtR_mem {bf : Nat → Nat → Bool} {tk : Nat → Bool} {x : Nat} : ∀ {e : Nat}, x ∈ srtR bf tk e ↔ x < e ∧ tk x = true
  | 0 => by simp [srtR]
  | e + 1 => by
    unfold srtR
    split
    · next h =>
      rw [insR_mem, srtR_mem]
      constructor
      · rintro (rfl | ⟨h1, h2⟩)
        · exact ⟨Nat.lt_succ_self _, h⟩
        · exact ⟨by omega, h2⟩
      · rintro ⟨h1, h2⟩
        by_cases hx : x = e
        · exact Or.inl hx
        · exact Or.inr ⟨by omega, h2⟩
    · next h =>
      rw [srtR_mem]
      constructor
      · rintro ⟨h1, h2⟩
        exact ⟨by omega, h2⟩
      · rintro ⟨h1, h2⟩
        refine ⟨?_, h2⟩
        by_cases hx : x = e
        · subst hx; exact absurd h2 h
        · omega
/-- 'order' with a hole: r (the last first) below it, s (the last first) above it -/
def OrdH (A : Nat → Nat → Int32) (s r : List Nat) : Prop := (∀ j v, r.reverse[j]? = some v → A 32 j = nI v) ∧ ∀ j v, s.reverse[j]? = some v → A 32 (r.length + 1 + j) = nI v
def OrdA (A : Nat → Nat → Int32) (l : List Nat) : Prop := ∀ j v, l.reverse[j]? = some v → A 32 j = nI v
theorem OrdH.top {A : Nat → Nat → Int32} {s r : List Nat} {y : Nat} (h : OrdH A s (y :: r)) : A 32 r.length = nI y :=
  h.1 r.length y (by rw [List.reverse_cons, List.getElem?_append_right (by rw [List.length_reverse]; omega), List.length_reverse, Nat.sub_self]; rfl)
theorem OrdH.step {A : Nat → Nat → Int32} {s r : List Nat} {y : Nat} (h : OrdH A s (y :: r)) : OrdH (u2 A 32 (r.length + 1) (nI y)) (s ++ [y]) r := by
  refine ⟨fun j v hj => ?_, fun j v hj => ?_⟩
  · have hl : j < r.reverse.length := (List.getElem?_eq_some_iff.mp hj).1
    rw [List.length_reverse] at hl
    rw [u2_ne2 (by omega)]
    exact h.1 j v (by rw [List.reverse_cons, List.getElem?_append_left (by rw [List.length_reverse]; exact hl)]; exact hj)
  · rw [List.reverse_append] at hj
    cases j with
    | zero =>
      simp at hj
      subst hj
      exact u2_self
    | succ j =>
      have hj' : s.reverse[j]? = some v := by simpa using hj
      rw [u2_ne2 (by omega)]
      have := h.2 j v hj'
      rw [List.length_cons] at this
      rw [show r.length + 1 + (j + 1) = r.length + 1 + 1 + j by omega]
      exact this
theorem OrdH.fill {A : Nat → Nat → Int32} {s r : List Nat} {e : Nat} (h : OrdH A s r) : OrdA (u2 A 32 r.length (nI e)) (s ++ e :: r) := by
  intro j v hj
  rw [List.reverse_append, List.reverse_cons, List.append_assoc] at hj
  by_cases h1 : j < r.length
  · rw [List.getElem?_append_left (by rw [List.length_reverse]; exact h1)] at hj
    rw [u2_ne2 (by omega)]
    exact h.1 j v hj
  · rw [List.getElem?_append_right (by rw [List.length_reverse]; omega), List.length_reverse] at hj
    by_cases h2 : j = r.length
    · subst h2
      rw [Nat.sub_self] at hj
      simp at hj
      subst hj
      exact u2_self
    · obtain ⟨t, rfl⟩ : ∃ t, j = r.length + 1 + t := ⟨j - r.length - 1, by omega⟩
      rw [show r.length + 1 + t - r.length = t + 1 by omega] at hj
      have hj' : s.reverse[t]? = some v := by simpa using hj
      rw [u2_ne2 (by omega)]
      exact h.2 t v hj'
/-- how far e goes down: s are passed, r stay below -/
theorem insR_at {bf : Nat → Nat → Bool} {e : Nat} {r : List Nat} (h : ∀ y r', r = y :: r' → bf e y = false) : ∀ s : List Nat, (∀ y ∈ s, bf e y = true) → insR bf e (s ++ r) = s ++ e :: r
  | [], _ => by
    cases r with
    | nil => rfl
    | cons y r =>
      show insR bf e (y :: r) = _
      unfold insR
      rw [if_neg (by rw [h y r rfl]; decide)]
      rfl
  | y :: s, hs => by
    show insR bf e (y :: (s ++ r)) = _
    unfold insR
    rw [if_pos (hs y List.mem_cons_self), insR_at h s (fun z hz => hs z (List.mem_cons_of_mem _ hz))]
    rfl
set_option maxRecDepth 100000 in
set_option maxHeartbeats 4000000 in
theorem lp_ins {Q : Option LV → GH → Prop} (hM : MFix K R Ln) {e : Nat} (hel : e < 520) {l : List Nat} (hll : l.length < 520) (hlt : ∀ y ∈ l, y < 520) (hq : ∀ A1 k, (∀ i, i ≠ 32 → A1 i = A i) → OrdA A1 (insR (bfB (A 16) (A 17) (A 18) (A 19)) e l) → Ev X mX9_sort (d + 2) 76 [some (rV (some 11)), some (iV (nI (e))), some (iV (nI (k)))] [] (K, I, J, R, A1, B, Ln, n, sl) Q) : ∀ (r s : List Nat) (A' : Nat → Nat → Int32), l = s ++ r → (∀ y ∈ s, bfB (A 16) (A 17) (A 18) (A 19) e y = true) → (∀ i, i ≠ 32 → A' i = A i) → OrdH A' s r → Ev X mX9_sort (d + 2) 29 [some (rV (some 11)), some (iV (nI (e))), some (iV (nI (r.length)))] [] (K, I, J, R, A', B, Ln, n, sl) Q := by
  intro r
  induction r with
  | nil =>
    intro s A' hl hs hA ho
    have hk := hq (u2 A' 32 0 (nI e)) 0 (fun i hi => (u2_row' hi).trans (hA i hi)) (by rw [hl, insR_at (fun y r' z => by cases z) s hs]; exact ho.fill)
    show Ev X mX9_sort (d + 2) 29 [some (rV (some 11)), some (iV (nI (e))), some (iV (nI (0)))] [] (K, I, J, R, A', B, Ln, n, sl) Q
    refine ev_iload_n dX9_sort_29 rfl ?_
    refine ev_if_leN 69 dX9_sort_30 (by decide) (by omega) (fun c30 => ?_) (fun c30 => absurd c30 (by decide))
    refine ev_aload_n dX9_sort_69 rfl ?_
    refine ev_getR dX9_sort_70 fX9_75 hM.m hM.R_order ?_
    refine ev_iload_n dX9_sort_73 rfl ?_
    refine ev_iload_n dX9_sort_74 rfl ?_
    refine ev_iast dX9_sort_75 hM.K_order hM.L_order (by decide) (by omega) ?_
    exact hk
  | cons y r ih =>
    intro s A' hl hs hA ho
    have hlen : l.length = s.length + (r.length + 1) := by rw [hl]; simp
    have hy : y < 520 := hlt y (by rw [hl]; simp)
    have htop := ho.top
    have hbf := sp_before (X := X) (d := d) (I := I) (J := J) (A := A') (B := B) (n := n) (sl := sl) (a := e) (b := y) hM hel hy
    rw [hA 16 (by decide), hA 17 (by decide), hA 18 (by decide), hA 19 (by decide)] at hbf
    show Ev X mX9_sort (d + 2) 29 [some (rV (some 11)), some (iV (nI (e))), some (iV (nI (r.length + 1)))] [] (K, I, J, R, A', B, Ln, n, sl) Q
    cases hb : bfB (A 16) (A 17) (A 18) (A 19) e y with
    | false =>
      rw [hb] at hbf
      have hk := hq (u2 A' 32 (r.length + 1) (nI e)) (r.length + 1) (fun i hi => (u2_row' hi).trans (hA i hi)) (by rw [hl, insR_at (fun y' r' z => by cases z; exact hb) s hs]; exact ho.fill)
      refine ev_iload_n dX9_sort_29 rfl ?_
      refine ev_if_leN 69 dX9_sort_30 (by decide) (by omega) (fun c30 => absurd c30 (by omega)) (fun c30 => ?_)
      refine ev_aload_n dX9_sort_33 rfl ?_
      refine ev_iload_n dX9_sort_34 rfl ?_
      refine ev_aload_n dX9_sort_35 rfl ?_
      refine ev_getR dX9_sort_36 fX9_75 hM.m hM.R_order ?_
      refine ev_iload_n dX9_sort_39 rfl ?_
      refine ev_iconstN 1 dX9_sort_40 (by decide) ?_
      refine ev_isubN dX9_sort_41 (by omega) ?_
      refine ev_ialdv dX9_sort_42 hM.K_order hM.L_order (by decide) (by omega) htop ?_
      refine ev_callV dX9_sort_43 okX9_before inX9_before seX9_before mlX9_182 hM.m (by decide) rfl [iV _, iV _] rfl rfl (Nat.le_of_ble_eq_true rfl) (Nat.le_of_ble_eq_true rfl) (hbf) (fun r_ G_ h_ => ?_)
      obtain ⟨rfl, rfl⟩ := h_
      try dsimp only [Option.toList, List.cons_append, List.nil_append]
      refine ev_if_eq 69 dX9_sort_46 (by decide) (fun c46 => ?_) (fun c46 => absurd rfl c46)
      refine ev_aload_n dX9_sort_69 rfl ?_
      refine ev_getR dX9_sort_70 fX9_75 hM.m hM.R_order ?_
      refine ev_iload_n dX9_sort_73 rfl ?_
      refine ev_iload_n dX9_sort_74 rfl ?_
      refine ev_iast dX9_sort_75 hM.K_order hM.L_order (by decide) (by omega) ?_
      exact hk
    | true =>
      rw [hb] at hbf
      refine ev_iload_n dX9_sort_29 rfl ?_
      refine ev_if_leN 69 dX9_sort_30 (by decide) (by omega) (fun c30 => absurd c30 (by omega)) (fun c30 => ?_)
      refine ev_aload_n dX9_sort_33 rfl ?_
      refine ev_iload_n dX9_sort_34 rfl ?_
      refine ev_aload_n dX9_sort_35 rfl ?_
      refine ev_getR dX9_sort_36 fX9_75 hM.m hM.R_order ?_
      refine ev_iload_n dX9_sort_39 rfl ?_
      refine ev_iconstN 1 dX9_sort_40 (by decide) ?_
      refine ev_isubN dX9_sort_41 (by omega) ?_
      refine ev_ialdv dX9_sort_42 hM.K_order hM.L_order (by decide) (by omega) htop ?_
      refine ev_callV dX9_sort_43 okX9_before inX9_before seX9_before mlX9_182 hM.m (by decide) rfl [iV _, iV _] rfl rfl (Nat.le_of_ble_eq_true rfl) (Nat.le_of_ble_eq_true rfl) (hbf) (fun r_ G_ h_ => ?_)
      obtain ⟨rfl, rfl⟩ := h_
      try dsimp only [Option.toList, List.cons_append, List.nil_append]
      refine ev_if_eq 69 dX9_sort_46 (by decide) (fun c46 => absurd c46 (by decide)) (fun c46 => ?_)
      refine ev_aload_n dX9_sort_49 rfl ?_
      refine ev_getR dX9_sort_50 fX9_75 hM.m hM.R_order ?_
      refine ev_iload_n dX9_sort_53 rfl ?_
      refine ev_aload_n dX9_sort_54 rfl ?_
      refine ev_getR dX9_sort_55 fX9_75 hM.m hM.R_order ?_
      refine ev_iload_n dX9_sort_58 rfl ?_
      refine ev_iconstN 1 dX9_sort_59 (by decide) ?_
      refine ev_isubN dX9_sort_60 (by omega) ?_
      refine ev_ialdv dX9_sort_61 hM.K_order hM.L_order (by decide) (by omega) htop ?_
      refine ev_iast dX9_sort_62 hM.K_order hM.L_order (by decide) (by omega) ?_
      refine ev_iincMS dX9_sort_63 rfl (by decide) (by decide) rfl ?_
      refine ev_goto 29 dX9_sort_66 (by decide) ?_
      exact ih (s ++ [y]) _ (by rw [hl]; simp) (fun z hz => by rcases List.mem_append.mp hz with h | h; exact hs z h; rw [List.mem_singleton.mp h]; exact hb) (fun i hi => (u2_row' hi).trans (hA i hi)) ho.step
set_option maxRecDepth 100000 in
set_option maxHeartbeats 4000000 in
theorem lp_sort {Q : Option LV → GH → Prop} (hM : MFix K R Ln) {many : Nat} (hm : I 582 11 = nI many) (hbm : many ≤ 520) (hq : ∀ A1 I1, (∀ i, i ≠ 32 → A1 i = A i) → OrdA A1 (srtR (bfB (A 16) (A 17) (A 18) (A 19)) (fun e => decide (¬ A 33 e = 0)) many) → I1 612 11 = nI (srtR (bfB (A 16) (A 17) (A 18) (A 19)) (fun e => decide (¬ A 33 e = 0)) many).length → (∀ f i, ¬ (f = 612 ∧ i = 11) → I1 f i = I f i) → Q none (K, I1, J, R, A1, B, Ln, n, sl)) : ∀ (g e : Nat) (A' : Nat → Nat → Int32) (I' : Nat → Nat → Int32) (w2 : Option LV), e + g = many → (∀ i, i ≠ 32 → A' i = A i) → OrdA A' (srtR (bfB (A 16) (A 17) (A 18) (A 19)) (fun e => decide (¬ A 33 e = 0)) e) → I' 612 11 = nI (srtR (bfB (A 16) (A 17) (A 18) (A 19)) (fun e => decide (¬ A 33 e = 0)) e).length → (∀ f i, ¬ (f = 612 ∧ i = 11) → I' f i = I f i) → Ev X mX9_sort (d + 2) 7 [some (rV (some 11)), some (iV (nI e)), w2] [] (K, I', J, R, A', B, Ln, n, sl) Q := by
  intro g
  induction g with
  | zero =>
    intro e A' I' w2 he hA ho hs hI
    have e2 : e = many := by omega
    subst e2
    have hm' : I' 582 11 = nI e := (hI 582 11 (by omega)).trans hm
    refine ev_iload_n dX9_sort_7 rfl ?_
    refine ev_aload_n dX9_sort_8 rfl ?_
    refine ev_getIv dX9_sort_9 fX9_106 hM.m hm' ?_
    refine ev_icmp_geN 92 dX9_sort_12 (by decide) (by omega) (by omega) (fun c12 => ?_) (fun c12 => absurd c12 (by omega))
    refine ev_return dX9_sort_92 rfl ?_
    exact hq A' I' hA ho hs hI
  | succ g ih =>
    intro e A' I' w2 he hA ho hs hI
    have hm' : I' 582 11 = nI many := (hI 582 11 (by omega)).trans hm
    have hlen := srtR_len (bf := bfB (A 16) (A 17) (A 18) (A 19)) (tk := (fun e => decide (¬ A 33 e = 0))) e
    have h33 : A' 33 e = A 33 e := congrFun (hA 33 (by decide)) e
    by_cases ht : A 33 e = 0
    · have hsr : srtR (bfB (A 16) (A 17) (A 18) (A 19)) (fun e => decide (¬ A 33 e = 0)) (e + 1) = srtR (bfB (A 16) (A 17) (A 18) (A 19)) (fun e => decide (¬ A 33 e = 0)) e := by
        rw [srtR.eq_2, if_neg (by simp [ht])]
      refine ev_iload_n dX9_sort_7 rfl ?_
      refine ev_aload_n dX9_sort_8 rfl ?_
      refine ev_getIv dX9_sort_9 fX9_106 hM.m hm' ?_
      refine ev_icmp_geN 92 dX9_sort_12 (by decide) (by omega) (by omega) (fun c12 => absurd c12 (by omega)) (fun c12 => ?_)
      refine ev_aload_n dX9_sort_15 rfl ?_
      refine ev_getR dX9_sort_16 fX9_78 hM.m hM.R_taken ?_
      refine ev_iload_n dX9_sort_19 rfl ?_
      refine ev_zaldv dX9_sort_20 hM.K_taken hM.L_taken (by decide) (by omega) h33 ?_
      refine ev_if_eq 86 dX9_sort_21 (by decide) (fun c21 => ?_) (fun c21 => absurd ht c21)
      refine ev_iincNS (b := 1) dX9_sort_86 rfl (by decide) (by decide) rfl ?_
      refine ev_goto 7 dX9_sort_89 (by decide) ?_
      exact ih (e + 1) A' I' _ (by omega) hA (by rw [hsr]; exact ho) (by rw [hsr]; exact hs) hI
    · have hsr : srtR (bfB (A 16) (A 17) (A 18) (A 19)) (fun e => decide (¬ A 33 e = 0)) (e + 1) = insR (bfB (A 16) (A 17) (A 18) (A 19)) e (srtR (bfB (A 16) (A 17) (A 18) (A 19)) (fun e => decide (¬ A 33 e = 0)) e) := by
        rw [srtR.eq_2, if_pos (by simp [ht])]
      have hins := lp_ins (X := X) (d := d) (I := I') (J := J) (A := A') (B := B) (n := n) (sl := sl) (e := e) (l := srtR (bfB (A 16) (A 17) (A 18) (A 19)) (fun e => decide (¬ A 33 e = 0)) e) (Q := Q) hM (by omega) (by omega) (fun y hy => by have := (srtR_mem.mp hy).1; omega) (fun A1 k h1 h2 => by
        rw [hA 16 (by decide), hA 17 (by decide), hA 18 (by decide), hA 19 (by decide), ← hsr] at h2
        refine ev_aload_n dX9_sort_76 rfl ?_
        refine ev_dup dX9_sort_77 rfl ?_
        refine ev_getIv dX9_sort_78 fX9_188 hM.m hs ?_
        refine ev_iconstN 1 dX9_sort_81 (by decide) ?_
        refine ev_iaddN dX9_sort_82 ?_
        refine ev_putI dX9_sort_83 fX9_188 (Or.inl rfl) (Or.inl rfl) hM.m ?_
        refine ev_iincNS (b := 1) dX9_sort_86 rfl (by decide) (by decide) rfl ?_
        refine ev_goto 7 dX9_sort_89 (by decide) ?_
        refine ih (e + 1) A1 _ _ (by omega) (fun i hi => (h1 i hi).trans (hA i hi)) h2 (by rw [u2_self, hsr, insR_len]) (fun f i hf => ?_)
        rw [show u2 I' 612 11 (nI ((srtR (bfB (A 16) (A 17) (A 18) (A 19)) (fun e => decide (¬ A 33 e = 0)) e).length + 1)) f i = I' f i from if_neg hf]
        exact hI f i hf) (srtR (bfB (A 16) (A 17) (A 18) (A 19)) (fun e => decide (¬ A 33 e = 0)) e) [] A' rfl (fun _ h => by cases h) (fun _ _ => rfl) ⟨ho, fun j v h => by simp at h⟩
      refine ev_iload_n dX9_sort_7 rfl ?_
      refine ev_aload_n dX9_sort_8 rfl ?_
      refine ev_getIv dX9_sort_9 fX9_106 hM.m hm' ?_
      refine ev_icmp_geN 92 dX9_sort_12 (by decide) (by omega) (by omega) (fun c12 => absurd c12 (by omega)) (fun c12 => ?_)
      refine ev_aload_n dX9_sort_15 rfl ?_
      refine ev_getR dX9_sort_16 fX9_78 hM.m hM.R_taken ?_
      refine ev_iload_n dX9_sort_19 rfl ?_
      refine ev_zaldv dX9_sort_20 hM.K_taken hM.L_taken (by decide) (by omega) h33 ?_
      refine ev_if_eq 86 dX9_sort_21 (by decide) (fun c21 => absurd c21 ht) (fun c21 => ?_)
      refine ev_aload_n dX9_sort_24 rfl ?_
      refine ev_getIv dX9_sort_25 fX9_188 hM.m hs ?_
      refine ev_istore_nS dX9_sort_28 (by decide) rfl ?_
      exact hins
theorem sp_sort (hM : MFix K R Ln) {many : Nat} (hm : I 582 11 = nI many) (hbm : many ≤ 520) : EvM X mX9_sort (d + 2) [rV (some 11)] (K, I, J, R, A, B, Ln, n, sl) (fun r G' => r = none ∧ ∃ A1 I1, G' = (K, I1, J, R, A1, B, Ln, n, sl) ∧ (∀ i, i ≠ 32 → A1 i = A i) ∧ OrdA A1 (srtR (bfB (A 16) (A 17) (A 18) (A 19)) (fun e => decide (¬ A 33 e = 0)) many) ∧ I1 612 11 = nI (srtR (bfB (A 16) (A 17) (A 18) (A 19)) (fun e => decide (¬ A 33 e = 0)) many).length ∧ ∀ f i, ¬ (f = 612 ∧ i = 11) → I1 f i = I f i) := by
  show Ev X mX9_sort (d + 2) 0 [some (rV (some 11)), none, none] [] (K, I, J, R, A, B, Ln, n, sl) _
  refine ev_aload_n dX9_sort_0 rfl ?_
  refine ev_iconstN 0 dX9_sort_1 (by decide) ?_
  refine ev_putI dX9_sort_2 fX9_188 (Or.inl rfl) (Or.inl rfl) hM.m ?_
  refine ev_iconstN 0 dX9_sort_5 (by decide) ?_
  refine ev_istore_nS dX9_sort_6 (by decide) rfl ?_
  exact lp_sort hM hm hbm (fun A1 I1 a b c e => ⟨rfl, A1, I1, rfl, a, b, c, e⟩) many 0 A _ none (by omega) (fun _ _ => rfl) (fun j v h => by simp [srtR] at h) u2_self (fun f i hf => if_neg hf)
end M18
