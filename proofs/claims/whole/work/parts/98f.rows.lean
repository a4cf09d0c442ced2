section C98F
variable {X : CX} {d : Nat} {K : Nat → Nat} {I : Nat → Nat → Int32} {J : Nat → Nat → Int64} {R : Nat → Nat → Option Nat} {A : Nat → Nat → Int32} {B : Nat → Nat → Option Nat} {Ln : Nat → Nat} {n sl : Nat} {a m : Nat} {cs fs : List Nat} {s : SA} {many tn la : Nat} {ti : Nat → Nat} {pn : Nat} {px : Nat → Nat} {pe : Nat → EX} {ixn : Nat} {ie : Nat → EX} {rn : Nat} {p : PP}
theorem seen_char {A : Nat → Nat → Int32} {S V Q t : Int32} : ∀ e, (seenN A S V Q t e = none → ∀ c, c < e → ¬ (A 16 c = S ∧ A 17 c = V ∧ A 18 c = Q ∧ A 19 c ≤ t)) ∧ ∀ b, seenN A S V Q t e = some b → b < e ∧ (A 16 b = S ∧ A 17 b = V ∧ A 18 b = Q ∧ A 19 b ≤ t) ∧ ∀ c, c < e → (A 16 c = S ∧ A 17 c = V ∧ A 18 c = Q ∧ A 19 c ≤ t) → A 19 c ≤ A 19 b
  | 0 => ⟨fun _ c hc => absurd hc (Nat.not_lt_zero _), fun b hb => by cases hb⟩
  | e + 1 => by
    obtain ⟨i1, i2⟩ := seen_char (A := A) (S := S) (V := V) (Q := Q) (t := t) e
    by_cases hc : A 16 e = S ∧ A 17 e = V ∧ A 18 e = Q ∧ A 19 e ≤ t ∧ (∀ b, seenN A S V Q t e = some b → A 19 b < A 19 e)
    · rw [← seenN_yes hc]
      refine ⟨fun z => (by cases z), fun b hb => ?_⟩
      cases hb
      refine ⟨by omega, ⟨hc.1, hc.2.1, hc.2.2.1, hc.2.2.2.1⟩, fun c hce hm => ?_⟩
      by_cases hce' : c = e
      · rw [hce']; exact Int32.le_refl _
      · cases hs : seenN A S V Q t e with
        | none => exact absurd hm (i1 hs c (by omega))
        | some b' => exact Int32.le_trans ((i2 b' hs).2.2 c (by omega) hm) (Int32.le_of_lt (hc.2.2.2.2 b' hs))
    · rw [← seenN_no hc]
      refine ⟨fun z c hce hm => ?_, fun b hb => ?_⟩
      · by_cases hce' : c = e
        · subst hce'
          exact hc ⟨hm.1, hm.2.1, hm.2.2.1, hm.2.2.2, fun b hb => by rw [z] at hb; cases hb⟩
        · exact i1 z c (by omega) hm
      · obtain ⟨b1, b2, b3⟩ := i2 b hb
        refine ⟨by omega, b2, fun c hce hm => ?_⟩
        by_cases hce' : c = e
        · subst hce'
          refine Int32.not_lt.mp (fun z => hc ⟨hm.1, hm.2.1, hm.2.2.1, hm.2.2.2, fun b' hb' => ?_⟩)
          rw [hb] at hb'
          cases hb'
          exact z
        · exact b3 c (by omega) hm
/-- the newest entry of a place that is seen at a stamp -/
def rwS (s : SA) (q : Int64) (u : Int32) : Option EE := s.1.find? (fun x => decide (plc x = q) && decide (eT x ≤ u))
theorem rsC_S (h : CsR K I J R B Ln n a m cs fs s) {q : Int64} {u : Int32} : (rsC I J cs q u).map (entC I R) = rwS s q u := by
  unfold rsC rwS
  rw [h.2.1, List.find?_map]
  congr 1
  have : ∀ l : List Nat, (∀ e ∈ l, e ∈ cs) → l.find? (fun e => decide (J 3 e = q) && decide (I 4 e ≤ u)) = l.find? ((fun x => decide (plc x = q) && decide (eT x ≤ u)) ∘ entC I R) := by
    intro l hl
    induction l with
    | nil => rfl
    | cons x l ih =>
      have hx := plc_ent h.1 (hl x List.mem_cons_self)
      have ih := ih (fun y hy => hl y (List.mem_cons_of_mem _ hy))
      have e1 : ((fun x => decide (plc x = q) && decide (eT x ≤ u)) ∘ entC I R) x = (decide (J 3 x = q) && decide (I 4 x ≤ u)) := by
        show (decide (plc (entC I R x) = q) && decide (I 4 x ≤ u)) = _
        rw [hx]
      cases hb : (decide (J 3 x = q) && decide (I 4 x ≤ u)) with
      | true => rw [List.find?_cons_of_pos (p := fun e => decide (J 3 e = q) && decide (I 4 e ≤ u)) hb, List.find?_cons_of_pos (by rw [e1]; exact hb)]
      | false => rw [List.find?_cons_of_neg (p := fun e => decide (J 3 e = q) && decide (I 4 e ≤ u)) (by show ¬ (decide (J 3 x = q) && decide (I 4 x ≤ u)) = true; rw [hb]; decide), List.find?_cons_of_neg (by rw [e1, hb]; decide)]; exact ih
  exact this cs (fun _ h => h)
theorem find_max {l : List EE} {q : Int64} {u : Int32} {y : EE} (hs : l.Pairwise (fun a b => bfE a b = true)) (hy : y ∈ l) (h1 : plc y = q) (h2 : eT y ≤ u) (hm : ∀ z ∈ l, plc z = q → eT z ≤ u → eT z ≤ eT y) : l.find? (fun x => decide (plc x = q) && decide (eT x ≤ u)) = some y := by
  induction l with
  | nil => cases hy
  | cons x l ih =>
    obtain ⟨p1, p2⟩ := List.pairwise_cons.mp hs
    cases hb : (decide (plc x = q) && decide (eT x ≤ u)) with
    | true =>
      rw [List.find?_cons_of_pos (p := fun x => decide (plc x = q) && decide (eT x ≤ u)) hb]
      rw [Bool.and_eq_true, decide_eq_true_iff, decide_eq_true_iff] at hb
      rcases List.mem_cons.mp hy with rfl | hy
      · rfl
      · exfalso
        have hbf := p1 y hy
        unfold bfE at hbf
        rw [befL_iff, hb.1, h1] at hbf
        rcases hbf with z | ⟨-, z⟩
        · exact Int64.lt_irrefl z
        · exact absurd (hm x List.mem_cons_self hb.1 hb.2) (Int32.not_le.mpr z)
    | false =>
      rw [List.find?_cons_of_neg (p := fun x => decide (plc x = q) && decide (eT x ≤ u)) (by show ¬ (decide (plc x = q) && decide (eT x ≤ u)) = true; rw [hb]; decide)]
      rcases List.mem_cons.mp hy with rfl | hy
      · rw [decide_eq_true h1, decide_eq_true h2] at hb; cases hb
      · exact ih p2 hy (fun z hz => hm z (List.mem_cons_of_mem _ hz))
theorem seen_S (h : RfR I A many s) (hv : SaV s) {S W Q t : Int32} (hr : RgE S Q) : (seenN A S W Q t many).map (fun b => nrmE (entA A b)) = rwS s (plcL S W Q) t := by
  obtain ⟨c1, c2⟩ := seen_char (A := A) (S := S) (V := W) (Q := Q) (t := t) many
  have hp : ∀ c, c < many → (plc (nrmE (entA A c)) = plcL S W Q ↔ A 16 c = S ∧ A 17 c = W ∧ A 18 c = Q) := fun c hc => by
    rw [plc_nrm]
    exact plc_eq (h.rg hv hc) hr
  have hT : ∀ c, eT (nrmE (entA A c)) = A 19 c := fun c => (nrm_S _).2.2.2.1
  cases hs : seenN A S W Q t many with
  | none =>
    symm
    unfold rwS
    rw [Option.map_none, List.find?_eq_none]
    intro x hx z
    obtain ⟨c, hc, rfl⟩ := List.mem_map.mp (h.2.1.mem_iff.mpr hx)
    have hc := List.mem_range.mp hc
    rw [Bool.and_eq_true, decide_eq_true_iff, decide_eq_true_iff, hp c hc, hT] at z
    exact c1 hs c hc ⟨z.1.1, z.1.2.1, z.1.2.2, z.2⟩
  | some b =>
    obtain ⟨b1, b2, b3⟩ := c2 b hs
    symm
    unfold rwS
    rw [Option.map_some]
    refine find_max hv.1 (h.mem b1) ((hp b b1).mpr ⟨b2.1, b2.2.1, b2.2.2.1⟩) (by rw [hT]; exact b2.2.2.2) (fun z hz y1 y2 => ?_)
    obtain ⟨c, hc, rfl⟩ := List.mem_map.mp (h.2.1.mem_iff.mpr hz)
    have hc := List.mem_range.mp hc
    rw [hp c hc] at y1
    rw [hT] at y2 ⊢
    rw [hT]
    exact b3 c hc ⟨y1.1, y1.2.1, y1.2.2, y2⟩
theorem row_at (h : CsR K I J R B Ln n a m cs fs s) (hR : RfR I A many s) (hv : SaV s) {q : Nat} (hq : q < 32) {u : Int32} : (raC I J R cs (nI q) u).isSome = (raN A (nI q) u many).isSome ∧ ∀ f, f < 3 → rwO I (raC I J R cs (nI q) u) f = rwV A (raN A (nI q) u many) f := by
  have e1 := rsC_S h (q := plcL (nI 0) (nI 0) (nI q)) (u := u)
  have e2 := seen_S hR hv (S := nI 0) (W := nI 0) (Q := nI q) (t := u) (rg_nI (by omega) hq)
  rw [← e2] at e1
  unfold raC raN
  rw [show seenN A 0 0 (nI q) u many = seenN A (nI 0) (nI 0) (nI q) u many from rfl]
  cases hs : seenN A (nI 0) (nI 0) (nI q) u many with
  | none =>
    rw [hs] at e1
    cases hr : rsC I J cs (plcL (nI 0) (nI 0) (nI q)) u with
    | none => exact ⟨rfl, fun f hf => rfl⟩
    | some e => rw [hr] at e1; cases e1
  | some b =>
    rw [hs] at e1
    cases hr : rsC I J cs (plcL (nI 0) (nI 0) (nI q)) u with
    | none => rw [hr] at e1; cases e1
    | some e =>
      rw [hr] at e1
      have e1 : entC I R e = nrmE (entA A b) := Option.some.inj e1
      have hl : lvR R e = A 20 b := by
        have := congrArg eL e1
        rw [(nrm_S _).2.2.2.2.1] at this
        exact this
      show (R 5 e).isSome = (if A 20 b = 0 then none else some b : Option Nat).isSome ∧ ∀ f, f < 3 → rwO I (R 5 e) f = rwV A (if A 20 b = 0 then none else some b) f
      unfold lvR at hl
      by_cases hz : R 5 e = none
      · rw [if_pos hz] at hl
        rw [hz, if_pos hl.symm]
        exact ⟨rfl, fun f hf => rfl⟩
      · rw [if_neg hz] at hl
        have hne : ¬ A 20 b = 0 := by rw [← hl]; decide
        rw [if_neg hne]
        have e2 : entC I R e = entA A b := by
          rw [e1]
          unfold nrmE
          rw [if_neg (show ¬ eL (entA A b) = 0 from hne)]
        have e3 := congrArg (fun x : EE => x.2.2.2.2.2.2) e2
        refine ⟨?_, fun f hf => ?_⟩
        · cases hy : R 5 e with
          | none => exact absurd hy hz
          | some r => rfl
        · have e3 : (rwO I (R 5 e) 0, rwO I (R 5 e) 1, rwO I (R 5 e) 2) = (A 21 (3 * b), A 21 (3 * b + 1), A 21 (3 * b + 2)) := e3
          show rwO I (R 5 e) f = A 21 (3 * b + f)
          obtain rfl | rfl | rfl : f = 0 ∨ f = 1 ∨ f = 2 := by omega
          · exact congrArg (fun z => z.1) e3
          · exact congrArg (fun z => z.2.1) e3
          · exact congrArg (fun z => z.2.2) e3
theorem row_for (h : CsR K I J R B Ln n a m cs fs s) (hR : RfR I A many s) (hv : SaV s) {t j q : Nat} (hq : q < 32) (hT : TxJ K I R A B Ln n la t j) : (rfC I J R A B cs t q).isSome = rfO A j q many ∧ ∀ f, f < 3 → rwO I (rfC I J R A B cs t q) f = rfV A j q many f := by
  obtain ⟨-, -, -, -, hb, -, -, hW⟩ := hT
  unfold rfC rfO rfV
  rcases hW q hq with ⟨w1, w2⟩ | ⟨w1, w2, r, w3, w4, w5⟩ | ⟨w1, w2, w3⟩
  · rw [if_pos w1, if_pos w2, hb]
    obtain ⟨z1, z2⟩ := row_at h hR hv hq (u := A 26 j)
    refine ⟨z1, fun f hf => ?_⟩
    rw [if_pos w2]
    exact z2 f hf
  · have n1 : ¬ A (t + 1) q = 0 := by rw [w1]; decide
    have n2 : ¬ A 27 (32 * j + q) = 0 := by rw [w2]; decide
    rw [if_neg n1, if_neg n2, w3, decide_eq_true w2]
    refine ⟨rfl, fun f hf => ?_⟩
    rw [if_neg n2, if_pos w2]
    exact (w5 f hf).symm
  · have n1 : ¬ A (t + 1) q = 0 := by rw [w1]; decide
    have n2 : ¬ A 27 (32 * j + q) = 0 := by rw [w2]; decide
    have n3 : ¬ A 27 (32 * j + q) = 1 := by rw [w2]; decide
    rw [if_neg n1, if_neg n2, w3, decide_eq_false n3]
    refine ⟨rfl, fun f hf => ?_⟩
    rw [if_neg n2, if_neg n3]
    rfl
end C98F
