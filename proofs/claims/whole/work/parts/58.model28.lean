section M28
variable {X : CX} {d : Nat} {K : Nat → Nat} {I : Nat → Nat → Int32} {J : Nat → Nat → Int64} {R : Nat → Nat → Option Nat} {A : Nat → Nat → Int32} {B : Nat → Nat → Option Nat} {Ln : Nat → Nat} {n sl : Nat}
/-- the entries stand as before, and em behind them, all with the next stamp -/
def BatI (A : Nat → Nat → Int32) (many la : Nat) (A' : Nat → Nat → Int32) (em : List EE) : Prop := (∀ i, i ∉ [16, 17, 18, 19, 20, 21, 22, 29, 30] → A' i = A i) ∧ (∀ e, e < many → entA A' e = entA A e) ∧ (∀ j x, em[j]? = some x → entA A' (many + j) = x) ∧ ∀ x ∈ em, x.2.2.2.1 = nI (la + 1)
theorem BatI.refl {A : Nat → Nat → Int32} {many la : Nat} : BatI A many la A [] := ⟨fun _ _ => rfl, fun _ _ => rfl, fun j x h => (by cases h), fun x h => (by cases h)⟩
theorem BatI.row {A A' A'' : Nat → Nat → Int32} {many la : Nat} {em : List EE} (h : BatI A many la A' em) (h1 : ∀ i, i ∉ [29, 30] → A'' i = A' i) : BatI A many la A'' em := by
  have he : ∀ e, entA A'' e = entA A' e := fun e => by
    unfold entA
    rw [h1 16 (by decide), h1 17 (by decide), h1 18 (by decide), h1 19 (by decide), h1 20 (by decide), h1 21 (by decide), h1 22 (by decide)]
  refine ⟨fun i hi => ?_, fun e hl => by rw [he]; exact h.2.1 e hl, fun j x hj => by rw [he]; exact h.2.2.1 j x hj, h.2.2.2⟩
  rw [h1 i (fun z => hi (by simp only [List.mem_cons, List.not_mem_nil, or_false] at z ⊢; omega))]
  exact h.1 i hi
theorem BatI.add {A A' A'' : Nat → Nat → Int32} {many la : Nat} {em : List EE} {x : EE} (h : BatI A many la A' em) (h1 : AEq [16, 17, 18, 19, 20, 21, 22] A' A'') (h2 : ∀ e, e < many + em.length → entA A'' e = entA A' e) (h3 : entA A'' (many + em.length) = x) (hx : x.2.2.2.1 = nI (la + 1)) : BatI A many la A'' (em ++ [x]) := by
  refine ⟨fun i hi => ?_, fun e hl => (h2 e (by omega)).trans (h.2.1 e hl), fun j y hj => ?_, fun y hy => ?_⟩
  · rw [h1 i (fun z => hi (by simp only [List.mem_cons, List.not_mem_nil, or_false] at z ⊢; omega))]
    exact h.1 i hi
  · have hl := (List.getElem?_eq_some_iff.mp hj).1
    rw [List.length_append] at hl
    by_cases hjl : j < em.length
    · rw [List.getElem?_append_left hjl] at hj
      rw [h2 _ (by omega)]
      exact h.2.2.1 j y hj
    · have ej : j = em.length := by simp at hl; omega
      subst ej
      simp at hj
      subst hj
      exact h3
  · rcases List.mem_append.mp hy with hy | hy
    · exact h.2.2.2 y hy
    · simp at hy
      subst hy
      exact hx
theorem entA_16 {A A' : Nat → Nat → Int32} {e e' : Nat} (h : entA A' e = entA A e') : A' 16 e = A 16 e' ∧ A' 17 e = A 17 e' ∧ A' 18 e = A 18 e' ∧ A' 19 e = A 19 e' ∧ A' 20 e = A 20 e' ∧ A' 22 e = A 22 e' ∧ ∀ f, f < 3 → A' 21 (3 * e + f) = A 21 (3 * e' + f) :=
  ⟨congrArg (fun x : EE => x.1) h, congrArg (fun x : EE => x.2.1) h, congrArg (fun x : EE => x.2.2.1) h, congrArg (fun x : EE => x.2.2.2.1) h, congrArg (fun x : EE => x.2.2.2.2.1) h, congrArg (fun x : EE => x.2.2.2.2.2.1) h, fun f hf => by
    rcases (show f = 0 ∨ f = 1 ∨ f = 2 by omega) with rfl | rfl | rfl
    · exact congrArg (fun x : EE => x.2.2.2.2.2.2.1) h
    · exact congrArg (fun x : EE => x.2.2.2.2.2.2.2.1) h
    · exact congrArg (fun x : EE => x.2.2.2.2.2.2.2.2) h⟩
theorem seenN_congr {A A' : Nat → Nat → Int32} {s v k t : Int32} : ∀ e, (∀ j, j < e → entA A' j = entA A j) → seenN A' s v k t e = seenN A s v k t e
  | 0, _ => rfl
  | e + 1, h => by
    have ih := seenN_congr (s := s) (v := v) (k := k) (t := t) e (fun j hj => h j (by omega))
    obtain ⟨h16, h17, h18, h19, -, -, -⟩ := entA_16 (h e (Nat.lt_succ_self e))
    rw [seenN.eq_2, seenN.eq_2, ih, h16, h17, h18, h19]
    have hc : (∀ b, seenN A s v k t e = some b → A' 19 b < A 19 e) ↔ (∀ b, seenN A s v k t e = some b → A 19 b < A 19 e) := by
      constructor
      · intro hb b hs
        rw [← (entA_16 (h b (by have := seenN_lt hs; omega))).2.2.2.1]
        exact hb b hs
      · intro hb b hs
        rw [(entA_16 (h b (by have := seenN_lt hs; omega))).2.2.2.1]
        exact hb b hs
    simp only [hc]
theorem BatI.seen {A A' : Nat → Nat → Int32} {many la : Nat} {em : List EE} (h : BatI A many la A' em) (hla : la + 1 < 2147483648) {s v k t : Int32} (ht : t ≤ nI la) : seenN A' s v k t (many + em.length) = seenN A s v k t many := by
  have hlt : ¬ nI (la + 1) ≤ t := fun z => by
    have z1 := Int32.le_iff_toInt_le.mp (Int32.le_trans z ht)
    rw [nI_toInt hla, nI_toInt (by omega)] at z1
    omega
  have hm : ∀ m, m ≤ em.length → seenN A' s v k t (many + m) = seenN A' s v k t many := by
    intro m
    induction m with
    | zero => intro _; rfl
    | succ m ih =>
      intro hm
      have hx := h.2.2.1 m em[m] (List.getElem?_eq_getElem (by omega))
      have hst : A' 19 (many + m) = nI (la + 1) := by
        have h1 := congrArg (fun x : EE => x.2.2.2.1) hx
        exact h1.trans (h.2.2.2 _ (List.getElem_mem (by omega)))
      rw [show many + (m + 1) = (many + m) + 1 by omega, seenN.eq_2, if_neg (fun z => hlt (by rw [← hst]; exact z.2.2.2.1)), ih (by omega)]
  rw [hm _ (Nat.le_refl _), seenN_congr many h.2.1]
theorem BatI.ra {A A' : Nat → Nat → Int32} {many la : Nat} {em : List EE} (h : BatI A many la A' em) (hla : la + 1 < 2147483648) {k t : Int32} (ht : t ≤ nI la) : raN A' k t (many + em.length) = raN A k t many := by
  unfold raN
  rw [h.seen hla ht]
  cases hs : seenN A 0 0 k t many with
  | none => rfl
  | some b =>
    dsimp only
    rw [(entA_16 (h.2.1 b (seenN_lt hs))).2.2.2.2.1]
theorem BatI.rw {A A' : Nat → Nat → Int32} {many la : Nat} {em : List EE} (h : BatI A many la A' em) {k t : Int32} {f : Nat} (hf : f < 3) : rwV A' (raN A k t many) f = rwV A (raN A k t many) f := by
  cases hs : raN A k t many with
  | none => rfl
  | some b => exact (entA_16 (h.2.1 b (raN_lt hs))).2.2.2.2.2.2 f hf
theorem BatI.rfo {A A' : Nat → Nat → Int32} {many la : Nat} {em : List EE} (h : BatI A many la A' em) (hla : la + 1 < 2147483648) {t k : Nat} (ht : A 26 t ≤ nI la) : rfO A' t k (many + em.length) = rfO A t k many := by
  unfold rfO
  rw [h.1 27 (by decide), h.1 26 (by decide), h.ra hla ht]
theorem BatI.rfv {A A' : Nat → Nat → Int32} {many la : Nat} {em : List EE} (h : BatI A many la A' em) (hla : la + 1 < 2147483648) {t k f : Nat} (ht : A 26 t ≤ nI la) (hf : f < 3) : rfV A' t k (many + em.length) f = rfV A t k many f := by
  unfold rfV
  rw [h.1 27 (by decide), h.1 26 (by decide), h.1 28 (by decide), h.ra hla ht, h.rw hf]
theorem evE_congr {r r' : Nat → Int32} (h : ∀ f, f < 3 → r' f = r f) : ∀ (e : EX) (st : List Int32), evE r' e st = evE r e st
  | [], _ => rfl
  | on :: e, st => by
    unfold evE
    have hs : stepE r' on.1 on.2 st = stepE r on.1 on.2 st := by
      unfold stepE
      split
      · next hl => rw [h _ hl]
      · rw [h 2 (by decide)]
    rw [hs]
    exact evE_congr h e _
theorem ExA.congr {A A' : Nat → Nat → Int32} {x : Nat} {e : EX} (h : ExA A x e) (h12 : A' 12 = A 12) (h13 : A' 13 = A 13) (h14 : A' 14 = A 14) : ExA A' x e := by
  unfold ExA
  rw [h12, h13, h14]
  exact h
/-- the value of an expression over a row -/
def vlE (r : Nat → Int32) (e : EX) : Int32 := (evE r e []).headD 0
abbrev E4 : Type := Int32 × Int32 × Int32 × Int32
def goneB (had has : Bool) (old now : Int32) : Bool := had && (!has || decide (¬ now = old))
def ixE (had has : Bool) (old now : Int32) (i : Nat) (k : Int32) : List E4 := (if goneB had has old now = true then [(nI (i + 1), old, k, 0)] else []) ++ (if goneB has had old now = true then [(nI (i + 1), now, k, 1)] else [])
def mkE (la : Nat) (r : Nat → Int32) (x : E4) : EE := (x.1, x.2.1, x.2.2.1, nI (la + 1), x.2.2.2, 0, r 0, r 1, r 2)
/-- what a commit does to the indexes for one key -/
def ixL (had has : Bool) (ro rn : Nat → Int32) (ie : Nat → EX) (k : Int32) (i : Nat) : List E4 := (List.range i).flatMap (fun i => ixE had has (vlE ro (ie i)) (vlE rn (ie i)) i k)
theorem ixL_s {had has : Bool} {ro rn : Nat → Int32} {ie : Nat → EX} {k : Int32} {i : Nat} : ixL had has ro rn ie k (i + 1) = ixL had has ro rn ie k i ++ ixE had has (vlE ro (ie i)) (vlE rn (ie i)) i k := by
  unfold ixL
  rw [List.range_succ, List.flatMap_append]
  simp
theorem ixL_le {had has : Bool} {ro rn : Nat → Int32} {ie : Nat → EX} {k : Int32} {i : Nat} : ∀ {j : Nat}, (ixL had has ro rn ie k i).length ≤ (ixL had has ro rn ie k (i + j)).length
  | 0 => Nat.le_refl _
  | j + 1 => by
    rw [show i + (j + 1) = (i + j) + 1 by omega, ixL_s, List.length_append]
    have := ixL_le (had := had) (has := has) (ro := ro) (rn := rn) (ie := ie) (k := k) (i := i) (j := j)
    omega
def keyE (had has : Bool) (ro rn : Nat → Int32) (ie : Nat → EX) (k : Nat) (ixn : Nat) : List E4 := ixL had has ro rn ie (nI k) ixn ++ [(0, 0, nI k, bZ has)]
/-- what a commit puts, key by key -/
def batL (la : Nat) (wr : Nat → Bool) (had has : Nat → Bool) (ro rn : Nat → Nat → Int32) (ie : Nat → EX) (ixn k : Nat) : List EE := (List.range k).flatMap (fun k => if wr k = true then (keyE (had k) (has k) (ro k) (rn k) ie k ixn).map (mkE la (rn k)) else [])
theorem batL_s {la : Nat} {wr had has : Nat → Bool} {ro rn : Nat → Nat → Int32} {ie : Nat → EX} {ixn k : Nat} : batL la wr had has ro rn ie ixn (k + 1) = batL la wr had has ro rn ie ixn k ++ (if wr k = true then (keyE (had k) (has k) (ro k) (rn k) ie k ixn).map (mkE la (rn k)) else []) := by
  unfold batL
  rw [List.range_succ, List.flatMap_append]
  simp
theorem batL_le {la : Nat} {wr had has : Nat → Bool} {ro rn : Nat → Nat → Int32} {ie : Nat → EX} {ixn k : Nat} : ∀ {j : Nat}, (batL la wr had has ro rn ie ixn k).length ≤ (batL la wr had has ro rn ie ixn (k + j)).length
  | 0 => Nat.le_refl _
  | j + 1 => by
    rw [show k + (j + 1) = (k + j) + 1 by omega, batL_s, List.length_append]
    have := batL_le (la := la) (wr := wr) (had := had) (has := has) (ro := ro) (rn := rn) (ie := ie) (ixn := ixn) (k := k) (j := j)
    omega
def emP (put : Bool) (l : List EE) : List EE := if put = true then l else []
end M28
