section R95
variable {I A : Nat → Nat → Int32} {many : Nat} {s : SA}
theorem end_char (h : RfR I A many s) (hv : SaV s) (x : Int32) (fst : Bool) : ∀ e, e ≤ many → (endN A x fst e = none → ∀ c, c < e → A 22 c ≠ x) ∧ ∀ b, endN A x fst e = some b → b < e ∧ A 22 b = x ∧ ∀ c, c < e → A 22 c = x → c = b ∨ (if fst = true then bfE (entA A b) (entA A c) else bfE (entA A c) (entA A b)) = true
  | 0, _ => ⟨fun _ c hc => absurd hc (Nat.not_lt_zero _), fun b hb => by cases hb⟩
  | e + 1, he => by
    obtain ⟨i1, i2⟩ := end_char h hv x fst e (by omega)
    have hbf : ∀ b, b < e → bfB (A 16) (A 17) (A 18) (A 19) e b = bfE (entA A e) (entA A b) := fun b hb => h.bf hv (by omega) (by omega)
    by_cases hc : A 22 e = x ∧ (∀ b, endN A x fst e = some b → bfB (A 16) (A 17) (A 18) (A 19) e b = fst)
    · rw [← endN_yes hc]
      refine ⟨fun z => (by cases z), fun b hb => ?_⟩
      cases hb
      refine ⟨by omega, hc.1, fun c hce hcx => ?_⟩
      by_cases hce' : c = e
      · exact Or.inl hce'
      · right
        have hc2 : c < e := by omega
        cases hen : endN A x fst e with
        | none => exact absurd hcx (i1 hen c hc2)
        | some b' =>
          obtain ⟨b1, b2, b3⟩ := i2 b' hen
          have hb := hc.2 b' hen
          rw [hbf b' b1] at hb
          have ht := b3 c hc2 hcx
          cases fst with
          | true =>
            rw [if_pos rfl] at ht ⊢
            rcases ht with rfl | ht
            · exact hb
            · exact bfE_trans hb ht
          | false =>
            rw [if_neg (by decide)] at ht ⊢
            have hbe : bfE (entA A b') (entA A e) = true := by
              rcases h.inj hv (a := e) (b := b') (by omega) (by omega) (by omega) with z | z
              · rw [hb] at z; cases z
              · exact z
            rcases ht with rfl | ht
            · exact hbe
            · exact bfE_trans ht hbe
    · rw [← endN_no hc]
      refine ⟨fun z c hce => ?_, fun b hb => ?_⟩
      · by_cases hce' : c = e
        · subst hce'
          intro hx
          exact hc ⟨hx, fun b hb => by rw [z] at hb; cases hb⟩
        · exact i1 z c (by omega)
      · obtain ⟨b1, b2, b3⟩ := i2 b hb
        refine ⟨by omega, b2, fun c hce hcx => ?_⟩
        by_cases hce' : c = e
        · subst hce'
          right
          have hnb : ¬ bfB (A 16) (A 17) (A 18) (A 19) c b = fst := fun z => hc ⟨hcx, fun b' hb' => by rw [hb] at hb'; cases hb'; exact z⟩
          rw [hbf b b1] at hnb
          cases fst with
          | true =>
            rw [if_pos rfl]
            rcases h.inj hv (a := c) (b := b) (by omega) (by omega) (by omega) with z | z
            · exact absurd z hnb
            · exact z
          | false =>
            rw [if_neg (by decide)]
            cases hz : bfE (entA A c) (entA A b) with
            | true => rfl
            | false => exact absurd hz hnb
        · exact b3 c (by omega) hcx
theorem mem_of {x : Int32} {y : EE} : y ∈ ofS s.1 x ↔ y ∈ s.1 ∧ eF y = x := by
  unfold ofS
  rw [List.mem_filter, decide_eq_true_iff]
theorem RfR.ends (h : RfR I A many s) (hv : SaV s) {x : Int32} (hx : ofS s.1 x ≠ []) : HasE A many x ∧ nrmE (entA A (eN A many true x)) = fstS s.1 x ∧ nrmE (entA A (eN A many false x)) = lstS s.1 x ∧ ∀ b, eN A many b x < many := by
  obtain ⟨y, hy⟩ := List.exists_mem_of_ne_nil _ hx
  obtain ⟨y1, y2⟩ := mem_of.mp hy
  obtain ⟨c, hc, rfl⟩ := List.mem_map.mp (h.2.1.mem_iff.mpr y1)
  have hc := List.mem_range.mp hc
  rw [(nrm_S _).2.2.2.2.2] at y2
  have hE : HasE A many x := fun b => by
    cases he : endN A x b many with
    | none => exact absurd y2 ((end_char h hv x b many (Nat.le_refl _)).1 he c hc)
    | some e => exact ⟨e, rfl⟩
  have hp : (ofS s.1 x).Pairwise (fun a b => bfE a b = true) := List.Pairwise.filter _ hv.1
  have hall : ∀ z ∈ ofS s.1 x, ∃ e, e < many ∧ A 22 e = x ∧ z = nrmE (entA A e) := fun z hz => by
    obtain ⟨z1, z2⟩ := mem_of.mp hz
    obtain ⟨e, he, rfl⟩ := List.mem_map.mp (h.2.1.mem_iff.mpr z1)
    rw [(nrm_S _).2.2.2.2.2] at z2
    exact ⟨e, List.mem_range.mp he, z2, rfl⟩
  refine ⟨hE, ?_, ?_, fun b => endN_lt (hE.get b)⟩
  · obtain ⟨b1, b2, b3⟩ := (end_char h hv x true many (Nat.le_refl _)).2 _ (hE.get true)
    unfold fstS
    rw [head_min hp (mem_of.mpr ⟨h.mem b1, by rw [(nrm_S _).2.2.2.2.2]; exact b2⟩) (fun z hz => ?_)]
    · rfl
    · obtain ⟨e, e1, e2, rfl⟩ := hall z hz
      rcases b3 e e1 e2 with w | w
      · exact Or.inl (by rw [w])
      · rw [if_pos rfl] at w
        exact Or.inr (by rw [bfE_nrm]; exact w)
  · obtain ⟨b1, b2, b3⟩ := (end_char h hv x false many (Nat.le_refl _)).2 _ (hE.get false)
    unfold lstS
    rw [last_max hp (mem_of.mpr ⟨h.mem b1, by rw [(nrm_S _).2.2.2.2.2]; exact b2⟩) (fun z hz => ?_)]
    · rfl
    · obtain ⟨e, e1, e2, rfl⟩ := hall z hz
      rcases b3 e e1 e2 with w | w
      · exact Or.inl (by rw [w])
      · rw [if_neg (by decide)] at w
        exact Or.inr (by rw [bfE_nrm]; exact w)
theorem i32_ge {x : Int32} : 0 ≤ x ↔ ¬ x < 0 := Int32.not_lt.symm
theorem RfR.sel (h : RfR I A many s) (hv : SaV s) {l src : Int32} {p : Int32 × Int32} (hp : ofS s.1 p.1 ≠ []) (hs : ofS s.1 src ≠ []) : selF A many l src p = (decide (p.2 = l + nI 1) && metS s.1 p.1 src) := by
  obtain ⟨-, a1, a2, a3⟩ := h.ends hv hp
  obtain ⟨-, b1, b2, b3⟩ := h.ends hv hs
  unfold selF
  congr 1
  unfold mtB metS
  have e1 := (pl_bf (h.rg hv (b3 false)) (h.rg hv (a3 true))).1
  have e2 := (pl_bf (h.rg hv (a3 false)) (h.rg hv (b3 true))).1
  rw [← plc_nrm, ← plc_nrm (entA A (eN A many true p.1)), b2, a1] at e1
  rw [← plc_nrm, ← plc_nrm (entA A (eN A many true src)), a2, b1] at e2
  refine decide_eq_decide.mpr ?_
  rw [i32_ge, i32_ge, e1, e2]
  exact And.comm
theorem RfR.st (h : RfR I A many s) (hv : SaV s) {l src : Int32} (hs : ofS s.1 src ≠ []) {p : Int32 × Int32} (hp : p ∈ s.2.1) : stF A many l src p = !selS s.1 l src p := by
  unfold stF selS
  rw [h.sel hv (hv.2.2.1 p hp).1 hs]
  by_cases hz : p.1 = src
  · rw [decide_eq_true hz, decide_eq_false (p := ¬ p.1 = src) (fun z => z hz), Bool.and_false, Bool.true_or]; rfl
  · rw [decide_eq_false hz, decide_eq_true (p := ¬ p.1 = src) hz, Bool.and_true, Bool.false_or]
theorem RfR.tk (h : RfR I A many s) (hv : SaV s) {l src : Int32} (hs : (src, l) ∈ s.2.1) {e : Nat} (he : e < many) : tkF A many l src s.2.1 e = takS s l src (nrmE (entA A e)) := by
  have hne := (hv.2.2.1 _ hs).1
  have hF : eF (nrmE (entA A e)) = A 22 e := (nrm_S _).2.2.2.2.2
  have key : tkF A many l src s.2.1 e = true ↔ takS s l src (nrmE (entA A e)) = true := by
    unfold tkF takS
    rw [hF, Bool.or_eq_true, decide_eq_true_iff, List.any_eq_true, List.any_eq_true]
    constructor
    · rintro (z | ⟨p, hp, z⟩)
      · refine ⟨_, hs, ?_⟩
        unfold selS
        rw [decide_eq_true (show (src, l).1 = src from rfl), Bool.true_or, Bool.true_and]
        exact decide_eq_true z.symm
      · rw [Bool.and_eq_true, decide_eq_true_iff, h.sel hv (hv.2.2.1 p hp).1 hne] at z
        refine ⟨p, hp, ?_⟩
        rw [Bool.and_eq_true, decide_eq_true_iff]
        unfold selS
        rw [z.1, Bool.or_true]
        exact ⟨rfl, z.2.symm⟩
    · rintro ⟨p, hp, z⟩
      rw [Bool.and_eq_true, decide_eq_true_iff] at z
      unfold selS at z
      by_cases hz : p.1 = src
      · exact Or.inl (z.2.symm.trans hz)
      · refine Or.inr ⟨p, hp, ?_⟩
        rw [decide_eq_false hz, Bool.false_or] at z
        rw [Bool.and_eq_true, decide_eq_true_iff, h.sel hv (hv.2.2.1 p hp).1 hne]
        exact ⟨z.1, z.2.symm⟩
  cases hx : tkF A many l src s.2.1 e with
  | true => exact (key.mp hx).symm
  | false =>
    cases hy : takS s l src (nrmE (entA A e)) with
    | false => rfl
    | true => rw [key.mpr hy] at hx; cases hx
theorem ins_pm {bf : Nat → Nat → Bool} {e : Nat} : ∀ {l : List Nat}, (insR bf e l).Perm (e :: l)
  | [] => List.Perm.refl _
  | y :: l => by
    unfold insR
    split
    · exact (ins_pm.cons y).trans (List.Perm.swap _ _ _)
    · exact List.Perm.refl _
theorem srt_pm {bf : Nat → Nat → Bool} {tk : Nat → Bool} : ∀ {e : Nat}, (srtR bf tk e).Perm ((List.range e).filter tk)
  | 0 => List.Perm.refl _
  | e + 1 => by
    unfold srtR
    rw [List.range_succ, List.filter_append]
    by_cases h : tk e = true
    · rw [if_pos h, List.filter_cons_of_pos h]
      exact ins_pm.trans ((srt_pm.cons e).trans (List.perm_append_singleton _ _).symm)
    · rw [if_neg h, List.filter_cons_of_neg h, List.filter_nil, List.append_nil]
      exact srt_pm
theorem ins_so {bf : Nat → Nat → Bool} {e : Nat} (htr : ∀ a b c, bf a b = true → bf b c = true → bf a c = true) : ∀ {l : List Nat}, l.Pairwise (fun x y => bf y x = true) → (∀ y ∈ l, bf e y = true ∨ bf y e = true) → (insR bf e l).Pairwise (fun x y => bf y x = true)
  | [], _, _ => List.pairwise_singleton _ _
  | y :: l, h, ht => by
    obtain ⟨h1, h2⟩ := List.pairwise_cons.mp h
    unfold insR
    by_cases hb : bf e y = true
    · rw [if_pos hb]
      refine List.pairwise_cons.mpr ⟨fun z hz => ?_, ins_so htr h2 (fun z hz => ht z (List.mem_cons_of_mem _ hz))⟩
      rcases List.mem_cons.mp (ins_pm.mem_iff.mp hz) with rfl | hz
      · exact hb
      · exact h1 z hz
    · rw [if_neg hb]
      have hye := (ht y List.mem_cons_self).resolve_left hb
      refine List.pairwise_cons.mpr ⟨fun z hz => ?_, h⟩
      rcases List.mem_cons.mp hz with rfl | hz
      · exact hye
      · exact htr _ _ _ (h1 z hz) hye
theorem ins_cg {bf bf' : Nat → Nat → Bool} {e : Nat} : ∀ {l : List Nat}, (∀ y ∈ l, bf e y = bf' e y) → insR bf e l = insR bf' e l
  | [], _ => rfl
  | y :: l, h => by
    unfold insR
    rw [h y List.mem_cons_self, ins_cg (fun z hz => h z (List.mem_cons_of_mem _ hz))]
theorem RfR.srt (h : RfR I A many s) (hv : SaV s) {il : List Nat} (h1 : il.Perm (List.range many)) (h2 : il.map (fun e => nrmE (entA A e)) = s.1) (tk : Nat → Bool) : (srtR (bfB (A 16) (A 17) (A 18) (A 19)) tk many).reverse = il.filter tk := by
  have hin : ∀ e ∈ il, e < many := fun e he => List.mem_range.mp (h1.mem_iff.mp he)
  have hsi : il.Pairwise (fun x y => bfB (A 16) (A 17) (A 18) (A 19) x y = true) := by
    have := hv.1
    rw [← h2, List.pairwise_map] at this
    refine List.Pairwise.imp_of_mem (fun {x y} hx hy z => ?_) this
    rw [h.bf hv (hin x hx) (hin y hy)]
    rw [bfE_nrm] at z
    exact z
  have hss : ∀ e, e ≤ many → (srtR (bfB (A 16) (A 17) (A 18) (A 19)) tk e).Pairwise (fun x y => bfE (entA A y) (entA A x) = true) := by
    intro e
    induction e with
    | zero => intro _; exact List.Pairwise.nil
    | succ e ih =>
      intro he
      unfold srtR
      split
      · have hlt : ∀ y ∈ srtR (bfB (A 16) (A 17) (A 18) (A 19)) tk e, y < e := fun y hy => (srtR_mem.mp hy).1
        have hI : (srtR (bfB (A 16) (A 17) (A 18) (A 19)) tk e).Pairwise (fun x y => (fun a b => bfE (entA A a) (entA A b)) y x = true) := ih (by omega)
        have hcg : insR (bfB (A 16) (A 17) (A 18) (A 19)) e (srtR (bfB (A 16) (A 17) (A 18) (A 19)) tk e) = insR (fun a b => bfE (entA A a) (entA A b)) e (srtR (bfB (A 16) (A 17) (A 18) (A 19)) tk e) := ins_cg (fun y hy => h.bf hv (show e < many by omega) (by have := hlt y hy; omega))
        rw [hcg]
        exact ins_so (bf := fun a b => bfE (entA A a) (entA A b)) (fun a b c h1 h2 => bfE_trans h1 h2) hI (fun y hy => by
          have hye := hlt y hy
          exact h.inj hv (show e < many by omega) (show y < many by omega) (by omega))
      · exact ih (by omega)
  refine List.Perm.eq_of_pairwise (le := fun x y => bfE (entA A x) (entA A y) = true) (fun a b _ _ z1 z2 => (bfE_asym z1 z2).elim) ?_ ?_ ?_
  · rw [List.pairwise_reverse]; exact hss many (Nat.le_refl _)
  · refine List.Pairwise.filter _ (List.Pairwise.imp_of_mem (fun {x y} hx hy z => ?_) hsi)
    rw [h.bf hv (hin x hx) (hin y hy)] at z
    exact z
  · exact (List.reverse_perm _).trans (srt_pm.trans (h1.symm.filter _))
end R95
