section M36
variable {X : CX} {d : Nat} {K : Nat → Nat} {I : Nat → Nat → Int32} {J : Nat → Nat → Int64} {R : Nat → Nat → Option Nat} {A : Nat → Nat → Int32} {B : Nat → Nat → Option Nat} {Ln : Nat → Nat} {n sl : Nat}
/-- whether a query finds key k -/
def hitB (A : Nat → Nat → Int32) (many t : Nat) (ex : EX) (k : Nat) : Bool := rfO A t k many && decide (vlE (rfV A t k many) ex = 1)
def RLq (A : Nat → Nat → Int32) (many t : Nat) (ex : EX) (k : Nat) : List Nat := (List.range k).filter (hitB A many t ex)
theorem RLq_yes {A : Nat → Nat → Int32} {many t : Nat} {ex : EX} {k : Nat} (h : hitB A many t ex k = true) : RLq A many t ex (k + 1) = RLq A many t ex k ++ [k] := by
  unfold RLq
  rw [List.range_succ, List.filter_append]
  simp [h]
theorem RLq_no {A : Nat → Nat → Int32} {many t : Nat} {ex : EX} {k : Nat} (h : hitB A many t ex k = false) : RLq A many t ex (k + 1) = RLq A many t ex k := by
  unfold RLq
  rw [List.range_succ, List.filter_append]
  simp [h]
theorem RLq_len {A : Nat → Nat → Int32} {many t : Nat} {ex : EX} {k : Nat} : (RLq A many t ex k).length ≤ k := by
  unfold RLq
  exact Nat.le_trans (List.length_filter_le _ _) (by rw [List.length_range]; exact Nat.le_refl k)
theorem rf_same {A A0 : Nat → Nat → Int32} (h : ∀ i, i ∉ [29, 30, 31] → A i = A0 i) {t k many : Nat} : rfO A t k many = rfO A0 t k many ∧ ∀ f, rfV A t k many f = rfV A0 t k many f := by
  have hr : ∀ x y, raN A x y many = raN A0 x y many := fun x y => by
    unfold raN
    rw [seenN_congr many (fun j _ => by unfold entA; rw [h 16 (by decide), h 17 (by decide), h 18 (by decide), h 19 (by decide), h 20 (by decide), h 21 (by decide), h 22 (by decide)]), h 20 (by decide)]
  have hw : ∀ o f, rwV A o f = rwV A0 o f := fun o f => by
    unfold rwV
    rw [h 21 (by decide)]
  refine ⟨?_, fun f => ?_⟩
  · unfold rfO
    rw [h 27 (by decide), h 26 (by decide), hr]
  · unfold rfV
    rw [h 27 (by decide), h 26 (by decide), h 28 (by decide), hr, hw]
/-- the results so far -/
def DAq (A0 A : Nat → Nat → Int32) (l : List Nat) : Prop := (∀ i, i ∉ [29, 30, 31] → A i = A0 i) ∧ ∀ j v, l[j]? = some v → A 31 j = nI v
theorem DAq.row {A0 A A' : Nat → Nat → Int32} {l : List Nat} (h : DAq A0 A l) (h1 : ∀ i, i ∉ [29, 30] → A' i = A i) : DAq A0 A' l := by
  refine ⟨fun i hi => ?_, fun j v hj => by rw [h1 31 (by decide)]; exact h.2 j v hj⟩
  rw [h1 i (fun z => hi (by simp only [List.mem_cons, List.not_mem_nil, or_false] at z ⊢; omega))]
  exact h.1 i hi
theorem DAq.add {A0 A : Nat → Nat → Int32} {l : List Nat} {k : Nat} (h : DAq A0 A l) : DAq A0 (u2 A 31 l.length (nI k)) (l ++ [k]) := by
  refine ⟨fun i hi => ?_, fun j v hj => ?_⟩
  · rw [u2_row' (fun z => hi (by rw [z]; decide))]
    exact h.1 i hi
  · have hl := (List.getElem?_eq_some_iff.mp hj).1
    rw [List.length_append] at hl
    by_cases hjl : j < l.length
    · rw [List.getElem?_append_left hjl] at hj
      rw [u2_ne2 (by omega)]
      exact h.2 j v hj
    · have ej : j = l.length := by simp at hl; omega
      subst ej
      simp at hj
      subst hj
      exact u2_self
set_option maxRecDepth 100000 in
set_option maxHeartbeats 4000000 in
theorem lp_qd {Q : Option LV → GH → Prop} (hM : MFix K R Ln) {A0 : Nat → Nat → Int32} {t e many : Nat} {ex : EX} (ht : t < 60) (hm : I 582 11 = nI many) (hbm : many ≤ 520) (he : e < 11) (hE : ExA A0 e ex) (hT : TreeE ex) (hn2 : ∀ k, k < 32 → ∃ nm, nm < 2147483648 ∧ rfV A0 t k many 2 = nI nm) (kont : ∀ A w3 w4, DAq A0 A (RLq A0 many t ex 32) → Ev X mX9_query (d + 3) 346 [some (rV (some 11)), some (iV (nI t)), some (iV (nI e)), w3, w4] [] (K, u2 I 603 11 (nI (RLq A0 many t ex 32).length), J, R, A, B, Ln, n, sl) Q) : ∀ (g k : Nat) (A : Nat → Nat → Int32) (w4 : Option LV), k + g = 32 → DAq A0 A (RLq A0 many t ex k) → Ev X mX9_query (d + 3) 296 [some (rV (some 11)), some (iV (nI t)), some (iV (nI e)), some (iV (nI (k))), w4] [] (K, u2 I 603 11 (nI (RLq A0 many t ex k).length), J, R, A, B, Ln, n, sl) Q := by
  intro g
  induction g with
  | zero =>
    intro k A w4 hg hD
    have e2 : k = 32 := by omega
    subst e2
    refine ev_iload_n dX9_query_296 rfl ?_
    refine ev_bipushN 32 dX9_query_297 (by decide) ?_
    refine ev_icmp_geN 346 dX9_query_299 (by decide) (by omega) (by omega) (fun c299 => ?_) (fun c299 => absurd c299 (by omega))
    exact kont A _ _ hD
  | succ g ih =>
    intro k A w4 hg hD
    have hk32 : k < 32 := by omega
    have hlen := RLq_len (A := A0) (many := many) (t := t) (ex := ex) (k := k)
    obtain ⟨nm, hnb, hnm⟩ := hn2 k hk32
    have hrf := rf_same (t := t) (k := k) (many := many) hD.1
    have hsr := sp_rowFor (X := X) (d := d) (I := u2 I 603 11 (nI (RLq A0 many t ex k).length)) (J := J) (A := A) (B := B) (n := n) (sl := sl) hM ((u2_ne1 (by decide)).trans hm) hbm ht hk32
    rw [hrf.1] at hsr
    have k340 : ∀ (A' : Nat → Nat → Int32) (w4 : Option LV), DAq A0 A' (RLq A0 many t ex (k + 1)) → Ev X mX9_query (d + 3) 340 [some (rV (some 11)), some (iV (nI t)), some (iV (nI e)), some (iV (nI (k))), w4] [] (K, u2 I 603 11 (nI (RLq A0 many t ex (k + 1)).length), J, R, A', B, Ln, n, sl) Q := by
      intro A' w4 hD'
      refine ev_iincNS (b := 1) dX9_query_340 rfl (by decide) (by decide) rfl ?_
      refine ev_goto 296 dX9_query_343 (by decide) ?_
      exact ih (k + 1) A' _ (by omega) hD'
    cases hro : rfO A0 t k many with
    | false =>
      rw [hro] at hsr
      rw [RLq_no (show hitB A0 many t ex k = false by unfold hitB; rw [hro]; rfl)] at k340
      refine ev_iload_n dX9_query_296 rfl ?_
      refine ev_bipushN 32 dX9_query_297 (by decide) ?_
      refine ev_icmp_geN 346 dX9_query_299 (by decide) (by omega) (by omega) (fun c299 => absurd c299 (by omega)) (fun c299 => ?_)
      refine ev_aload_n dX9_query_302 rfl ?_
      refine ev_iload_n dX9_query_303 rfl ?_
      refine ev_iload_n dX9_query_304 rfl ?_
      refine ev_callV dX9_query_305 okX9_rowFor inX9_rowFor seX9_rowFor mlX9_129 hM.m (by decide) rfl [iV _, iV _] rfl rfl (Nat.le_of_ble_eq_true rfl) (Nat.le_of_ble_eq_true rfl) (hsr) (fun r_ G_ h_ => ?_)
      obtain ⟨A1, rfl, rfl, a1, a1r⟩ := h_
      have hD1 : DAq A0 A1 (RLq A0 many t ex k) := hD.row (fun i hi => a1 i (fun z => hi (by rw [z]; decide)))
      have r1 : ∀ f, f < 3 → A1 29 f = rfV A0 t k many f := fun f hf => (a1r f hf).trans (hrf.2 f)
      try dsimp only [Option.toList, List.cons_append, List.nil_append]
      refine ev_if_eq 340 dX9_query_308 (by decide) (fun c308 => ?_) (fun c308 => absurd c308 (fun z => z rfl))
      exact k340 A1 _ hD1
    | true =>
      rw [hro] at hsr
      by_cases hv : vlE (rfV A0 t k many) ex = 1
      · rw [RLq_yes (show hitB A0 many t ex k = true by unfold hitB; rw [hro, decide_eq_true hv]; rfl), List.length_append] at k340
        refine ev_iload_n dX9_query_296 rfl ?_
        refine ev_bipushN 32 dX9_query_297 (by decide) ?_
        refine ev_icmp_geN 346 dX9_query_299 (by decide) (by omega) (by omega) (fun c299 => absurd c299 (by omega)) (fun c299 => ?_)
        refine ev_aload_n dX9_query_302 rfl ?_
        refine ev_iload_n dX9_query_303 rfl ?_
        refine ev_iload_n dX9_query_304 rfl ?_
        refine ev_callV dX9_query_305 okX9_rowFor inX9_rowFor seX9_rowFor mlX9_129 hM.m (by decide) rfl [iV _, iV _] rfl rfl (Nat.le_of_ble_eq_true rfl) (Nat.le_of_ble_eq_true rfl) (hsr) (fun r_ G_ h_ => ?_)
        obtain ⟨A1, rfl, rfl, a1, a1r⟩ := h_
        have hD1 : DAq A0 A1 (RLq A0 many t ex k) := hD.row (fun i hi => a1 i (fun z => hi (by rw [z]; decide)))
        have r1 : ∀ f, f < 3 → A1 29 f = rfV A0 t k many f := fun f hf => (a1r f hf).trans (hrf.2 f)
        try dsimp only [Option.toList, List.cons_append, List.nil_append]
        refine ev_if_eq 340 dX9_query_308 (by decide) (fun c308 => absurd c308 (by decide)) (fun c308 => ?_)
        refine ev_aload_n dX9_query_311 rfl ?_
        refine ev_iload_n dX9_query_312 rfl ?_
        refine ev_callV dX9_query_313 okX9_value inX9_value seX9_value mlX9_132 hM.m (by decide) rfl [iV _] rfl rfl (Nat.le_of_ble_eq_true rfl) (Nat.le_of_ble_eq_true rfl) (sp_value (d := d + 1) hM he (hE.congr (hD1.1 12 (by decide)) (hD1.1 13 (by decide)) (hD1.1 14 (by decide))) hT.1 hT.2 ((r1 2 (by decide)).trans hnm) hnb) (fun r_ G_ h_ => ?_)
        obtain ⟨A2, rfl, rfl, a2⟩ := h_
        have hD2 : DAq A0 A2 (RLq A0 many t ex k) := hD1.row (fun i hi => a2 i (fun z => hi (by rw [z]; decide)))
        rw [show (evE (A1 29) ex []).headD 0 = vlE (rfV A0 t k many) ex by unfold vlE; rw [evE_congr r1]]
        try dsimp only [Option.toList, List.cons_append, List.nil_append]
        refine ev_iconstN 1 dX9_query_316 (by decide) ?_
        refine ev_icmp_ne (y := 1) 340 dX9_query_317 (by decide) (fun c317 => absurd hv c317) (fun c317 => ?_)
        refine ev_aload_n dX9_query_320 rfl ?_
        refine ev_getR dX9_query_321 fX9_68 hM.m hM.R_results ?_
        refine ev_aload_n dX9_query_324 rfl ?_
        refine ev_getIv dX9_query_325 fX9_252 hM.m u2_self ?_
        refine ev_iload_n dX9_query_328 rfl ?_
        refine ev_iast dX9_query_329 hM.K_results hM.L_results (by decide) (by omega) ?_
        refine ev_aload_n dX9_query_330 rfl ?_
        refine ev_dup dX9_query_331 rfl ?_
        refine ev_getIv dX9_query_332 fX9_252 hM.m u2_self ?_
        refine ev_iconstN 1 dX9_query_335 (by decide) ?_
        refine ev_iaddN dX9_query_336 ?_
        refine ev_putI dX9_query_337 fX9_252 (Or.inl rfl) (Or.inl rfl) hM.m ?_
        rw [u2_u2]
        exact k340 _ _ hD2.add
      · rw [RLq_no (show hitB A0 many t ex k = false by unfold hitB; rw [hro, decide_eq_false hv]; rfl)] at k340
        refine ev_iload_n dX9_query_296 rfl ?_
        refine ev_bipushN 32 dX9_query_297 (by decide) ?_
        refine ev_icmp_geN 346 dX9_query_299 (by decide) (by omega) (by omega) (fun c299 => absurd c299 (by omega)) (fun c299 => ?_)
        refine ev_aload_n dX9_query_302 rfl ?_
        refine ev_iload_n dX9_query_303 rfl ?_
        refine ev_iload_n dX9_query_304 rfl ?_
        refine ev_callV dX9_query_305 okX9_rowFor inX9_rowFor seX9_rowFor mlX9_129 hM.m (by decide) rfl [iV _, iV _] rfl rfl (Nat.le_of_ble_eq_true rfl) (Nat.le_of_ble_eq_true rfl) (hsr) (fun r_ G_ h_ => ?_)
        obtain ⟨A1, rfl, rfl, a1, a1r⟩ := h_
        have hD1 : DAq A0 A1 (RLq A0 many t ex k) := hD.row (fun i hi => a1 i (fun z => hi (by rw [z]; decide)))
        have r1 : ∀ f, f < 3 → A1 29 f = rfV A0 t k many f := fun f hf => (a1r f hf).trans (hrf.2 f)
        try dsimp only [Option.toList, List.cons_append, List.nil_append]
        refine ev_if_eq 340 dX9_query_308 (by decide) (fun c308 => absurd c308 (by decide)) (fun c308 => ?_)
        refine ev_aload_n dX9_query_311 rfl ?_
        refine ev_iload_n dX9_query_312 rfl ?_
        refine ev_callV dX9_query_313 okX9_value inX9_value seX9_value mlX9_132 hM.m (by decide) rfl [iV _] rfl rfl (Nat.le_of_ble_eq_true rfl) (Nat.le_of_ble_eq_true rfl) (sp_value (d := d + 1) hM he (hE.congr (hD1.1 12 (by decide)) (hD1.1 13 (by decide)) (hD1.1 14 (by decide))) hT.1 hT.2 ((r1 2 (by decide)).trans hnm) hnb) (fun r_ G_ h_ => ?_)
        obtain ⟨A2, rfl, rfl, a2⟩ := h_
        have hD2 : DAq A0 A2 (RLq A0 many t ex k) := hD1.row (fun i hi => a2 i (fun z => hi (by rw [z]; decide)))
        rw [show (evE (A1 29) ex []).headD 0 = vlE (rfV A0 t k many) ex by unfold vlE; rw [evE_congr r1]]
        try dsimp only [Option.toList, List.cons_append, List.nil_append]
        refine ev_iconstN 1 dX9_query_316 (by decide) ?_
        refine ev_icmp_ne (y := 1) 340 dX9_query_317 (by decide) (fun c317 => ?_) (fun c317 => absurd c317 hv)
        exact k340 A2 _ hD2
theorem candB_congr {A A' : Nat → Nat → Int32} (h : ∀ i, i ≠ 30 → A' i = A i) {many t : Nat} {p : PP} : candB A' many t p = candB A many t p := by
  funext x
  unfold candB mineB
  rw [h 16 (by decide), h 17 (by decide), h 18 (by decide), h 20 (by decide), h 26 (by decide), seenN_congr many (fun j _ => by unfold entA; rw [h 16 (by decide), h 17 (by decide), h 18 (by decide), h 19 (by decide), h 20 (by decide), h 21 (by decide), h 22 (by decide)])]
set_option maxRecDepth 100000 in
set_option maxHeartbeats 4000000 in
theorem sp_query (hM : MFix K R Ln) {t e ixn many : Nat} {ie : Nat → EX} {ex : EX} {tn : Nat} (ht : I 595 11 = nI tn) (hb : tn ≤ 60) (hj : t < tn) (hs : A 25 t = 1) (hp : I 576 11 = nI (e + 1)) (he8 : e < 8) (hbo : ¬ A 15 e = 0) (hm : I 582 11 = nI many) (hbm : many ≤ 520) (hix : I 577 11 = nI ixn) (hi3 : ixn ≤ 3) (hE : ExA A e ex) (hT : TreeE ex) (hI : ∀ i, i < ixn → ExA A (8 + i) (ie i) ∧ TreeE (ie i)) (hn2 : ∀ k, k < 32 → ∃ nm, nm < 2147483648 ∧ rfV A t k many 2 = nI nm) : EvM X mX9_query (d + 4) [rV (some 11), iV (nI t)] (K, I, J, R, A, B, Ln, n, sl) (fun r G' => r = some (iV (nI (RLq A many t ex 32).length)) ∧ ∃ p I' J' A', G' = (K, I', J', R, A', B, Ln, n, sl) ∧ PlanR ie ex ixn p ∧ I' 604 11 = oI p.1 ∧ J' 606 11 = p.2.1 ∧ J' 607 11 = p.2.2 ∧ I' 605 11 = nI (cnt (candB A many t p) many) ∧ I' 603 11 = nI (RLq A many t ex 32).length ∧ I' 576 11 = nI e ∧ (∀ f i, ¬ (i = 11 ∧ (f = 604 ∨ f = 608 ∨ f = 605 ∨ f = 603 ∨ f = 576)) → I' f i = I f i) ∧ (∀ f i, ¬ (i = 11 ∧ (f = 606 ∨ f = 607 ∨ f = 609 ∨ f = 610)) → J' f i = J f i) ∧ DAq A A' (RLq A many t ex 32)) := by
  have k132 : ∀ I1 J1 A1 p w3 w4, PlanR ie ex ixn p → QB I J A I1 J1 A1 p → Ev X mX9_query (d + 4) 132 [some (rV (some 11)), some (iV (nI t)), some (iV (nI e)), w3, w4] [] (K, I1, J1, R, A1, B, Ln, n, sl) (fun r G' => r = some (iV (nI (RLq A many t ex 32).length)) ∧ ∃ p I' J' A', G' = (K, I', J', R, A', B, Ln, n, sl) ∧ PlanR ie ex ixn p ∧ I' 604 11 = oI p.1 ∧ J' 606 11 = p.2.1 ∧ J' 607 11 = p.2.2 ∧ I' 605 11 = nI (cnt (candB A many t p) many) ∧ I' 603 11 = nI (RLq A many t ex 32).length ∧ I' 576 11 = nI e ∧ (∀ f i, ¬ (i = 11 ∧ (f = 604 ∨ f = 608 ∨ f = 605 ∨ f = 603 ∨ f = 576)) → I' f i = I f i) ∧ (∀ f i, ¬ (i = 11 ∧ (f = 606 ∨ f = 607 ∨ f = 609 ∨ f = 610)) → J' f i = J f i) ∧ DAq A A' (RLq A many t ex 32)) := by
    intro I1 J1 A1 p w3 w4 hP hQ
    obtain ⟨⟨hu, hlo, hhi⟩, hF, hG, hA⟩ := hQ
    have hm1 : I1 582 11 = nI many := (hF 582 11 (by omega)).trans hm
    have hD0 : ∀ k f, rfV A1 t k many f = rfV A t k many f := fun k f => (rf_same (A := A1) (A0 := A) (fun i hi => hA i (fun z => hi (by rw [z]; decide)))).2 f
    have hO0 : ∀ k, rfO A1 t k many = rfO A t k many := fun k => (rf_same (A := A1) (A0 := A) (fun i hi => hA i (fun z => hi (by rw [z]; decide)))).1
    have hRL : RLq A1 many t ex 32 = RLq A many t ex 32 := by
      unfold RLq
      exact congrArg (fun F => (List.range 32).filter F) (funext (fun k => by unfold hitB vlE; rw [hO0, evE_congr (fun f _ => hD0 k f)]))
    have k346 : ∀ (A2 : Nat → Nat → Int32) (w3 w4 : Option LV), DAq A1 A2 (RLq A1 many t ex 32) → Ev X mX9_query (d + 4) 346 [some (rV (some 11)), some (iV (nI t)), some (iV (nI e)), w3, w4] [] (K, u2 (u2 (u2 I1 605 11 (nI 0)) 605 11 (nI (cnt (candB A1 many t p) many))) 603 11 (nI (RLq A1 many t ex 32).length), J1, R, A2, B, Ln, n, sl) (fun r G' => r = some (iV (nI (RLq A many t ex 32).length)) ∧ ∃ p I' J' A', G' = (K, I', J', R, A', B, Ln, n, sl) ∧ PlanR ie ex ixn p ∧ I' 604 11 = oI p.1 ∧ J' 606 11 = p.2.1 ∧ J' 607 11 = p.2.2 ∧ I' 605 11 = nI (cnt (candB A many t p) many) ∧ I' 603 11 = nI (RLq A many t ex 32).length ∧ I' 576 11 = nI e ∧ (∀ f i, ¬ (i = 11 ∧ (f = 604 ∨ f = 608 ∨ f = 605 ∨ f = 603 ∨ f = 576)) → I' f i = I f i) ∧ (∀ f i, ¬ (i = 11 ∧ (f = 606 ∨ f = 607 ∨ f = 609 ∨ f = 610)) → J' f i = J f i) ∧ DAq A A' (RLq A many t ex 32)) := by
      intro A2 w3 w4 hD
      have hp2 : u2 (u2 (u2 I1 605 11 (nI 0)) 605 11 (nI (cnt (candB A1 many t p) many))) 603 11 (nI (RLq A1 many t ex 32).length) 576 11 = nI (e + 1) := (u2_ne1 (by decide)).trans ((u2_ne1 (by decide)).trans ((u2_ne1 (by decide)).trans ((hF 576 11 (by omega)).trans hp)))
      refine ev_aload_n dX9_query_346 rfl ?_
      refine ev_dup dX9_query_347 rfl ?_
      refine ev_getIv dX9_query_348 fX9_85 hM.m hp2 ?_
      refine ev_iconstN 1 dX9_query_351 (by decide) ?_
      refine ev_isubN dX9_query_352 (by omega) ?_
      refine ev_putI dX9_query_353 fX9_85 (Or.inl rfl) (Or.inl rfl) hM.m ?_
      refine ev_aload_n dX9_query_356 rfl ?_
      refine ev_getIv dX9_query_357 fX9_252 hM.m ((u2_ne1 (by decide)).trans u2_self) ?_
      refine ev_ireturn dX9_query_360 rfl ?_
      refine ⟨by rw [hRL], p, _, J1, A2, rfl, hP, ?_, hlo, hhi, ?_, ?_, ?_, fun f i hf => ?_, hG, ?_⟩
      · exact (u2_ne1 (by decide)).trans ((u2_ne1 (by decide)).trans ((u2_ne1 (by decide)).trans ((u2_ne1 (by decide)).trans hu)))
      · rw [← candB_congr hA]
        exact (u2_ne1 (by decide)).trans ((u2_ne1 (by decide)).trans u2_self)
      · rw [← hRL]
        exact (u2_ne1 (by decide)).trans u2_self
      · exact u2_self
      · refine Eq.trans ?_ (hF f i (by omega))
        exact (if_neg (by omega)).trans ((if_neg (by omega)).trans ((if_neg (by omega)).trans (if_neg (by omega))))
      · rw [← hRL]
        refine ⟨fun i hi => ?_, hD.2⟩
        rw [hD.1 i hi]
        exact hA i (fun z => hi (by rw [z]; decide))
    have k289 : ∀ (w3 w4 : Option LV), Ev X mX9_query (d + 4) 289 [some (rV (some 11)), some (iV (nI t)), some (iV (nI e)), w3, w4] [] (K, u2 (u2 I1 605 11 (nI 0)) 605 11 (nI (cnt (candB A1 many t p) many)), J1, R, A1, B, Ln, n, sl) (fun r G' => r = some (iV (nI (RLq A many t ex 32).length)) ∧ ∃ p I' J' A', G' = (K, I', J', R, A', B, Ln, n, sl) ∧ PlanR ie ex ixn p ∧ I' 604 11 = oI p.1 ∧ J' 606 11 = p.2.1 ∧ J' 607 11 = p.2.2 ∧ I' 605 11 = nI (cnt (candB A many t p) many) ∧ I' 603 11 = nI (RLq A many t ex 32).length ∧ I' 576 11 = nI e ∧ (∀ f i, ¬ (i = 11 ∧ (f = 604 ∨ f = 608 ∨ f = 605 ∨ f = 603 ∨ f = 576)) → I' f i = I f i) ∧ (∀ f i, ¬ (i = 11 ∧ (f = 606 ∨ f = 607 ∨ f = 609 ∨ f = 610)) → J' f i = J f i) ∧ DAq A A' (RLq A many t ex 32)) := by
      intro w3 w4
      have h296 := fun w4 => lp_qd (X := X) (d := d + 1) (J := J1) (B := B) (n := n) (sl := sl) (I := u2 (u2 I1 605 11 (nI 0)) 605 11 (nI (cnt (candB A1 many t p) many))) (A0 := A1) (t := t) (e := e) (ex := ex) hM (show t < 60 by omega) ((u2_ne1 (by decide)).trans ((u2_ne1 (by decide)).trans hm1)) hbm (show e < 11 by omega) (hE.congr (hA 12 (by decide)) (hA 13 (by decide)) (hA 14 (by decide))) hT (fun k hk => by rw [hD0]; exact hn2 k hk) k346 32 0 A1 w4 (by omega) ⟨fun _ _ => rfl, fun j v hj => by cases hj⟩
      refine ev_aload_n dX9_query_289 rfl ?_
      refine ev_iconstN 0 dX9_query_290 (by decide) ?_
      refine ev_putI dX9_query_291 fX9_252 (Or.inl rfl) (Or.inl rfl) hM.m ?_
      refine ev_iconstN 0 dX9_query_294 (by decide) ?_
      refine ev_istore_nS dX9_query_295 (by decide) rfl ?_
      exact h296 _
    have h139 := fun w4 => lp_qc (X := X) (d := d + 3) (B := B) (n := n) (sl := sl) (A := A1) (I := u2 I1 605 11 (nI 0)) (J := J1) (p := p) (t := t) (e := e) hM (show t < 60 by omega) ((u2_ne1 (by decide)).trans hm1) hbm (fun j hj => by have := hP.lt j hj; omega) ((u2_ne1 (by decide)).trans hu) hlo hhi k289 many 0 w4 (by omega)
    rw [show u2 (u2 I1 605 11 (nI 0)) 605 11 (nI (cnt (candB A1 many t p) 0)) = u2 I1 605 11 (nI 0) from u2_u2] at h139
    refine ev_aload_n dX9_query_132 rfl ?_
    refine ev_iconstN 0 dX9_query_133 (by decide) ?_
    refine ev_putI dX9_query_134 fX9_249 (Or.inl rfl) (Or.inl rfl) hM.m ?_
    refine ev_iconstN 0 dX9_query_137 (by decide) ?_
    refine ev_istore_nS dX9_query_138 (by decide) rfl ?_
    exact h139 _
  show Ev X mX9_query (d + 4) 0 [some (rV (some 11)), some (iV (nI t)), none, none, none] [] (K, I, J, R, A, B, Ln, n, sl) _
  refine ev_aload_n dX9_query_0 rfl ?_
  refine ev_iload_n dX9_query_1 rfl ?_
  refine ev_callV dX9_query_2 okX9_open inX9_open seX9_open mlX9_123 hM.m (by decide) rfl [iV _] rfl rfl (Nat.le_of_ble_eq_true rfl) (Nat.le_of_ble_eq_true rfl) (sp_open_yes hM ht hb hj hs) (fun r_ G_ h_ => ?_)
  obtain ⟨rfl, rfl⟩ := h_
  try dsimp only [Option.toList, List.cons_append, List.nil_append]
  refine ev_if_eq 29 dX9_query_5 (by decide) (fun c5 => absurd c5 (by decide)) (fun c5 => ?_)
  refine ev_aload_n dX9_query_8 rfl ?_
  refine ev_getIv dX9_query_9 fX9_85 hM.m hp ?_
  refine ev_if_eqN 29 dX9_query_12 (by decide) (by omega) (fun c12 => absurd c12 (by omega)) (fun c12 => ?_)
  refine ev_aload_n dX9_query_15 rfl ?_
  refine ev_getR dX9_query_16 fX9_19 hM.m hM.R_bool ?_
  refine ev_aload_n dX9_query_19 rfl ?_
  refine ev_getIv dX9_query_20 fX9_85 hM.m hp ?_
  refine ev_iconstN 1 dX9_query_23 (by decide) ?_
  refine ev_isubN dX9_query_24 (by omega) ?_
  refine ev_zaldv dX9_query_25 hM.K_bool hM.L_bool (by decide) (by omega) rfl ?_
  refine ev_if_ne 31 dX9_query_26 (by decide) (fun c26 => ?_) (fun c26 => absurd c26 hbo)
  refine ev_aload_n dX9_query_31 rfl ?_
  refine ev_getIv dX9_query_32 fX9_85 hM.m hp ?_
  refine ev_iconstN 1 dX9_query_35 (by decide) ?_
  refine ev_isubN dX9_query_36 (by omega) ?_
  refine ev_istore_nS dX9_query_37 (by decide) rfl ?_
  refine ev_aload_n dX9_query_38 rfl ?_
  refine ev_iconst (-1) dX9_query_39 (by decide) ?_
  refine ev_putI dX9_query_40 fX9_71 (Or.inl rfl) (Or.inl rfl) hM.m ?_
  refine ev_aload_n dX9_query_43 rfl ?_
  refine ev_lconst 0 dX9_query_44 (by decide) ?_
  refine ev_putJ dX9_query_45 fX9_239 (Or.inl rfl) hM.m ?_
  refine ev_aload_n dX9_query_48 rfl ?_
  refine ev_lconst 0 dX9_query_49 (by decide) ?_
  refine ev_putJ dX9_query_50 fX9_242 (Or.inl rfl) hM.m ?_
  refine ev_iconstN 0 dX9_query_53 (by decide) ?_
  refine ev_istore_nS dX9_query_54 (by decide) rfl ?_
  exact lp_qb hM (I0 := I) (J0 := J) (A0 := A) (ie := ie) (ex := ex) hix hi3 (by omega) hE hT hI k132 ixn 0 _ _ A (none, 0, 0) none (by omega) rfl ⟨⟨u2_self, (u2_ne1 (by decide)).trans u2_self, u2_self⟩, fun f i hf => if_neg (by omega), fun f i hf => (if_neg (by omega)).trans (if_neg (by omega)), fun _ _ => rfl⟩
theorem sp_query_no (hM : MFix K R Ln) {tn pl : Nat} (ht : I 595 11 = nI tn) (hb : tn ≤ 60) (hp : I 576 11 = nI pl) (hp8 : pl ≤ 8) {t : Int32} (hs : (∀ j, j < tn → t = nI j → ¬ A 25 j = 1) ∨ pl = 0 ∨ A 15 (pl - 1) = 0) : EvM X mX9_query (d + 1) [rV (some 11), iV t] (K, I, J, R, A, B, Ln, n, sl) (fun r G' => r = some (iV (-1)) ∧ G' = (K, I, J, R, A, B, Ln, n, sl)) := by
  show Ev X mX9_query (d + 1) 0 [some (rV (some 11)), some (iV t), none, none, none] [] (K, I, J, R, A, B, Ln, n, sl) _
  by_cases hno : ∀ j, j < tn → t = nI j → ¬ A 25 j = 1
  · skip
    refine ev_aload_n dX9_query_0 rfl ?_
    refine ev_iload_n dX9_query_1 rfl ?_
    refine ev_callV dX9_query_2 okX9_open inX9_open seX9_open mlX9_123 hM.m (by decide) rfl [iV _] rfl rfl (Nat.le_of_ble_eq_true rfl) (Nat.le_of_ble_eq_true rfl) (sp_open_no hM ht hb hno) (fun r_ G_ h_ => ?_)
    obtain ⟨rfl, rfl⟩ := h_
    try dsimp only [Option.toList, List.cons_append, List.nil_append]
    refine ev_if_eq 29 dX9_query_5 (by decide) (fun c5 => ?_) (fun c5 => absurd c5 (fun z => z rfl))
    refine ev_iconst (-1) dX9_query_29 (by decide) ?_
    refine ev_ireturn dX9_query_30 rfl ?_
    exact ⟨rfl, rfl⟩
  · have hs2 := hs.resolve_left hno
    obtain ⟨j, hj⟩ := Classical.not_forall.mp hno
    obtain ⟨hjt, hj⟩ := Classical.not_imp.mp hj
    obtain ⟨rfl, hj2⟩ := Classical.not_imp.mp hj
    have ho := sp_open_yes (X := X) (d := d) (J := J) (B := B) (n := n) (sl := sl) hM ht hb hjt (Classical.not_not.mp hj2)
    refine ev_aload_n dX9_query_0 rfl ?_
    refine ev_iload_n dX9_query_1 rfl ?_
    refine ev_callV dX9_query_2 okX9_open inX9_open seX9_open mlX9_123 hM.m (by decide) rfl [iV _] rfl rfl (Nat.le_of_ble_eq_true rfl) (Nat.le_of_ble_eq_true rfl) (ho) (fun r_ G_ h_ => ?_)
    obtain ⟨rfl, rfl⟩ := h_
    try dsimp only [Option.toList, List.cons_append, List.nil_append]
    refine ev_if_eq 29 dX9_query_5 (by decide) (fun c5 => absurd c5 (by decide)) (fun c5 => ?_)
    refine ev_aload_n dX9_query_8 rfl ?_
    refine ev_getIv dX9_query_9 fX9_85 hM.m hp ?_
    refine ev_if_eqN 29 dX9_query_12 (by decide) (by omega) (fun c12 => ?_) (fun c12 => ?_)
    · refine ev_iconst (-1) dX9_query_29 (by decide) ?_
      refine ev_ireturn dX9_query_30 rfl ?_
      exact ⟨rfl, rfl⟩
    · refine ev_aload_n dX9_query_15 rfl ?_
      refine ev_getR dX9_query_16 fX9_19 hM.m hM.R_bool ?_
      refine ev_aload_n dX9_query_19 rfl ?_
      refine ev_getIv dX9_query_20 fX9_85 hM.m hp ?_
      refine ev_iconstN 1 dX9_query_23 (by decide) ?_
      refine ev_isubN dX9_query_24 (by omega) ?_
      refine ev_zald dX9_query_25 hM.K_bool hM.L_bool (by decide) (by omega) ?_
      refine ev_if_ne 31 dX9_query_26 (by decide) (fun c26 => absurd (hs2.resolve_left (by omega)) c26) (fun c26 => ?_)
      refine ev_iconst (-1) dX9_query_29 (by decide) ?_
      refine ev_ireturn dX9_query_30 rfl ?_
      exact ⟨rfl, rfl⟩
end M36
