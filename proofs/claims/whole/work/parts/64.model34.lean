section M34
variable {X : CX} {d : Nat} {K : Nat → Nat} {I : Nat → Nat → Int32} {J : Nat → Nat → Int64} {R : Nat → Nat → Option Nat} {A : Nat → Nat → Int32} {B : Nat → Nat → Option Nat} {Ln : Nat → Nat} {n sl : Nat}
abbrev PP : Type := Option Nat × Int64 × Int64
def plS (i : Nat) (st : SP) (p : PP) : PP := if st.1 = true ∧ (p.1 = none ∨ st.2.2 - st.2.1 < p.2.2 - p.2.1) then (some i, st.2.1, st.2.2) else p
/-- the plan after i indexes -/
def PlanR (ie : Nat → EX) (ex : EX) : Nat → PP → Prop
  | 0, p => p = (none, 0, 0)
  | i + 1, p => ∃ q st, PlanR ie ex i q ∧ Hear (ie i) ex (false, -2147483648, 2147483647) st ∧ p = plS i st q
theorem PlanR.lt {ie : Nat → EX} {ex : EX} : ∀ {i : Nat} {p : PP}, PlanR ie ex i p → ∀ j, p.1 = some j → j < i
  | 0, p, h, j, hj => by rw [show p = (none, 0, 0) from h] at hj; cases hj
  | i + 1, p, ⟨q, st, h, _, hp⟩, j, hj => by
    subst hp
    unfold plS at hj
    split at hj
    · cases hj; omega
    · have := h.lt j hj; omega
/-- the heap in the first loop of a query -/
def QB (I0 : Nat → Nat → Int32) (J0 : Nat → Nat → Int64) (A0 I : Nat → Nat → Int32) (J : Nat → Nat → Int64) (A : Nat → Nat → Int32) (p : PP) : Prop := (I 604 11 = oI p.1 ∧ J 606 11 = p.2.1 ∧ J 607 11 = p.2.2) ∧ (∀ f i, ¬ (i = 11 ∧ (f = 604 ∨ f = 608)) → I f i = I0 f i) ∧ (∀ f i, ¬ (i = 11 ∧ (f = 606 ∨ f = 607 ∨ f = 609 ∨ f = 610)) → J f i = J0 f i) ∧ ∀ i, i ≠ 30 → A i = A0 i
theorem u2_u2 {α : Type} {g : Nat → Nat → α} {a b : Nat} {v z : α} : u2 (u2 g a b v) a b z = u2 g a b z := by
  funext i j
  unfold u2
  split
  · rfl
  · rfl
theorem oI_eq {o : Option Nat} {e : Nat} (he : e < 520) (ho : ∀ b, o = some b → b < 520) : oI o = nI e ↔ o = some e := by
  cases o with
  | none =>
    constructor
    · intro h
      have h1 := congrArg Int32.toInt h
      rw [nI_toInt (by omega), show (oI none).toInt = -1 by decide] at h1
      omega
    · intro h; cases h
  | some b =>
    have hb := ho b rfl
    constructor
    · intro h
      have := congrArg Int32.toInt (show nI b = nI e from h)
      rw [nI_toInt (by omega), nI_toInt (by omega)] at this
      rw [show b = e by omega]
    · intro h; cases h; rfl
set_option maxRecDepth 100000 in
set_option maxHeartbeats 4000000 in
theorem qb_69 {Q : Option LV → GH → Prop} (hM : MFix K R Ln) {I0 A0 : Nat → Nat → Int32} {J0 : Nat → Nat → Int64} {t e i : Nat} (hi : i < 3) {p : PP} {st : SP} (hpl : ∀ j, p.1 = some j → j < i) {w4 : Option LV} (hu : I 604 11 = oI p.1) (hlo : J 606 11 = p.2.1) (hhi : J 607 11 = p.2.2) (hc1 : I 608 11 = bZ st.1) (hc2 : J 609 11 = st.2.1) (hc3 : J 610 11 = st.2.2) (hF : ∀ f i, ¬ (i = 11 ∧ (f = 604 ∨ f = 608)) → I f i = I0 f i) (hG : ∀ f i, ¬ (i = 11 ∧ (f = 606 ∨ f = 607 ∨ f = 609 ∨ f = 610)) → J f i = J0 f i) (hA : ∀ i, i ≠ 30 → A i = A0 i) (kont : ∀ I' J', QB I0 J0 A0 I' J' A (plS i st p) → Ev X mX9_query (d + 4) 126 [some (rV (some 11)), some (iV (nI t)), some (iV (nI e)), some (iV (nI i)), w4] [] (K, I', J', R, A, B, Ln, n, sl) Q) : Ev X mX9_query (d + 4) 69 [some (rV (some 11)), some (iV (nI t)), some (iV (nI e)), some (iV (nI i)), w4] [] (K, I, J, R, A, B, Ln, n, sl) Q := by
  have hno : ¬ (st.1 = true ∧ (p.1 = none ∨ st.2.2 - st.2.1 < p.2.2 - p.2.1)) → QB I0 J0 A0 I J A (plS i st p) := fun h => by
    unfold plS
    rw [if_neg h]
    exact ⟨⟨hu, hlo, hhi⟩, hF, hG, hA⟩
  have hup : st.1 = true → (p.1 = none ∨ st.2.2 - st.2.1 < p.2.2 - p.2.1) → QB I0 J0 A0 (u2 I 604 11 (nI i)) (u2 (u2 J 606 11 st.2.1) 607 11 st.2.2) A (plS i st p) := fun h1 h2 => by
    unfold plS
    rw [if_pos ⟨h1, h2⟩]
    refine ⟨⟨u2_self, (u2_ne1 (by decide)).trans u2_self, u2_self⟩, fun f i hf => ?_, fun f i hf => ?_, hA⟩
    · rw [← hF f i hf]
      exact if_neg (by omega)
    · rw [← hG f i hf]
      exact (if_neg (by omega)).trans (if_neg (by omega))
  obtain ⟨s1, s2, s3⟩ := st
  obtain ⟨u, lo, hi'⟩ := p
  cases s1 with
  | false =>
    refine ev_aload_n dX9_query_69 rfl ?_
    refine ev_getIv dX9_query_70 fX9_209 hM.m hc1 ?_
    refine ev_if_eq 126 dX9_query_73 (by decide) (fun c73 => ?_) (fun c73 => absurd c73 (fun z => z rfl))
    exact kont _ _ (hno (by first | (rintro ⟨z, -⟩; cases z; done) | (rintro ⟨-, z | z⟩ <;> first | exact hlt z | cases z)))
  | true =>
    cases u with
    | none =>
      have hu1 : I 604 11 = -1 := hu
      refine ev_aload_n dX9_query_69 rfl ?_
      refine ev_getIv dX9_query_70 fX9_209 hM.m hc1 ?_
      refine ev_if_eq 126 dX9_query_73 (by decide) (fun c73 => absurd c73 (show ¬ bZ true = 0 by decide)) (fun c73 => ?_)
      refine ev_aload_n dX9_query_76 rfl ?_
      refine ev_getIv dX9_query_77 fX9_71 hM.m hu1 ?_
      refine ev_if_lt 105 dX9_query_80 (by decide) (fun c80 => ?_) (fun c80 => absurd (by decide) c80)
      refine ev_aload_n dX9_query_105 rfl ?_
      refine ev_iload_n dX9_query_106 rfl ?_
      refine ev_putI dX9_query_107 fX9_71 (Or.inl rfl) (Or.inl rfl) hM.m ?_
      refine ev_aload_n dX9_query_110 rfl ?_
      refine ev_aload_n dX9_query_111 rfl ?_
      refine ev_getJv dX9_query_112 fX9_213 hM.m hc2 ?_
      refine ev_putJ dX9_query_115 fX9_239 (Or.inl rfl) hM.m ?_
      refine ev_aload_n dX9_query_118 rfl ?_
      refine ev_aload_n dX9_query_119 rfl ?_
      refine ev_getJv dX9_query_120 fX9_217 hM.m ((u2_ne1 (by decide)).trans hc3) ?_
      refine ev_putJ dX9_query_123 fX9_242 (Or.inl rfl) hM.m ?_
      exact kont _ _ (hup rfl (by first | exact Or.inl rfl | exact Or.inr hlt))
    | some j =>
      have hu1 : I 604 11 = nI j := hu
      have hj3 : j < 3 := by have := hpl j rfl; omega
      by_cases hlt : s3 - s2 < hi' - lo
      · skip
        refine ev_aload_n dX9_query_69 rfl ?_
        refine ev_getIv dX9_query_70 fX9_209 hM.m hc1 ?_
        refine ev_if_eq 126 dX9_query_73 (by decide) (fun c73 => absurd c73 (show ¬ bZ true = 0 by decide)) (fun c73 => ?_)
        refine ev_aload_n dX9_query_76 rfl ?_
        refine ev_getIv dX9_query_77 fX9_71 hM.m hu1 ?_
        refine ev_if_ltN 105 dX9_query_80 (by decide) (by omega) ?_
        refine ev_aload_n dX9_query_83 rfl ?_
        refine ev_getJv dX9_query_84 fX9_217 hM.m hc3 ?_
        refine ev_aload_n dX9_query_87 rfl ?_
        refine ev_getJv dX9_query_88 fX9_213 hM.m hc2 ?_
        refine ev_lsub dX9_query_91 ?_
        refine ev_aload_n dX9_query_92 rfl ?_
        refine ev_getJv dX9_query_93 fX9_242 hM.m hhi ?_
        refine ev_aload_n dX9_query_96 rfl ?_
        refine ev_getJv dX9_query_97 fX9_239 hM.m hlo ?_
        refine ev_lsub dX9_query_100 ?_
        refine ev_lcmp dX9_query_101 ?_
        refine ev_if_ge 126 dX9_query_102 (by decide) (fun c102 => absurd hlt (lgc_ge.mp c102)) (fun c102 => ?_)
        refine ev_aload_n dX9_query_105 rfl ?_
        refine ev_iload_n dX9_query_106 rfl ?_
        refine ev_putI dX9_query_107 fX9_71 (Or.inl rfl) (Or.inl rfl) hM.m ?_
        refine ev_aload_n dX9_query_110 rfl ?_
        refine ev_aload_n dX9_query_111 rfl ?_
        refine ev_getJv dX9_query_112 fX9_213 hM.m hc2 ?_
        refine ev_putJ dX9_query_115 fX9_239 (Or.inl rfl) hM.m ?_
        refine ev_aload_n dX9_query_118 rfl ?_
        refine ev_aload_n dX9_query_119 rfl ?_
        refine ev_getJv dX9_query_120 fX9_217 hM.m ((u2_ne1 (by decide)).trans hc3) ?_
        refine ev_putJ dX9_query_123 fX9_242 (Or.inl rfl) hM.m ?_
        exact kont _ _ (hup rfl (by first | exact Or.inl rfl | exact Or.inr hlt))
      · skip
        refine ev_aload_n dX9_query_69 rfl ?_
        refine ev_getIv dX9_query_70 fX9_209 hM.m hc1 ?_
        refine ev_if_eq 126 dX9_query_73 (by decide) (fun c73 => absurd c73 (show ¬ bZ true = 0 by decide)) (fun c73 => ?_)
        refine ev_aload_n dX9_query_76 rfl ?_
        refine ev_getIv dX9_query_77 fX9_71 hM.m hu1 ?_
        refine ev_if_ltN 105 dX9_query_80 (by decide) (by omega) ?_
        refine ev_aload_n dX9_query_83 rfl ?_
        refine ev_getJv dX9_query_84 fX9_217 hM.m hc3 ?_
        refine ev_aload_n dX9_query_87 rfl ?_
        refine ev_getJv dX9_query_88 fX9_213 hM.m hc2 ?_
        refine ev_lsub dX9_query_91 ?_
        refine ev_aload_n dX9_query_92 rfl ?_
        refine ev_getJv dX9_query_93 fX9_242 hM.m hhi ?_
        refine ev_aload_n dX9_query_96 rfl ?_
        refine ev_getJv dX9_query_97 fX9_239 hM.m hlo ?_
        refine ev_lsub dX9_query_100 ?_
        refine ev_lcmp dX9_query_101 ?_
        refine ev_if_ge 126 dX9_query_102 (by decide) (fun c102 => ?_) (fun c102 => absurd (Classical.not_not.mp (fun z => c102 (lgc_ge.mpr z))) hlt)
        exact kont _ _ (hno (by first | (rintro ⟨z, -⟩; cases z; done) | (rintro ⟨-, z | z⟩ <;> first | exact hlt z | cases z)))
set_option maxRecDepth 100000 in
set_option maxHeartbeats 4000000 in
theorem lp_qb {Q : Option LV → GH → Prop} (hM : MFix K R Ln) {I0 A0 : Nat → Nat → Int32} {J0 : Nat → Nat → Int64} {t e ixn : Nat} {ie : Nat → EX} {ex : EX} (hix : I0 577 11 = nI ixn) (hi3 : ixn ≤ 3) (he : e < 11) (hE : ExA A0 e ex) (hT : TreeE ex) (hI : ∀ i, i < ixn → ExA A0 (8 + i) (ie i) ∧ TreeE (ie i)) (kont : ∀ I J A p w3 w4, PlanR ie ex ixn p → QB I0 J0 A0 I J A p → Ev X mX9_query (d + 4) 132 [some (rV (some 11)), some (iV (nI t)), some (iV (nI e)), w3, w4] [] (K, I, J, R, A, B, Ln, n, sl) Q) : ∀ (g i : Nat) (I : Nat → Nat → Int32) (J : Nat → Nat → Int64) (A : Nat → Nat → Int32) (p : PP) (w4 : Option LV), i + g = ixn → PlanR ie ex i p → QB I0 J0 A0 I J A p → Ev X mX9_query (d + 4) 55 [some (rV (some 11)), some (iV (nI t)), some (iV (nI e)), some (iV (nI i)), w4] [] (K, I, J, R, A, B, Ln, n, sl) Q := by
  intro g
  induction g with
  | zero =>
    intro i I J A p w4 hg hP hQ
    have e2 : i = ixn := by omega
    subst e2
    have hix1 : I 577 11 = nI i := (hQ.2.1 577 11 (by omega)).trans hix
    refine ev_iload_n dX9_query_55 rfl ?_
    refine ev_aload_n dX9_query_56 rfl ?_
    refine ev_getIv dX9_query_57 fX9_100 hM.m hix1 ?_
    refine ev_icmp_geN 132 dX9_query_60 (by decide) (by omega) (by omega) (fun c60 => ?_) (fun c60 => absurd c60 (by omega))
    exact kont I J A p _ _ hP hQ
  | succ g ih =>
    intro i I J A p w4 hg hP hQ
    obtain ⟨⟨hu, hlo, hhi⟩, hF, hG, hA⟩ := hQ
    have hix1 : I 577 11 = nI ixn := (hF 577 11 (by omega)).trans hix
    have hcj := sp_conjs (X := X) (d := d) (I := I) (J := J) (B := B) (n := n) (sl := sl) (x := e) (i := i) (ex := ex) (ie := ie i) hM he (by omega) (hE.congr (hA 12 (by decide)) (hA 13 (by decide)) (hA 14 (by decide))) hT ((hI i (by omega)).1.congr (hA 12 (by decide)) (hA 13 (by decide)) (hA 14 (by decide))) (hI i (by omega)).2
    refine ev_iload_n dX9_query_55 rfl ?_
    refine ev_aload_n dX9_query_56 rfl ?_
    refine ev_getIv dX9_query_57 fX9_100 hM.m hix1 ?_
    refine ev_icmp_geN 132 dX9_query_60 (by decide) (by omega) (by omega) (fun c60 => absurd c60 (by omega)) (fun c60 => ?_)
    refine ev_aload_n dX9_query_63 rfl ?_
    refine ev_iload_n dX9_query_64 rfl ?_
    refine ev_iload_n dX9_query_65 rfl ?_
    refine ev_callV dX9_query_66 okX9_conjuncts inX9_conjuncts seX9_conjuncts mlX9_245 hM.m (by decide) rfl [iV _, iV _] rfl rfl (Nat.le_of_ble_eq_true rfl) (Nat.le_of_ble_eq_true rfl) (hcj) (fun r_ G_ h_ => ?_)
    obtain ⟨rfl, st, I1, J1, A1, rfl, hH, ⟨⟨c1, c2, c3⟩, c4, c5⟩, hA1⟩ := h_
    try dsimp only [Option.toList, List.cons_append, List.nil_append]
    refine qb_69 (I0 := I0) (J0 := J0) (A0 := A0) (p := p) (st := st) hM (by omega) hP.lt ((c4 604 11 (by omega)).trans hu) ((c5 606 11 (by omega)).trans hlo) ((c5 607 11 (by omega)).trans hhi) c1 c2 c3 (fun f i hf => (c4 f i (by omega)).trans (hF f i hf)) (fun f i hf => (c5 f i (by omega)).trans (hG f i hf)) (fun i hi => (hA1 i hi).trans (hA i hi)) ?_
    intro I2 J2 hQ2
    refine ev_iincNS (b := 1) dX9_query_126 rfl (by decide) (by decide) rfl ?_
    refine ev_goto 55 dX9_query_129 (by decide) ?_
    exact ih (i + 1) I2 J2 A1 _ _ (by omega) ⟨p, st, hP, hH, rfl⟩ hQ2
end M34
