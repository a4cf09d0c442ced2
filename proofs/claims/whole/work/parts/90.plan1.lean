theorem hear_ex {ie : EX} : ∀ (f : Nat) (c : EX), c.length ≤ f → TreeE c → ∀ st, ∃ st', Hear ie c st st'
  | 0, c, hf, h, st => absurd (List.length_eq_zero_iff.mp (Nat.le_zero.mp hf)) (tree_ne h)
  | f + 1, c, hf, h, st => by
    obtain ⟨q, on, hc, h12, h4, hx⟩ := tree_cases h
    obtain ⟨o, v⟩ := on
    by_cases h9 : o = 7 ∨ o = 8 ∨ o = 9
    · rcases hx with ⟨hn, -⟩ | ⟨hn, -⟩ | ⟨hn, a, b, rfl, ha, hb⟩
      · have := need_leaf hn
        simp only at this
        omega
      · have := need_one hn
        simp only at this
        omega
      · subst hc
        have hl : a.length ≤ f ∧ b.length ≤ f := by
          rw [List.length_append, List.length_append, List.length_singleton] at hf
          omega
        by_cases h99 : o = 9
        · subst h99
          obtain ⟨s1, e1⟩ := hear_ex f a hl.1 ha st
          obtain ⟨s2, e2⟩ := hear_ex f b hl.2 hb s1
          exact ⟨s2, Hear.and ha hb e1 e2⟩
        · exact ⟨_, Hear.cmp (by omega) ha hb⟩
    · subst hc
      exact ⟨st, Hear.other h9⟩
theorem hear_un {ie : EX} : ∀ {f g : Nat} {c : EX} {st s1 s2 : SP}, HearR ie f c st s1 → HearR ie g c st s2 → s1 = s2
  | 0, _, _, _, _, _, h, _ => h.elim
  | _ + 1, 0, _, _, _, _, _, h => h.elim
  | f + 1, g + 1, c, st, s1, s2, h1, h2 => by
    have key : ∀ {p p' : EX} {o o' : Nat} {v v' : Int32}, c = p ++ [(o, v)] → c = p' ++ [(o', v')] → p = p' ∧ o = o' := fun {p p' o o' v v'} z1 z2 => by
      rw [z1] at z2
      have := List.append_inj' z2 rfl
      cases this.2
      exact ⟨this.1, rfl⟩
    rcases h1 with ⟨a, b, v, e1, t1, t2, m, y1, y2⟩ | ⟨a, b, o, v, ho, e1, t1, t2, y⟩ | ⟨p, o, v, e1, ho, y⟩
    · rcases h2 with ⟨a', b', v', e1', t1', t2', m', y1', y2'⟩ | ⟨a', b', o', v', ho', e1', t1', t2', y'⟩ | ⟨p', o', v', e1', ho', y'⟩
      · obtain ⟨z1, -⟩ := key e1 e1'
        obtain ⟨z2, z3⟩ := tree_uniq t2 t2' z1
        subst z2 z3
        have := hear_un y1 y1'
        subst this
        exact hear_un y2 y2'
      · have := (key e1 e1').2; omega
      · have := (key e1 e1').2; omega
    · rcases h2 with ⟨a', b', v', e1', t1', t2', m', y1', y2'⟩ | ⟨a', b', o', v', ho', e1', t1', t2', y'⟩ | ⟨p', o', v', e1', ho', y'⟩
      · have := (key e1 e1').2; omega
      · obtain ⟨z1, z0⟩ := key e1 e1'
        obtain ⟨z2, z3⟩ := tree_uniq t2 t2' z1
        subst z2 z3 z0
        exact y.trans y'.symm
      · have := (key e1 e1').2; omega
    · rcases h2 with ⟨a', b', v', e1', t1', t2', m', y1', y2'⟩ | ⟨a', b', o', v', ho', e1', t1', t2', y'⟩ | ⟨p', o', v', e1', ho', y'⟩
      · have := (key e1 e1').2; omega
      · have := (key e1 e1').2; omega
      · exact y.trans y'.symm
theorem plan_un {ie : Nat → EX} {ex : EX} : ∀ {i : Nat} {p q : PP}, PlanR ie ex i p → PlanR ie ex i q → p = q
  | 0, p, q, h1, h2 => (show p = (none, 0, 0) from h1).trans (show q = (none, 0, 0) from h2).symm
  | i + 1, p, q, h1, h2 => by
    obtain ⟨p1, s1, a1, ⟨f, b1⟩, c1⟩ := h1
    obtain ⟨p2, s2, a2, ⟨g, b2⟩, c2⟩ := h2
    have z1 := plan_un a1 a2
    have z2 := hear_un b1 b2
    rw [c1, c2, z1, z2]
/-- the plan that the class keeps -/
def PlC (K : Nat → Nat) (I : Nat → Nat → Int32) (J : Nat → Nat → Int64) (R : Nat → Nat → Option Nat) (p : PP) : Prop := I 522 3 = oI p.1 ∧ ((p.1 = none ∧ R 523 3 = none) ∨ (p.1 ≠ none ∧ ∃ q, R 523 3 = some q ∧ K q = 2 ∧ J 129 q = p.2.1 ∧ J 130 q = p.2.2))
def CpF (K0 : Nat → Nat) (I0 : Nat → Nat → Int32) (J0 : Nat → Nat → Int64) (R0 : Nat → Nat → Option Nat) (n0 : Nat) (K : Nat → Nat) (I : Nat → Nat → Int32) (J : Nat → Nat → Int64) (R : Nat → Nat → Option Nat) (n : Nat) : Prop := n0 ≤ n ∧ ∀ i, i < n0 → K i = K0 i ∧ (∀ f, J f i = J0 f i) ∧ (∀ f, ¬ (i = 3 ∧ f = 522) → I f i = I0 f i) ∧ ∀ f, ¬ (i = 3 ∧ f = 523) → R f i = R0 f i
theorem CpF.expr {K0 K : Nat → Nat} {I0 I : Nat → Nat → Int32} {J0 J : Nat → Nat → Int64} {R0 R : Nat → Nat → Option Nat} {n0 n : Nat} (h : CpF K0 I0 J0 R0 n0 K I J R n) (hK : FrK K0 n0) (h3 : K0 3 = 8) {f i : Nat} {e : EX} (he : ExpR K0 I0 R0 f i e) : ExpR K I R f i e := he.congr (fun i hi => by
  have hin : i < n0 := by
    by_cases z : i < n0
    · exact z
    · have := hK i (by omega); omega
  obtain ⟨a1, a2, a3, a4⟩ := h.2 i hin
  exact ⟨a1.trans hi, fun f => a3 f (fun z => by rw [z.1, h3] at hi; omega), fun f => a4 f (fun z => by rw [z.1, h3] at hi; omega)⟩)
section C90
variable {X : CX} {d : Nat} {K : Nat → Nat} {I : Nat → Nat → Int32} {J : Nat → Nat → Int64} {R : Nat → Nat → Option Nat} {A : Nat → Nat → Int32} {B : Nat → Nat → Option Nat} {Ln : Nat → Nat} {n sl : Nat}
set_option maxRecDepth 100000 in
set_option maxHeartbeats 4000000 in
theorem lp_bs {Q : Option LV → GH → Prop} (hC : CFix K R Ln) {cs : List Nat} (hE : EnR K I B cs) (hO : SrtR I J cs) (hrk : RwK K R cs) {t : Nat} (hT : TxO K R B Ln t) {ixn : Nat} {ie : Nat → EX} (hX : IxR K I R B ixn ie) {la : Nat} (hl : I 519 3 = nI la) (hq : Q (some (iV (nI (bcL I J R A B cs t la ie ixn 32).length))) (K, I, J, R, A, B, Ln, n, sl)) : ∀ (g k : Nat), k + g = 32 → Ev X mX8_batchSize (d + 20) 4 [some (rV (some 3)), some (rV (some t)), some (iV (nI ((bcL I J R A B cs t la ie ixn k).length))), some (iV (nI (k)))] [] (K, I, J, R, A, B, Ln, n, sl) Q := by
  intro g
  induction g with
  | zero =>
    intro k hk
    have e1 : k = 32 := by omega
    subst e1
    refine ev_iload_n dX8_batchSize_4 rfl ?_
    refine ev_bipushN 32 dX8_batchSize_5 (by decide) ?_
    refine ev_icmp_geN 52 dX8_batchSize_7 (by decide) (by omega) (by omega) (fun c7 => ?_) (fun c7 => absurd c7 (by omega))
    refine ev_iload_n dX8_batchSize_52 rfl ?_
    refine ev_ireturn dX8_batchSize_53 rfl ?_
    exact hq
  | succ g ih =>
    intro k hk
    have hgo := ih (k + 1) (by omega)
    have hbs := batL_s (la := la) (wr := fun k => decide (¬ A (t + 1) k = 0)) (had := fun k => (raC I J R cs (nI k) (nI la)).isSome) (has := fun k => (B (t + 2) k).isSome) (ro := fun k => rwO I (raC I J R cs (nI k) (nI la))) (rn := fun k => rwO I (B (t + 2) k)) (ie := ie) (ixn := ixn) (k := k)
    have hbc : (bcL I J R A B cs t la ie ixn (k + 1)).length = (bcL I J R A B cs t la ie ixn k).length + (if decide (¬ A (t + 1) k = 0) = true then 1 + (ixL (raC I J R cs (nI k) (nI la)).isSome (B (t + 2) k).isSome (rwO I (raC I J R cs (nI k) (nI la))) (rwO I (B (t + 2) k)) ie (nI k) ixn).length else 0) := by
      unfold bcL
      rw [hbs, List.length_append]
      congr 1
      split
      · rw [List.length_map]; unfold keyE; rw [List.length_append, List.length_singleton, Nat.add_comm]
      · rfl
    rw [hbc] at hgo
    by_cases hw : A (t + 1) k = 0
    · rw [decide_eq_false (fun z => z hw), if_neg (by decide), Nat.add_zero] at hgo
      refine ev_iload_n dX8_batchSize_4 rfl ?_
      refine ev_bipushN 32 dX8_batchSize_5 (by decide) ?_
      refine ev_icmp_geN 52 dX8_batchSize_7 (by decide) (by omega) (by omega) (fun c7 => absurd c7 (by omega)) (fun c7 => ?_)
      refine ev_aload_n dX8_batchSize_10 rfl ?_
      refine ev_getR dX8_batchSize_11 fX8_225 hT.1 hT.2.1 ?_
      refine ev_iload_n dX8_batchSize_14 rfl ?_
      refine ev_zald dX8_batchSize_15 hT.2.2.1 hT.2.2.2.1 (by decide) (by omega) ?_
      refine ev_if_eq 46 dX8_batchSize_16 (by decide) (fun c16 => ?_) (fun c16 => absurd hw c16)
      refine ev_iincNS (b := 1) dX8_batchSize_46 rfl (by decide) (by decide) rfl ?_
      refine ev_goto 4 dX8_batchSize_49 (by decide) ?_
      exact hgo
    · rw [decide_eq_true hw, if_pos rfl] at hgo
      have sr := cs_rowAt2 (X := X) (d := d + 16) (A := A) (n := n) (sl := sl) (k := nI k) (u := nI la) hC hE hO
      have sc := cs_countIdx (X := X) (d := d) (J := J) (A := A) (n := n) (sl := sl) hC hX (old := raC I J R cs (nI k) (nI la)) (now := B (t + 2) k) (k := nI k) (fun r hr => raC_K hrk hr) (fun r hr => hT.2.2.2.2.2.2.2 k (by omega) r hr)
      refine ev_iload_n dX8_batchSize_4 rfl ?_
      refine ev_bipushN 32 dX8_batchSize_5 (by decide) ?_
      refine ev_icmp_geN 52 dX8_batchSize_7 (by decide) (by omega) (by omega) (fun c7 => absurd c7 (by omega)) (fun c7 => ?_)
      refine ev_aload_n dX8_batchSize_10 rfl ?_
      refine ev_getR dX8_batchSize_11 fX8_225 hT.1 hT.2.1 ?_
      refine ev_iload_n dX8_batchSize_14 rfl ?_
      refine ev_zald dX8_batchSize_15 hT.2.2.1 hT.2.2.2.1 (by decide) (by omega) ?_
      refine ev_if_eq 46 dX8_batchSize_16 (by decide) (fun c16 => absurd c16 hw) (fun c16 => ?_)
      refine ev_iload_n dX8_batchSize_19 rfl ?_
      refine ev_iconstN 1 dX8_batchSize_20 (by decide) ?_
      refine ev_aload_n dX8_batchSize_21 rfl ?_
      refine ev_aload_n dX8_batchSize_22 rfl ?_
      refine ev_getR dX8_batchSize_23 fX8_27 hC.m hC.R_st ?_
      refine ev_iload_n dX8_batchSize_26 rfl ?_
      refine ev_aload_n dX8_batchSize_27 rfl ?_
      refine ev_getIv dX8_batchSize_28 fX8_75 hC.m hl ?_
      refine ev_callV dX8_batchSize_31 okX6_rowAt inX6_rowAt seX6_rowAt mlX8_233 hC.K_st (by decide) rfl [iV _, iV _] rfl rfl (Nat.le_of_ble_eq_true rfl) (Nat.le_of_ble_eq_true rfl) (sr) (fun r_ G_ h_ => ?_)
      obtain ⟨rfl, rfl⟩ := h_
      try dsimp only [Option.toList, List.cons_append, List.nil_append]
      refine ev_aload_n dX8_batchSize_34 rfl ?_
      refine ev_getR dX8_batchSize_35 fX8_229 hT.1 hT.2.2.2.2.1 ?_
      refine ev_iload_n dX8_batchSize_38 rfl ?_
      refine ev_aald (q := 4) dX8_batchSize_39 hT.2.2.2.2.2.1 (by decide) (by decide) hT.2.2.2.2.2.2.1 (by decide) (by omega) rfl ?_
      refine ev_callV dX8_batchSize_40 okX8_countIndexEntries inX8_countIndexEntries seX8_countIndexEntries mlX8_240 hC.m (by decide) rfl [rV _, rV _] rfl rfl (Nat.le_of_ble_eq_true rfl) (Nat.le_of_ble_eq_true rfl) (sc) (fun r_ G_ h_ => ?_)
      obtain ⟨rfl, rfl⟩ := h_
      try dsimp only [Option.toList, List.cons_append, List.nil_append]
      refine ev_iaddN dX8_batchSize_43 ?_
      refine ev_iaddN dX8_batchSize_44 ?_
      refine ev_istore_nS dX8_batchSize_45 (by decide) rfl ?_
      refine ev_iincNS (b := 1) dX8_batchSize_46 rfl (by decide) (by decide) rfl ?_
      refine ev_goto 4 dX8_batchSize_49 (by decide) ?_
      exact hgo
theorem cs_batchSize (hC : CFix K R Ln) {cs : List Nat} (hE : EnR K I B cs) (hO : SrtR I J cs) (hrk : RwK K R cs) {t : Nat} (hT : TxO K R B Ln t) {ixn : Nat} {ie : Nat → EX} (hX : IxR K I R B ixn ie) {la : Nat} (hl : I 519 3 = nI la) : EvM X mX8_batchSize (d + 20) [rV (some 3), rV (some t)] (K, I, J, R, A, B, Ln, n, sl) (fun r_ G' => r_ = some (iV (nI (bcL I J R A B cs t la ie ixn 32).length)) ∧ G' = (K, I, J, R, A, B, Ln, n, sl)) := by
  show Ev X mX8_batchSize (d + 20) 0 [some (rV (some 3)), some (rV (some t)), none, none] [] (K, I, J, R, A, B, Ln, n, sl) _
  refine ev_iconstN 0 dX8_batchSize_0 (by decide) ?_
  refine ev_istore_nS dX8_batchSize_1 (by decide) rfl ?_
  refine ev_iconstN 0 dX8_batchSize_2 (by decide) ?_
  refine ev_istore_nS dX8_batchSize_3 (by decide) rfl ?_
  exact lp_bs hC hE hO hrk hT hX hl ⟨rfl, rfl⟩ 32 0 rfl
set_option maxRecDepth 100000 in
set_option maxHeartbeats 4000000 in
theorem lp_cp {Q : Option LV → GH → Prop} {K0 : Nat → Nat} {I0 : Nat → Nat → Int32} {J0 : Nat → Nat → Int64} {R0 : Nat → Nat → Option Nat} {n0 sl0 ixn x : Nat} {ie : Nat → EX} {ex : EX} (hC0 : CFix K0 R0 Ln) (hn0 : 34 ≤ n0) (hK0 : FrK K0 n0) (hX0 : IxR K0 I0 R0 B ixn ie) (hx : ExpR K0 I0 R0 16 x ex) (hq : ∀ (K : Nat → Nat) (I : Nat → Nat → Int32) (J : Nat → Nat → Int64) (R : Nat → Nat → Option Nat) (n sl : Nat) (p : PP), (CpF K0 I0 J0 R0 n0 K I J R n ∧ FrH I J R A B n ∧ FrK K n ∧ PlC K I J R p ∧ PlanR ie ex ixn p ∧ n = n0 + ixn ∧ sl = sl0 + 4 * ixn) → Q none (K, I, J, R, A, B, Ln, n, sl)) : ∀ (g i : Nat) (K : Nat → Nat) (I : Nat → Nat → Int32) (J : Nat → Nat → Int64) (R : Nat → Nat → Option Nat) (n sl : Nat) (p : PP) (w3 : Option LV), i + g = ixn → (CpF K0 I0 J0 R0 n0 K I J R n ∧ FrH I J R A B n ∧ FrK K n ∧ PlC K I J R p ∧ PlanR ie ex i p ∧ n = n0 + i ∧ sl = sl0 + 4 * i) → Ev X mX8_choosePlan (d + 35) 12 [some (rV (some 3)), some (rV (some x)), some (iV (nI (i))), w3] [] (K, I, J, R, A, B, Ln, n, sl) Q := by
  intro g
  have hx3 := hX0.2.1
  induction g with
  | zero =>
    intro i K I J R n sl p w3 hi hI
    have e1 : i = ixn := by omega
    subst e1
    have hq := hq K I J R n sl p hI
    obtain ⟨i1, i2, i3, i4, i5, i6, i7⟩ := hI
    have hm : K 3 = 8 := by rw [(i1.2 3 (by omega)).1]; exact hC0.m
    have h515 : I 515 3 = nI i := ((i1.2 3 (by omega)).2.2.1 515 (by omega)).trans hX0.1
    refine ev_iload_n dX8_choosePlan_12 rfl ?_
    refine ev_aload_n dX8_choosePlan_13 rfl ?_
    refine ev_getIv dX8_choosePlan_14 fX8_72 hm h515 ?_
    refine ev_icmp_geN 84 dX8_choosePlan_17 (by decide) (by omega) (by omega) (fun c17 => ?_) (fun c17 => absurd c17 (by omega))
    refine ev_return dX8_choosePlan_84 rfl ?_
    exact hq
  | succ g ih =>
    intro i K I J R n sl p w3 hi hI
    obtain ⟨i1, i2, i3, i4, i5, i6, i7⟩ := hI
    have hnn := i1.1
    have h3 := i1.2 3 (by omega)
    have hm : K 3 = 8 := by rw [h3.1]; exact hC0.m
    have h515 : I 515 3 = nI ixn := (h3.2.2.1 515 (by omega)).trans hX0.1
    obtain ⟨y, hBy, hEy, hty⟩ := hX0.2.2 i (by omega)
    obtain ⟨st, f0, hst⟩ := hear_ex (ie := ie i) _ ex (Nat.le_refl _) hx.tree (false, -2147483648, 2147483647)
    have kn : va_up K n 2 n = 2 := va_up_self _ _ _
    have hK1 : ∀ i, i < n → va_up K n 2 i = K i := fun i hi => va_up_ne _ _ (by omega)
    have hm1 : va_up K n 2 3 = 8 := (hK1 3 (by omega)).trans hm
    have k5 : va_up K n 2 5 = 102 := (hK1 5 (by omega)).trans ((i1.2 5 (by omega)).1.trans hC0.K_ix)
    have r514 : R 514 3 = some 5 := (h3.2.2.2 514 (by omega)).trans hC0.R_ix
    let J1 := u2 (u2 J 129 n (-2147483648)) 130 n 2147483647
    let R1 := u2 R 128 n (some y)
    have hJ1 : ∀ f i, i ≠ n → J1 f i = J f i := fun f i hi => by show u2 (u2 _ _ _ _) _ _ _ f i = _; rw [u2_ne2 hi, u2_ne2 hi]
    have hR1 : ∀ f i, i ≠ n → R1 f i = R f i := fun f i hi => u2_ne2 hi
    have hcp1 : CpF K0 I0 J0 R0 n0 (va_up K n 2) I J1 R1 (n + 1) := ⟨by omega, fun i hi => by
      obtain ⟨a1, a2, a3, a4⟩ := i1.2 i hi
      exact ⟨(hK1 i (by omega)).trans a1, fun f => (hJ1 f i (by omega)).trans (a2 f), a3, fun f hf => (hR1 f i (by omega)).trans (a4 f hf)⟩⟩
    have hrg : RgI I J1 n (false, -2147483648, 2147483647) I J1 := ⟨⟨(i2 n (Nat.le_refl _)).1 131, by show u2 (u2 _ _ _ _) _ _ _ 129 n = _; rw [u2_ne1 (by decide)]; exact u2_self, u2_self⟩, fun _ _ _ => rfl, fun _ _ _ => rfl, by decide, by decide⟩
    have sh := cs_hear (X := X) (d := d) (A := A) (B := B) (Ln := Ln) (n := n + 1) (sl := sl + 4) (q := n) (s := y) kn (show R1 128 n = some y from u2_self) (Nat.le_refl 16) (hcp1.expr hK0 hC0.m hEy) (hcp1.expr hK0 hC0.m hx) hst hrg
    have kont : ∀ (I' : Nat → Nat → Int32) (J' : Nat → Nat → Int64), RgI I J1 n st I' J' → Ev X mX8_choosePlan (d + 35) 39 [some (rV (some 3)), some (rV (some x)), some (iV (nI (i))), some (rV (some n))] [] (va_up K n 2, I', J', R1, A, B, Ln, n + 1, sl + 4) Q := by
      intro I' J' hr
      obtain ⟨⟨g1, g2, g3⟩, g4, g5, -, -⟩ := hr
      have hcp2 : CpF K0 I0 J0 R0 n0 (va_up K n 2) I' J' R1 (n + 1) := ⟨by omega, fun i hi => by
        obtain ⟨a1, a2, a3, a4⟩ := hcp1.2 i hi
        exact ⟨a1, fun f => (g5 f i (by omega)).trans (a2 f), fun f hf => (g4 f i (by omega)).trans (a3 f hf), a4⟩⟩
      have hfr2 : FrH I' J' R1 A B (n + 1) := fun j hj => by
        obtain ⟨a1, a2, a3, a4, a5⟩ := i2 j (by omega)
        exact ⟨fun f => (g4 f j (by omega)).trans (a1 f), fun f => ((g5 f j (by omega)).trans (hJ1 f j (by omega))).trans (a2 f), fun f => (hR1 f j (by omega)).trans (a3 f), a4, a5⟩
      have hfk2 : FrK (va_up K n 2) (n + 1) := fun j hj => by rw [va_up_ne _ _ (by omega)]; exact i3 j (by omega)
      have hplan : PlanR ie ex (i + 1) (plS i st p) := ⟨p, st, i5, ⟨f0, hst⟩, rfl⟩
      have kno : plS i st p = p → ∀ w3, Ev X mX8_choosePlan (d + 35) 12 [some (rV (some 3)), some (rV (some x)), some (iV (nI (i + 1))), w3] [] (va_up K n 2, I', J', R1, A, B, Ln, n + 1, sl + 4) Q := by
        intro hp w3
        rw [hp] at hplan
        refine ih (i + 1) _ I' J' R1 (n + 1) (sl + 4) p w3 (by omega) ⟨hcp2, hfr2, hfk2, ?_, hplan, by omega, by omega⟩
        obtain ⟨c1, c2⟩ := i4
        refine ⟨(g4 522 3 (by omega)).trans c1, ?_⟩
        rcases c2 with ⟨z1, z2⟩ | ⟨z1, q, z2, z3, z4, z5⟩
        · exact Or.inl ⟨z1, (hR1 523 3 (by omega)).trans z2⟩
        · have hqn : q ≠ n := fun z => by rw [z] at z3; have := i3 n (Nat.le_refl _); omega
          exact Or.inr ⟨z1, q, (hR1 523 3 (by omega)).trans z2, by rw [va_up_ne _ _ hqn]; exact z3, by rw [g5 129 q (by omega), hJ1 _ _ hqn]; exact z4, by rw [g5 130 q (by omega), hJ1 _ _ hqn]; exact z5⟩
      have kyes : plS i st p = (some i, st.2.1, st.2.2) → ∀ w3, Ev X mX8_choosePlan (d + 35) 12 [some (rV (some 3)), some (rV (some x)), some (iV (nI (i + 1))), w3] [] (va_up K n 2, u2 I' 522 3 (nI i), J', u2 R1 523 3 (some n), A, B, Ln, n + 1, sl + 4) Q := by
        intro hp w3
        rw [hp] at hplan
        refine ih (i + 1) _ (u2 I' 522 3 (nI i)) J' (u2 R1 523 3 (some n)) (n + 1) (sl + 4) (some i, st.2.1, st.2.2) w3 (by omega) ⟨⟨by omega, fun j hj => ?_⟩, fun j hj => ?_, hfk2, ⟨u2_self, Or.inr ⟨by simp, n, u2_self, kn, g2, g3⟩⟩, hplan, by omega, by omega⟩
        · obtain ⟨a1, a2, a3, a4⟩ := hcp2.2 j hj
          refine ⟨a1, a2, fun f hf => ?_, fun f hf => ?_⟩
          · unfold u2
            rw [if_neg (fun z => hf ⟨z.2, z.1⟩)]; exact a3 f hf
          · unfold u2
            rw [if_neg (fun z => hf ⟨z.2, z.1⟩)]; exact a4 f hf
        · obtain ⟨a1, a2, a3, a4, a5⟩ := hfr2 j hj
          exact ⟨fun f => by rw [u2_ne2 (by omega)]; exact a1 f, a2, fun f => by rw [u2_ne2 (by omega)]; exact a3 f, a4, a5⟩
      have hw := cs_width (X := X) (d := d + 34) (K := va_up K n 2) (I := I') (J := J') (R := R1) (A := A) (B := B) (Ln := Ln) (n := n + 1) (sl := sl + 4) kn
      rw [g2, g3] at hw
      cases hs : st.1 with
      | false =>
        rw [hs] at g1
        have kno := kno (by unfold plS; rw [if_neg (by rw [hs]; intro z; cases z.1)])
        refine ev_aload_n dX8_choosePlan_39 rfl ?_
        refine ev_getIv dX8_choosePlan_40 fX8_279 kn g1 ?_
        refine ev_if_eq 78 dX8_choosePlan_43 (by decide) (fun c43 => ?_) (fun c43 => absurd c43 (fun z => z rfl))
        refine ev_iincNS (b := 1) dX8_choosePlan_78 rfl (by decide) (by decide) rfl ?_
        refine ev_goto 12 dX8_choosePlan_81 (by decide) ?_
        exact kno _
      | true =>
        rw [hs] at g1
        obtain ⟨c1, c2⟩ := i4
        rcases c2 with ⟨z1, z2⟩ | ⟨z1, q, z2, z3, z4, z5⟩
        · have kyes := kyes (by unfold plS; rw [if_pos ⟨hs, Or.inl z1⟩])
          have z2' := (hR1 523 3 (by omega)).trans z2
          refine ev_aload_n dX8_choosePlan_39 rfl ?_
          refine ev_getIv dX8_choosePlan_40 fX8_279 kn g1 ?_
          refine ev_if_eq 78 dX8_choosePlan_43 (by decide) (fun c43 => absurd c43 (by decide)) (fun c43 => ?_)
          refine ev_aload_n dX8_choosePlan_46 rfl ?_
          refine ev_getR dX8_choosePlan_47 fX8_181 hm1 z2' ?_
          refine ev_ifnull 68 dX8_choosePlan_50 (by decide) (fun c50 => ?_) (fun x c50 => by cases c50)
          refine ev_aload_n dX8_choosePlan_68 rfl ?_
          refine ev_iload_n dX8_choosePlan_69 rfl ?_
          refine ev_putI dX8_choosePlan_70 fX8_35 (Or.inl rfl) (Or.inl rfl) hm1 ?_
          refine ev_aload_n dX8_choosePlan_73 rfl ?_
          refine ev_aload_n dX8_choosePlan_74 rfl ?_
          refine ev_putR dX8_choosePlan_75 fX8_181 (Or.inl rfl) hm1 ?_
          refine ev_iincNS (b := 1) dX8_choosePlan_78 rfl (by decide) (by decide) rfl ?_
          refine ev_goto 12 dX8_choosePlan_81 (by decide) ?_
          exact kyes _
        · have hqn : q ≠ n := fun z => by rw [z] at z3; have := i3 n (Nat.le_refl _); omega
          have z2' := (hR1 523 3 (by omega)).trans z2
          have z3' : va_up K n 2 q = 2 := by rw [va_up_ne _ _ hqn]; exact z3
          have hw2 := cs_width (X := X) (d := d + 34) (K := va_up K n 2) (I := I') (J := J') (R := R1) (A := A) (B := B) (Ln := Ln) (n := n + 1) (sl := sl + 4) z3'
          rw [g5 129 q (by omega), g5 130 q (by omega), hJ1 _ _ hqn, hJ1 _ _ hqn, z4, z5] at hw2
          by_cases hlt : st.2.2 - st.2.1 < p.2.2 - p.2.1
          · have kyes := kyes (by unfold plS; rw [if_pos ⟨hs, Or.inr hlt⟩])
            refine ev_aload_n dX8_choosePlan_39 rfl ?_
            refine ev_getIv dX8_choosePlan_40 fX8_279 kn g1 ?_
            refine ev_if_eq 78 dX8_choosePlan_43 (by decide) (fun c43 => absurd c43 (by decide)) (fun c43 => ?_)
            refine ev_aload_n dX8_choosePlan_46 rfl ?_
            refine ev_getR dX8_choosePlan_47 fX8_181 hm1 z2' ?_
            refine ev_ifnull 68 dX8_choosePlan_50 (by decide) (fun c50 => by cases c50) (fun x c50 => ?_)
            refine ev_aload_n dX8_choosePlan_53 rfl ?_
            refine ev_callV dX8_choosePlan_54 okX2_width inX2_width seX2_width mlX8_282 kn (by decide) rfl [] rfl rfl (Nat.le_of_ble_eq_true rfl) (Nat.le_of_ble_eq_true rfl) (hw) (fun r_ G_ h_ => ?_)
            obtain ⟨rfl, rfl⟩ := h_
            try dsimp only [Option.toList, List.cons_append, List.nil_append]
            refine ev_aload_n dX8_choosePlan_57 rfl ?_
            refine ev_getR dX8_choosePlan_58 fX8_181 hm1 z2' ?_
            refine ev_callV dX8_choosePlan_61 okX2_width inX2_width seX2_width mlX8_282 z3' (by decide) rfl [] rfl rfl (Nat.le_of_ble_eq_true rfl) (Nat.le_of_ble_eq_true rfl) (hw2) (fun r_ G_ h_ => ?_)
            obtain ⟨rfl, rfl⟩ := h_
            try dsimp only [Option.toList, List.cons_append, List.nil_append]
            refine ev_lcmp dX8_choosePlan_64 ?_
            refine ev_if_ge 78 dX8_choosePlan_65 (by decide) (fun c65 => absurd c65 (fun z => lgc_ge.mp z hlt)) (fun c65 => ?_)
            refine ev_aload_n dX8_choosePlan_68 rfl ?_
            refine ev_iload_n dX8_choosePlan_69 rfl ?_
            refine ev_putI dX8_choosePlan_70 fX8_35 (Or.inl rfl) (Or.inl rfl) hm1 ?_
            refine ev_aload_n dX8_choosePlan_73 rfl ?_
            refine ev_aload_n dX8_choosePlan_74 rfl ?_
            refine ev_putR dX8_choosePlan_75 fX8_181 (Or.inl rfl) hm1 ?_
            refine ev_iincNS (b := 1) dX8_choosePlan_78 rfl (by decide) (by decide) rfl ?_
            refine ev_goto 12 dX8_choosePlan_81 (by decide) ?_
            exact kyes _
          · have kno := kno (by unfold plS; rw [if_neg (fun z => z.2.elim z1 hlt)])
            refine ev_aload_n dX8_choosePlan_39 rfl ?_
            refine ev_getIv dX8_choosePlan_40 fX8_279 kn g1 ?_
            refine ev_if_eq 78 dX8_choosePlan_43 (by decide) (fun c43 => absurd c43 (by decide)) (fun c43 => ?_)
            refine ev_aload_n dX8_choosePlan_46 rfl ?_
            refine ev_getR dX8_choosePlan_47 fX8_181 hm1 z2' ?_
            refine ev_ifnull 68 dX8_choosePlan_50 (by decide) (fun c50 => by cases c50) (fun x c50 => ?_)
            refine ev_aload_n dX8_choosePlan_53 rfl ?_
            refine ev_callV dX8_choosePlan_54 okX2_width inX2_width seX2_width mlX8_282 kn (by decide) rfl [] rfl rfl (Nat.le_of_ble_eq_true rfl) (Nat.le_of_ble_eq_true rfl) (hw) (fun r_ G_ h_ => ?_)
            obtain ⟨rfl, rfl⟩ := h_
            try dsimp only [Option.toList, List.cons_append, List.nil_append]
            refine ev_aload_n dX8_choosePlan_57 rfl ?_
            refine ev_getR dX8_choosePlan_58 fX8_181 hm1 z2' ?_
            refine ev_callV dX8_choosePlan_61 okX2_width inX2_width seX2_width mlX8_282 z3' (by decide) rfl [] rfl rfl (Nat.le_of_ble_eq_true rfl) (Nat.le_of_ble_eq_true rfl) (hw2) (fun r_ G_ h_ => ?_)
            obtain ⟨rfl, rfl⟩ := h_
            try dsimp only [Option.toList, List.cons_append, List.nil_append]
            refine ev_lcmp dX8_choosePlan_64 ?_
            refine ev_if_ge 78 dX8_choosePlan_65 (by decide) (fun c65 => ?_) (fun c65 => absurd (lgc_ge.mpr hlt) c65)
            refine ev_iincNS (b := 1) dX8_choosePlan_78 rfl (by decide) (by decide) rfl ?_
            refine ev_goto 12 dX8_choosePlan_81 (by decide) ?_
            exact kno _
    refine ev_iload_n dX8_choosePlan_12 rfl ?_
    refine ev_aload_n dX8_choosePlan_13 rfl ?_
    refine ev_getIv dX8_choosePlan_14 fX8_72 hm h515 ?_
    refine ev_icmp_geN 84 dX8_choosePlan_17 (by decide) (by omega) (by omega) (fun c17 => absurd c17 (by omega)) (fun c17 => ?_)
    refine ev_new dX8_choosePlan_20 nwX8_186 ?_
    refine ev_dup dX8_choosePlan_23 rfl ?_
    refine ev_aload_n dX8_choosePlan_24 rfl ?_
    refine ev_getR dX8_choosePlan_25 fX8_15 hm1 r514 ?_
    refine ev_iload_n dX8_choosePlan_28 rfl ?_
    refine ev_aald (q := 2) dX8_choosePlan_29 k5 (by decide) (by decide) hC0.L_ix (by decide) (by omega) hBy ?_
    refine ev_callI dX8_choosePlan_30 okX2_init inX2_init rfl rfl mlX8_273 [rV _] rfl rfl (Nat.le_of_ble_eq_true rfl) (Nat.le_of_ble_eq_true rfl) (cs_newRange kn) (fun r_ G_ h_ => ?_)
    obtain ⟨rfl, rfl⟩ := h_
    try dsimp only [Option.toList, List.cons_append, List.nil_append]
    refine ev_astore_nS dX8_choosePlan_33 (by decide) rfl ?_
    refine ev_aload_n dX8_choosePlan_34 rfl ?_
    refine ev_aload_n dX8_choosePlan_35 rfl ?_
    refine ev_callS dX8_choosePlan_36 okX2_tellConjuncts stX2_tellConjuncts mlX8_275 [rV _, rV _] rfl rfl (Nat.le_of_ble_eq_true rfl) (Nat.le_of_ble_eq_true rfl) (sh) (fun r_ G_ h_ => ?_)
    obtain ⟨rfl, I', J', rfl, hr⟩ := h_
    try dsimp only [Option.toList, List.cons_append, List.nil_append]
    exact kont I' J' hr
theorem cs_choosePlan {K0 : Nat → Nat} {I0 : Nat → Nat → Int32} {J0 : Nat → Nat → Int64} {R0 : Nat → Nat → Option Nat} {n0 sl0 ixn x : Nat} {ie : Nat → EX} {ex : EX} (hC0 : CFix K0 R0 Ln) (hn0 : 34 ≤ n0) (hK0 : FrK K0 n0) (hX0 : IxR K0 I0 R0 B ixn ie) (hx : ExpR K0 I0 R0 16 x ex) (hF : FrH I0 J0 R0 A B n0) : EvM X mX8_choosePlan (d + 35) [rV (some 3), rV (some x)] (K0, I0, J0, R0, A, B, Ln, n0, sl0) (fun r_ G' => r_ = none ∧ ∃ (K : Nat → Nat) (I : Nat → Nat → Int32) (J : Nat → Nat → Int64) (R : Nat → Nat → Option Nat) (n sl : Nat) (p : PP), (CpF K0 I0 J0 R0 n0 K I J R n ∧ FrH I J R A B n ∧ FrK K n ∧ PlC K I J R p ∧ PlanR ie ex ixn p ∧ n = n0 + ixn ∧ sl = sl0 + 4 * ixn) ∧ G' = (K, I, J, R, A, B, Ln, n, sl)) := by
  have hm := hC0.m
  show Ev X mX8_choosePlan (d + 35) 0 [some (rV (some 3)), some (rV (some x)), none, none] [] (K0, I0, J0, R0, A, B, Ln, n0, sl0) _
  have go := fun w3 => lp_cp (X := X) (d := d) (A := A) (B := B) hC0 hn0 hK0 hX0 hx (sl0 := sl0) (J0 := J0) (Q := fun r_ G' => r_ = none ∧ ∃ (K : Nat → Nat) (I : Nat → Nat → Int32) (J : Nat → Nat → Int64) (R : Nat → Nat → Option Nat) (n sl : Nat) (p : PP), (CpF K0 I0 J0 R0 n0 K I J R n ∧ FrH I J R A B n ∧ FrK K n ∧ PlC K I J R p ∧ PlanR ie ex ixn p ∧ n = n0 + ixn ∧ sl = sl0 + 4 * ixn) ∧ G' = (K, I, J, R, A, B, Ln, n, sl)) (fun K I J R n sl p h => ⟨rfl, K, I, J, R, n, sl, p, h, rfl⟩) ixn 0 K0 (u2 I0 522 3 (-1)) J0 (u2 R0 523 3 none) n0 sl0 (none, 0, 0) w3 (by omega) ⟨⟨Nat.le_refl _, fun i hi => ⟨rfl, fun _ => rfl, fun f hf => by unfold u2; rw [if_neg (fun z => hf ⟨z.2, z.1⟩)], fun f hf => by unfold u2; rw [if_neg (fun z => hf ⟨z.2, z.1⟩)]⟩⟩, fun i hi => ⟨fun f => by rw [u2_ne2 (by omega)]; exact (hF i hi).1 f, (hF i hi).2.1, fun f => by rw [u2_ne2 (by omega)]; exact (hF i hi).2.2.1 f, (hF i hi).2.2.2⟩, hK0, ⟨u2_self, Or.inl ⟨rfl, u2_self⟩⟩, rfl, by omega, by omega⟩
  refine ev_aload_n dX8_choosePlan_0 rfl ?_
  refine ev_iconst (-1) dX8_choosePlan_1 (by decide) ?_
  refine ev_putI dX8_choosePlan_2 fX8_35 (Or.inl rfl) (Or.inl rfl) hm ?_
  refine ev_aload_n dX8_choosePlan_5 rfl ?_
  refine ev_null dX8_choosePlan_6 ?_
  refine ev_putR dX8_choosePlan_7 fX8_181 (Or.inl rfl) hm ?_
  refine ev_iconstN 0 dX8_choosePlan_10 (by decide) ?_
  refine ev_istore_nS dX8_choosePlan_11 (by decide) rfl ?_
  exact go _
end C90
