def ccN (I : Nat → Nat → Int32) (J : Nat → Nat → Int64) (R : Nat → Nat → Option Nat) (cs : List Nat) (u : Int32) (p : PP) : Nat := match p.1 with
  | none => ctF I J R (nI 0) 0 0 u cs none
  | some j => ctF I J R (nI (j + 1)) p.2.1 p.2.2 u cs none
def hitC (I : Nat → Nat → Int32) (J : Nat → Nat → Int64) (R : Nat → Nat → Option Nat) (A : Nat → Nat → Int32) (B : Nat → Nat → Option Nat) (cs : List Nat) (t : Nat) (ex : EX) (k : Nat) : Bool := match rfC I J R A B cs t k with
  | none => false
  | some r => decide (vlE (rwI I r) ex = 1)
def rlC (I : Nat → Nat → Int32) (J : Nat → Nat → Int64) (R : Nat → Nat → Option Nat) (A : Nat → Nat → Int32) (B : Nat → Nat → Option Nat) (cs : List Nat) (t : Nat) (ex : EX) (k : Nat) : List Nat := (List.range k).filter (hitC I J R A B cs t ex)
theorem rlC_s {I : Nat → Nat → Int32} {J : Nat → Nat → Int64} {R : Nat → Nat → Option Nat} {A : Nat → Nat → Int32} {B : Nat → Nat → Option Nat} {cs : List Nat} {t : Nat} {ex : EX} {k : Nat} : rlC I J R A B cs t ex (k + 1) = rlC I J R A B cs t ex k ++ (if hitC I J R A B cs t ex k = true then [k] else []) := by
  unfold rlC
  rw [List.range_succ, List.filter_append]
  congr 1
  cases h : hitC I J R A B cs t ex k with
  | true => rw [List.filter_cons_of_pos h]; rfl
  | false => rw [List.filter_cons_of_neg (by rw [h]; decide)]; rfl
theorem rlC_le {I : Nat → Nat → Int32} {J : Nat → Nat → Int64} {R : Nat → Nat → Option Nat} {A : Nat → Nat → Int32} {B : Nat → Nat → Option Nat} {cs : List Nat} {t : Nat} {ex : EX} {k : Nat} : (rlC I J R A B cs t ex k).length ≤ k := by
  have := List.length_filter_le (hitC I J R A B cs t ex) (List.range k)
  rw [List.length_range] at this
  exact this
/-- names are not below 0 -/
def NmR (K : Nat → Nat) (I : Nat → Nat → Int32) : Prop := ∀ r, K r = 3 → ∃ nm, nm < 2147483648 ∧ I 194 r = nI nm
section C91
variable {X : CX} {d : Nat} {K : Nat → Nat} {I : Nat → Nat → Int32} {J : Nat → Nat → Int64} {R : Nat → Nat → Option Nat} {A : Nat → Nat → Int32} {B : Nat → Nat → Option Nat} {Ln : Nat → Nat} {n sl : Nat}
set_option maxRecDepth 100000 in
set_option maxHeartbeats 4000000 in
theorem cs_countCand (hC : CFix K R Ln) {cs : List Nat} (hE : EnR K I B cs) {u : Int32} {p : PP} (hP : PlC K I J R p) : EvM X mX8_countCandidates (d + 2) [rV (some 3), iV u] (K, I, J, R, A, B, Ln, n, sl) (fun r_ G' => r_ = none ∧ G' = (K, u2 I 524 3 (nI (ccN I J R cs u p)), J, R, A, B, Ln, n, sl)) := by
  obtain ⟨p1, p2⟩ := hP
  show Ev X mX8_countCandidates (d + 2) 0 [some (rV (some 3)), some (iV u)] [] (K, I, J, R, A, B, Ln, n, sl) _
  unfold ccN
  rcases p2 with ⟨z1, z2⟩ | ⟨z1, q, z2, z3, z4, z5⟩
  · rw [z1]
    have sc := cs_countThere (X := X) (d := d) (J := J) (A := A) (n := n) (sl := sl) (R := R) (s := nI 0) (t := u) (lo := 0) (hi := 0) hC hE
    refine ev_aload_n dX8_countCandidates_0 rfl ?_
    refine ev_aload_n dX8_countCandidates_1 rfl ?_
    refine ev_getR dX8_countCandidates_2 fX8_181 hC.m z2 ?_
    refine ev_ifnonnull 22 dX8_countCandidates_5 (by decide) (fun x c5 => by cases c5) (fun c5 => ?_)
    refine ev_aload_n dX8_countCandidates_8 rfl ?_
    refine ev_getR dX8_countCandidates_9 fX8_27 hC.m hC.R_st ?_
    refine ev_iconstN 0 dX8_countCandidates_12 (by decide) ?_
    refine ev_lconst 0 dX8_countCandidates_13 (by decide) ?_
    refine ev_lconst 0 dX8_countCandidates_14 (by decide) ?_
    refine ev_iload_n dX8_countCandidates_15 rfl ?_
    refine ev_callV dX8_countCandidates_16 okX6_countThere inX6_countThere seX6_countThere mlX8_286 hC.K_st (by decide) rfl [iV _, lV _, lV _, iV _] rfl rfl (Nat.le_of_ble_eq_true rfl) (Nat.le_of_ble_eq_true rfl) (sc) (fun r_ G_ h_ => ?_)
    obtain ⟨rfl, rfl⟩ := h_
    try dsimp only [Option.toList, List.cons_append, List.nil_append]
    refine ev_goto 50 dX8_countCandidates_19 (by decide) ?_
    refine ev_putI dX8_countCandidates_50 fX8_178 (Or.inl rfl) (Or.inl rfl) hC.m ?_
    refine ev_return dX8_countCandidates_53 rfl ?_
    exact ⟨rfl, rfl⟩
  · obtain ⟨j, hj⟩ := Option.ne_none_iff_exists'.mp z1
    rw [hj] at p1 ⊢
    have p1 : I 522 3 = nI j := p1
    have sc := cs_countThere (X := X) (d := d) (J := J) (A := A) (n := n) (sl := sl) (R := R) (s := nI (j + 1)) (t := u) (lo := p.2.1) (hi := p.2.2) hC hE
    refine ev_aload_n dX8_countCandidates_0 rfl ?_
    refine ev_aload_n dX8_countCandidates_1 rfl ?_
    refine ev_getR dX8_countCandidates_2 fX8_181 hC.m z2 ?_
    refine ev_ifnonnull 22 dX8_countCandidates_5 (by decide) (fun x c5 => ?_) (fun c5 => by cases c5)
    refine ev_aload_n dX8_countCandidates_22 rfl ?_
    refine ev_getR dX8_countCandidates_23 fX8_27 hC.m hC.R_st ?_
    refine ev_aload_n dX8_countCandidates_26 rfl ?_
    refine ev_getIv dX8_countCandidates_27 fX8_35 hC.m p1 ?_
    refine ev_iconstN 1 dX8_countCandidates_30 (by decide) ?_
    refine ev_iaddN dX8_countCandidates_31 ?_
    refine ev_aload_n dX8_countCandidates_32 rfl ?_
    refine ev_getR dX8_countCandidates_33 fX8_181 hC.m z2 ?_
    refine ev_getJv dX8_countCandidates_36 fX8_185 z3 z4 ?_
    refine ev_aload_n dX8_countCandidates_39 rfl ?_
    refine ev_getR dX8_countCandidates_40 fX8_181 hC.m z2 ?_
    refine ev_getJv dX8_countCandidates_43 fX8_191 z3 z5 ?_
    refine ev_iload_n dX8_countCandidates_46 rfl ?_
    refine ev_callV dX8_countCandidates_47 okX6_countThere inX6_countThere seX6_countThere mlX8_286 hC.K_st (by decide) rfl [iV _, lV _, lV _, iV _] rfl rfl (Nat.le_of_ble_eq_true rfl) (Nat.le_of_ble_eq_true rfl) (sc) (fun r_ G_ h_ => ?_)
    obtain ⟨rfl, rfl⟩ := h_
    try dsimp only [Option.toList, List.cons_append, List.nil_append]
    refine ev_putI dX8_countCandidates_50 fX8_178 (Or.inl rfl) (Or.inl rfl) hC.m ?_
    refine ev_return dX8_countCandidates_53 rfl ?_
    exact ⟨rfl, rfl⟩
set_option maxRecDepth 100000 in
set_option maxHeartbeats 4000000 in
theorem lp_fr {Q : Option LV → GH → Prop} (hC : CFix K R Ln) {cs : List Nat} (hE : EnR K I B cs) (hO : SrtR I J cs) (hrk : RwK K R cs) {t x : Nat} (hT : TxO K R B Ln t) (ht : 34 ≤ t) {ex : EX} (hx : ExpR K I R 16 x ex) (hty : tyE ex = true) (hnm : ∀ k, k < 32 → ∀ r, rfC I J R A B cs t k = some r → ∃ nm, nm < 2147483648 ∧ I 194 r = nI nm)
    (hq : ∀ A', (∀ i, i ≠ 10 → A' i = A i) → (∀ j v, (rlC I J R A B cs t ex 32)[j]? = some v → A' 10 j = nI v) → Q none (K, u2 I 521 3 (nI (rlC I J R A B cs t ex 32).length), J, R, A', B, Ln, n, sl)) : ∀ (g k : Nat) (A' : Nat → Nat → Int32) (w4 : Option LV), k + g = 32 → (∀ i, i ≠ 10 → A' i = A i) → (∀ j v, (rlC I J R A B cs t ex k)[j]? = some v → A' 10 j = nI v) → Ev X mX8_fillResult (d + 17) 7 [some (rV (some 3)), some (rV (some x)), some (rV (some t)), some (iV (nI (k))), w4] [] (K, u2 I 521 3 (nI (rlC I J R A B cs t ex k).length), J, R, A', B, Ln, n, sl) Q := by
  intro g
  induction g with
  | zero =>
    intro k A' w4 hk h1 h2
    have e1 : k = 32 := by omega
    subst e1
    have hq := hq A' h1 h2
    refine ev_iload_n dX8_fillResult_7 rfl ?_
    refine ev_bipushN 32 dX8_fillResult_8 (by decide) ?_
    refine ev_icmp_geN 61 dX8_fillResult_10 (by decide) (by omega) (by omega) (fun c10 => ?_) (fun c10 => absurd c10 (by omega))
    refine ev_return dX8_fillResult_61 rfl ?_
    exact hq
  | succ g ih =>
    intro k A' w4 hk h1 h2
    have hle := rlC_le (I := I) (J := J) (R := R) (A := A) (B := B) (cs := cs) (t := t) (ex := ex) (k := k)
    generalize hv : nI (rlC I J R A B cs t ex k).length = v0
    have hI4 : ∀ f i, f ≠ 521 → u2 I 521 3 v0 f i = I f i := fun f i hf => u2_ne1 hf
    have hE' : EnR K (u2 I 521 3 v0) B cs := ⟨(hI4 _ _ (by decide)).trans hE.1, hE.2⟩
    have hO' : SrtR (u2 I 521 3 v0) J cs := by
      refine List.Pairwise.imp (fun {a b} h => ?_) hO
      rw [hI4 4 a (by decide), hI4 4 b (by decide)]; exact h
    have hrs : ∀ q u, rsC (u2 I 521 3 v0) J cs q u = rsC I J cs q u := fun q u => by
      unfold rsC
      simp only [hI4 4 _ (show (4 : Nat) ≠ 521 by decide)]
    have hrf : rfC (u2 I 521 3 v0) J R A' B cs t k = rfC I J R A B cs t k := by
      unfold rfC raC
      rw [hrs, hI4 448 t (by decide), h1 (t + 1) (by omega)]
    have sr := cs_rowFor (X := X) (d := d + 12) (A := A') (n := n) (sl := sl) hC hE' hO' hT (show k < 32 by omega)
    rw [hrf] at sr
    have hs := rlC_s (I := I) (J := J) (R := R) (A := A) (B := B) (cs := cs) (t := t) (ex := ex) (k := k)
    have hx' : ExpR K (u2 I 521 3 v0) R 16 x ex := hx.congr (fun i hi => ⟨hi, fun f => u2_ne2 (fun z => by rw [z, hC.m] at hi; omega), fun _ => rfl⟩)
    cases hr : rfC I J R A B cs t k with
    | none =>
      rw [hr] at sr
      have hh : hitC I J R A B cs t ex k = false := by unfold hitC; rw [hr]
      rw [hh, if_neg (by decide), List.append_nil] at hs
      have hgo := fun w4 => ih (k + 1) A' w4 (by omega) h1 (by rw [hs]; exact h2)
      rw [hs, hv] at hgo
      refine ev_iload_n dX8_fillResult_7 rfl ?_
      refine ev_bipushN 32 dX8_fillResult_8 (by decide) ?_
      refine ev_icmp_geN 61 dX8_fillResult_10 (by decide) (by omega) (by omega) (fun c10 => absurd c10 (by omega)) (fun c10 => ?_)
      refine ev_aload_n dX8_fillResult_13 rfl ?_
      refine ev_aload_n dX8_fillResult_14 rfl ?_
      refine ev_iload_n dX8_fillResult_15 rfl ?_
      refine ev_callV dX8_fillResult_16 okX8_rowFor inX8_rowFor seX8_rowFor mlX8_95 hC.m (by decide) rfl [rV _, iV _] rfl rfl (Nat.le_of_ble_eq_true rfl) (Nat.le_of_ble_eq_true rfl) (sr) (fun r_ G_ h_ => ?_)
      obtain ⟨rfl, rfl⟩ := h_
      try dsimp only [Option.toList, List.cons_append, List.nil_append]
      refine ev_astoreS dX8_fillResult_19 (by decide) rfl ?_
      refine ev_aload dX8_fillResult_21 rfl ?_
      refine ev_ifnull 55 dX8_fillResult_23 (by decide) (fun c23 => ?_) (fun x c23 => by cases c23)
      refine ev_iincNS (b := 1) dX8_fillResult_55 rfl (by decide) (by decide) rfl ?_
      refine ev_goto 7 dX8_fillResult_58 (by decide) ?_
      exact hgo _
    | some r =>
      rw [hr] at sr
      have hKr : K r = 3 := by
        unfold rfC at hr
        by_cases hz : A (t + 1) k = 0
        · rw [if_pos hz] at hr; exact raC_K hrk hr
        · rw [if_neg hz] at hr; exact hT.2.2.2.2.2.2.2 k (by omega) r hr
      have hrw : rwI (u2 I 521 3 v0) r = rwI I r := by
        funext f
        show u2 I 521 3 v0 (192 + f) r = I (192 + f) r
        exact u2_ne2 (fun z => by rw [z, hC.m] at hKr; omega)
      obtain ⟨nm, n1, n2⟩ := hnm k (by omega) r hr
      have st := cs_isTrueOf (X := X) (d := d) (J := J) (A := A') (B := B) (Ln := Ln) (n := n) (sl := sl) hKr ((hI4 194 r (by decide)).trans n2) n1 hx' hty
      rw [hrw] at st
      have kx := hx.kind
      have b01 := hx.b01 (r := rwI I r) hty
      by_cases hb : vlE (rwI I r) ex = 1
      · have hh : hitC I J R A B cs t ex k = true := by unfold hitC; rw [hr]; exact decide_eq_true hb
        rw [hh, if_pos rfl] at hs
        rw [hb] at st
        have hgo := fun w4 => ih (k + 1) (u2 A' 10 (rlC I J R A B cs t ex k).length (nI k)) w4 (by omega) (fun i hi => by rw [u2_row' hi]; exact h1 i hi) (fun j v hj => by
          rw [hs] at hj
          by_cases hjl : j = (rlC I J R A B cs t ex k).length
          · rw [hjl, List.getElem?_append_right (Nat.le_refl _), Nat.sub_self] at hj
            cases hj
            rw [hjl]; exact u2_self
          · rw [u2_ne2 hjl]
            refine h2 j v ?_
            have hl := (List.getElem?_eq_some_iff.mp hj).1
            rw [List.length_append, List.length_singleton] at hl
            rwa [List.getElem?_append_left (by omega)] at hj)
        rw [hs, List.length_append, List.length_singleton] at hgo
        subst hv
        have e521 : u2 I 521 3 (nI (rlC I J R A B cs t ex k).length) 521 3 = nI (rlC I J R A B cs t ex k).length := u2_self
        rw [← u2_u2 (g := I) (v := nI (rlC I J R A B cs t ex k).length)] at hgo
        refine ev_iload_n dX8_fillResult_7 rfl ?_
        refine ev_bipushN 32 dX8_fillResult_8 (by decide) ?_
        refine ev_icmp_geN 61 dX8_fillResult_10 (by decide) (by omega) (by omega) (fun c10 => absurd c10 (by omega)) (fun c10 => ?_)
        refine ev_aload_n dX8_fillResult_13 rfl ?_
        refine ev_aload_n dX8_fillResult_14 rfl ?_
        refine ev_iload_n dX8_fillResult_15 rfl ?_
        refine ev_callV dX8_fillResult_16 okX8_rowFor inX8_rowFor seX8_rowFor mlX8_95 hC.m (by decide) rfl [rV _, iV _] rfl rfl (Nat.le_of_ble_eq_true rfl) (Nat.le_of_ble_eq_true rfl) (sr) (fun r_ G_ h_ => ?_)
        obtain ⟨rfl, rfl⟩ := h_
        try dsimp only [Option.toList, List.cons_append, List.nil_append]
        refine ev_astoreS dX8_fillResult_19 (by decide) rfl ?_
        refine ev_aload dX8_fillResult_21 rfl ?_
        refine ev_ifnull 55 dX8_fillResult_23 (by decide) (fun c23 => by cases c23) (fun x c23 => ?_)
        refine ev_aload_n dX8_fillResult_26 rfl ?_
        refine ev_aload dX8_fillResult_27 rfl ?_
        refine ev_callS dX8_fillResult_29 okX1_isTrueOf stX1_isTrueOf mlX8_290 [rV _, rV _] rfl rfl (Nat.le_of_ble_eq_true rfl) (Nat.le_of_ble_eq_true rfl) (st) (fun r_ G_ h_ => ?_)
        obtain ⟨rfl, rfl⟩ := h_
        try dsimp only [Option.toList, List.cons_append, List.nil_append]
        refine ev_if_eq 55 dX8_fillResult_32 (by decide) (fun c32 => absurd c32 (by decide)) (fun c32 => ?_)
        refine ev_aload_n dX8_fillResult_35 rfl ?_
        refine ev_getR dX8_fillResult_36 fX8_31 hC.m hC.R_rk ?_
        refine ev_aload_n dX8_fillResult_39 rfl ?_
        refine ev_getIv dX8_fillResult_40 fX8_131 hC.m e521 ?_
        refine ev_iload_n dX8_fillResult_43 rfl ?_
        refine ev_iast dX8_fillResult_44 hC.K_rk hC.L_rk (by decide) (by omega) ?_
        refine ev_aload_n dX8_fillResult_45 rfl ?_
        refine ev_dup dX8_fillResult_46 rfl ?_
        refine ev_getIv dX8_fillResult_47 fX8_131 hC.m e521 ?_
        refine ev_iconstN 1 dX8_fillResult_50 (by decide) ?_
        refine ev_iaddN dX8_fillResult_51 ?_
        refine ev_putI dX8_fillResult_52 fX8_131 (Or.inl rfl) (Or.inl rfl) hC.m ?_
        refine ev_iincNS (b := 1) dX8_fillResult_55 rfl (by decide) (by decide) rfl ?_
        refine ev_goto 7 dX8_fillResult_58 (by decide) ?_
        exact hgo _
      · have hb0 := b01.resolve_right hb
        have hh : hitC I J R A B cs t ex k = false := by unfold hitC; rw [hr]; exact decide_eq_false hb
        rw [hh, if_neg (by decide), List.append_nil] at hs
        rw [hb0] at st
        have hgo := fun w4 => ih (k + 1) A' w4 (by omega) h1 (by rw [hs]; exact h2)
        rw [hs, hv] at hgo
        refine ev_iload_n dX8_fillResult_7 rfl ?_
        refine ev_bipushN 32 dX8_fillResult_8 (by decide) ?_
        refine ev_icmp_geN 61 dX8_fillResult_10 (by decide) (by omega) (by omega) (fun c10 => absurd c10 (by omega)) (fun c10 => ?_)
        refine ev_aload_n dX8_fillResult_13 rfl ?_
        refine ev_aload_n dX8_fillResult_14 rfl ?_
        refine ev_iload_n dX8_fillResult_15 rfl ?_
        refine ev_callV dX8_fillResult_16 okX8_rowFor inX8_rowFor seX8_rowFor mlX8_95 hC.m (by decide) rfl [rV _, iV _] rfl rfl (Nat.le_of_ble_eq_true rfl) (Nat.le_of_ble_eq_true rfl) (sr) (fun r_ G_ h_ => ?_)
        obtain ⟨rfl, rfl⟩ := h_
        try dsimp only [Option.toList, List.cons_append, List.nil_append]
        refine ev_astoreS dX8_fillResult_19 (by decide) rfl ?_
        refine ev_aload dX8_fillResult_21 rfl ?_
        refine ev_ifnull 55 dX8_fillResult_23 (by decide) (fun c23 => by cases c23) (fun x c23 => ?_)
        refine ev_aload_n dX8_fillResult_26 rfl ?_
        refine ev_aload dX8_fillResult_27 rfl ?_
        refine ev_callS dX8_fillResult_29 okX1_isTrueOf stX1_isTrueOf mlX8_290 [rV _, rV _] rfl rfl (Nat.le_of_ble_eq_true rfl) (Nat.le_of_ble_eq_true rfl) (st) (fun r_ G_ h_ => ?_)
        obtain ⟨rfl, rfl⟩ := h_
        try dsimp only [Option.toList, List.cons_append, List.nil_append]
        refine ev_if_eq 55 dX8_fillResult_32 (by decide) (fun c32 => ?_) (fun c32 => absurd c32 (fun z => z rfl))
        refine ev_iincNS (b := 1) dX8_fillResult_55 rfl (by decide) (by decide) rfl ?_
        refine ev_goto 7 dX8_fillResult_58 (by decide) ?_
        exact hgo _
theorem cs_fillResult (hC : CFix K R Ln) {cs : List Nat} (hE : EnR K I B cs) (hO : SrtR I J cs) (hrk : RwK K R cs) {t x : Nat} (hT : TxO K R B Ln t) (ht : 34 ≤ t) {ex : EX} (hx : ExpR K I R 16 x ex) (hty : tyE ex = true) (hnm : ∀ k, k < 32 → ∀ r, rfC I J R A B cs t k = some r → ∃ nm, nm < 2147483648 ∧ I 194 r = nI nm) : EvM X mX8_fillResult (d + 17) [rV (some 3), rV (some x), rV (some t)] (K, I, J, R, A, B, Ln, n, sl) (fun r_ G' => r_ = none ∧ ∃ A', (∀ i, i ≠ 10 → A' i = A i) ∧ (∀ j v, (rlC I J R A B cs t ex 32)[j]? = some v → A' 10 j = nI v) ∧ G' = (K, u2 I 521 3 (nI (rlC I J R A B cs t ex 32).length), J, R, A', B, Ln, n, sl)) := by
  show Ev X mX8_fillResult (d + 17) 0 [some (rV (some 3)), some (rV (some x)), some (rV (some t)), none, none] [] (K, I, J, R, A, B, Ln, n, sl) _
  have go := fun w4 => lp_fr (X := X) (d := d) (n := n) (sl := sl) hC hE hO hrk hT ht hx hty hnm (Q := fun r_ G' => r_ = none ∧ ∃ A', (∀ i, i ≠ 10 → A' i = A i) ∧ (∀ j v, (rlC I J R A B cs t ex 32)[j]? = some v → A' 10 j = nI v) ∧ G' = (K, u2 I 521 3 (nI (rlC I J R A B cs t ex 32).length), J, R, A', B, Ln, n, sl)) (fun A' h1 h2 => ⟨rfl, A', h1, h2, rfl⟩) 32 0 A w4 rfl (fun _ _ => rfl) (fun j v hj => by simp [rlC] at hj)
  refine ev_aload_n dX8_fillResult_0 rfl ?_
  refine ev_iconstN 0 dX8_fillResult_1 (by decide) ?_
  refine ev_putI dX8_fillResult_2 fX8_131 (Or.inl rfl) (Or.inl rfl) hC.m ?_
  refine ev_iconstN 0 dX8_fillResult_5 (by decide) ?_
  refine ev_istore_nS dX8_fillResult_6 (by decide) rfl ?_
  exact go _
set_option maxRecDepth 100000 in
set_option maxHeartbeats 4000000 in
theorem lp_fm {Q : Option LV → GH → Prop} {h : Int32} {Inv : Nat → (Nat → Nat) → (Nat → Nat → Int32) → (Nat → Nat → Option Nat) → (Nat → Nat → Option Nat) → (Nat → Nat) → Nat → Nat → Prop}
    (h0 : ∀ (K : Nat → Nat) (I : Nat → Nat → Int32) (R B : Nat → Nat → Option Nat) (Ln : Nat → Nat) (n sl : Nat), Inv 0 K I R B Ln n sl → CFix K R Ln ∧ ∃ a m fs, AlR K I R B Ln n a m fs ∧ (if 2 < cfN I (nI 0) fs then (0 : Int32) else if 3 < cfN I (nI 1) fs then 1 else -1) = -1)
    (hs : ∀ (j : Nat) (K : Nat → Nat) (I : Nat → Nat → Int32) (R B : Nat → Nat → Option Nat) (Ln : Nat → Nat) (n sl : Nat), Inv (j + 1) K I R B Ln n sl → CFix K R Ln ∧ ∃ a m fs, AlR K I R B Ln n a m fs ∧ (if 2 < cfN I (nI 0) fs then (0 : Int32) else if 3 < cfN I (nI 1) fs then 1 else -1) ≠ -1 ∧ EvM X mX6_mergeDown (d + 10) [rV (some 7), iV (if 2 < cfN I (nI 0) fs then (0 : Int32) else if 3 < cfN I (nI 1) fs then 1 else -1), iV h] (K, I, J, R, A, B, Ln, n, sl) (fun r_ G' => ∃ (v : Int32) (K' : Nat → Nat) (I' : Nat → Nat → Int32) (R' B' : Nat → Nat → Option Nat) (Ln' : Nat → Nat) (n' sl' : Nat), r_ = some (iV v) ∧ G' = (K', I', J, R', A, B', Ln', n', sl') ∧ Inv j K' I' R' B' Ln' n' sl'))
    (hq : ∀ (K : Nat → Nat) (I : Nat → Nat → Int32) (R B : Nat → Nat → Option Nat) (Ln : Nat → Nat) (n sl : Nat), Inv 0 K I R B Ln n sl → Q none (K, I, J, R, A, B, Ln, n, sl)) : ∀ (k i : Nat) (K : Nat → Nat) (I : Nat → Nat → Int32) (R B : Nat → Nat → Option Nat) (Ln : Nat → Nat) (n sl : Nat) (w3 : Option LV), i + k ≤ 900 → Inv k K I R B Ln n sl → Ev X mX8_flushAndMerge (d + 11) 15 [some (rV (some 3)), some (iV h), some (iV (nI (i))), w3] [] (K, I, J, R, A, B, Ln, n, sl) Q := by
  intro k
  have lim : ∀ i : Nat, i ≤ 900 → ¬ (1000000 : Int32) ≤ nI i := fun i hi => by
    rw [show (1000000 : Int32) = nI 1000000 by decide, nle (by omega) (by omega)]; omega
  induction k with
  | zero =>
    intro i K I R B Ln n sl w3 hi hv
    have hq := hq K I R B Ln n sl hv
    obtain ⟨hC, a, m, fs, hA, ho⟩ := h0 K I R B Ln n sl hv
    have so := cs_overfull (X := X) (d := d + 6) (J := J) (A := A) (sl := sl) hC hA
    rw [ho] at so
    refine ev_iload_n dX8_flushAndMerge_15 rfl ?_
    refine ev_ldcw dX8_flushAndMerge_16 coX8_269 ?_
    refine ev_icmp_ge 52 dX8_flushAndMerge_19 (by decide) (fun c19 => absurd c19 (lim i (by omega))) (fun c19 => ?_)
    refine ev_aload_n dX8_flushAndMerge_22 rfl ?_
    refine ev_getR dX8_flushAndMerge_23 fX8_27 hC.m hC.R_st ?_
    refine ev_callV dX8_flushAndMerge_26 okX6_overfullLevel inX6_overfullLevel seX6_overfullLevel mlX8_270 hC.K_st (by decide) rfl [] rfl rfl (Nat.le_of_ble_eq_true rfl) (Nat.le_of_ble_eq_true rfl) (so) (fun r_ G_ h_ => ?_)
    obtain ⟨rfl, rfl⟩ := h_
    try dsimp only [Option.toList, List.cons_append, List.nil_append]
    refine ev_istore_nS dX8_flushAndMerge_29 (by decide) rfl ?_
    refine ev_iload_n dX8_flushAndMerge_30 rfl ?_
    refine ev_iconst (-1) dX8_flushAndMerge_31 (by decide) ?_
    refine ev_icmp_ne 36 dX8_flushAndMerge_32 (by decide) (fun c32 => absurd c32 (fun z => z rfl)) (fun c32 => ?_)
    refine ev_return dX8_flushAndMerge_35 rfl ?_
    exact hq
  | succ k ih =>
    intro i K I R B Ln n sl w3 hi hv
    obtain ⟨hC, a, m, fs, hA, ho, sm⟩ := hs k K I R B Ln n sl hv
    have so := cs_overfull (X := X) (d := d + 6) (J := J) (A := A) (sl := sl) hC hA
    have hgo := fun (K : Nat → Nat) (I : Nat → Nat → Int32) (R B : Nat → Nat → Option Nat) (Ln : Nat → Nat) (n sl : Nat) w3 hv => ih (i + 1) K I R B Ln n sl w3 (by omega) hv
    refine ev_iload_n dX8_flushAndMerge_15 rfl ?_
    refine ev_ldcw dX8_flushAndMerge_16 coX8_269 ?_
    refine ev_icmp_ge 52 dX8_flushAndMerge_19 (by decide) (fun c19 => absurd c19 (lim i (by omega))) (fun c19 => ?_)
    refine ev_aload_n dX8_flushAndMerge_22 rfl ?_
    refine ev_getR dX8_flushAndMerge_23 fX8_27 hC.m hC.R_st ?_
    refine ev_callV dX8_flushAndMerge_26 okX6_overfullLevel inX6_overfullLevel seX6_overfullLevel mlX8_270 hC.K_st (by decide) rfl [] rfl rfl (Nat.le_of_ble_eq_true rfl) (Nat.le_of_ble_eq_true rfl) (so) (fun r_ G_ h_ => ?_)
    obtain ⟨rfl, rfl⟩ := h_
    try dsimp only [Option.toList, List.cons_append, List.nil_append]
    refine ev_istore_nS dX8_flushAndMerge_29 (by decide) rfl ?_
    refine ev_iload_n dX8_flushAndMerge_30 rfl ?_
    refine ev_iconst (-1) dX8_flushAndMerge_31 (by decide) ?_
    refine ev_icmp_ne 36 dX8_flushAndMerge_32 (by decide) (fun c32 => ?_) (fun c32 => absurd c32 ho)
    refine ev_aload_n dX8_flushAndMerge_36 rfl ?_
    refine ev_getR dX8_flushAndMerge_37 fX8_27 hC.m hC.R_st ?_
    refine ev_iload_n dX8_flushAndMerge_40 rfl ?_
    refine ev_iload_n dX8_flushAndMerge_41 rfl ?_
    refine ev_callV dX8_flushAndMerge_42 okX6_mergeDown inX6_mergeDown seX6_mergeDown mlX8_174 hC.K_st (by decide) rfl [iV _, iV _] rfl rfl (Nat.le_of_ble_eq_true rfl) (Nat.le_of_ble_eq_true rfl) (sm) (fun r_ G_ h_ => ?_)
    obtain ⟨v_, K', I', R', B', Ln', n', sl', rfl, rfl, hv'⟩ := h_
    try dsimp only [Option.toList, List.cons_append, List.nil_append]
    refine ev_pop dX8_flushAndMerge_45 rfl ?_
    refine ev_iincNS (b := 1) dX8_flushAndMerge_46 rfl (by decide) (by decide) rfl ?_
    refine ev_goto 15 dX8_flushAndMerge_49 (by decide) ?_
    exact hgo K' I' R' B' Ln' n' sl' _ hv'
end C91
