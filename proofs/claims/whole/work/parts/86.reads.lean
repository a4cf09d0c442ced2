/-- a transaction: the object, its flags, its rows -/
def TxO (K : Nat → Nat) (R B : Nat → Nat → Option Nat) (Ln : Nat → Nat) (t : Nat) : Prop := K t = 7 ∧ R 451 t = some (t + 1) ∧ K (t + 1) = 101 ∧ Ln (t + 1) = 32 ∧ R 452 t = some (t + 2) ∧ K (t + 2) = 104 ∧ Ln (t + 2) = 32 ∧ ∀ k, k < 32 → ∀ r, B (t + 2) k = some r → K r = 3
/-- the row of a key at a stamp, and as a transaction sees it -/
def raC (I : Nat → Nat → Int32) (J : Nat → Nat → Int64) (R : Nat → Nat → Option Nat) (cs : List Nat) (k u : Int32) : Option Nat := (rsC I J cs (plcL (nI 0) (nI 0) k) u).bind (R 5)
def rfC (I : Nat → Nat → Int32) (J : Nat → Nat → Int64) (R : Nat → Nat → Option Nat) (A : Nat → Nat → Int32) (B : Nat → Nat → Option Nat) (cs : List Nat) (t k : Nat) : Option Nat := if A (t + 1) k = 0 then raC I J R cs (nI k) (I 448 t) else B (t + 2) k
def lsC (I : Nat → Nat → Int32) (J : Nat → Nat → Int64) (cs : List Nat) (k : Int32) : Int32 := ((rsC I J cs (plcL (nI 0) (nI 0) k) 2147483647).map (I 4)).getD 0
def lateB (I : Nat → Nat → Int32) (J : Nat → Nat → Int64) (A : Nat → Nat → Int32) (cs : List Nat) (t k : Nat) : Bool := decide (¬ A (t + 1) k = 0) && decide (I 448 t < lsC I J cs (nI k))
def rwO (I : Nat → Nat → Int32) : Option Nat → Nat → Int32
  | none => fun _ => 0
  | some r => rwI I r
/-- the indexes -/
def IxR (K : Nat → Nat) (I : Nat → Nat → Int32) (R B : Nat → Nat → Option Nat) (ixn : Nat) (ie : Nat → EX) : Prop := I 515 3 = nI ixn ∧ ixn ≤ 3 ∧ ∀ i, i < ixn → ∃ x, B 5 i = some x ∧ ExpR K I R 16 x (ie i) ∧ tyE (ie i) = false
/-- the rows of entries are rows -/
def RwK (K : Nat → Nat) (R : Nat → Nat → Option Nat) (cs : List Nat) : Prop := ∀ e ∈ cs, ∀ r, R 5 e = some r → K r = 3
theorem raC_K {K : Nat → Nat} {I : Nat → Nat → Int32} {J : Nat → Nat → Int64} {R : Nat → Nat → Option Nat} {cs : List Nat} {k u : Int32} (h : RwK K R cs) {r : Nat} (hr : raC I J R cs k u = some r) : K r = 3 := by
  unfold raC at hr
  cases hx : rsC I J cs (plcL (nI 0) (nI 0) k) u with
  | none => rw [hx] at hr; cases hr
  | some e => rw [hx] at hr; exact h e (List.mem_of_find?_eq_some hx) r hr
theorem anyN_no {p : Nat → Bool} {e : Nat} (h : anyN p e = false) (hp : p e = false) : anyN p (e + 1) = false := by
  unfold anyN
  rw [h, hp]; rfl
section C86
variable {X : CX} {d : Nat} {K : Nat → Nat} {I : Nat → Nat → Int32} {J : Nat → Nat → Int64} {R : Nat → Nat → Option Nat} {A : Nat → Nat → Int32} {B : Nat → Nat → Option Nat} {Ln : Nat → Nat} {n sl : Nat}
set_option maxRecDepth 100000 in
set_option maxHeartbeats 4000000 in
theorem cs_rowAt2 (hC : CFix K R Ln) {cs : List Nat} (hE : EnR K I B cs) (hO : SrtR I J cs) {k u : Int32} : EvM X mX6_rowAt (d + 3) [rV (some 7), iV k, iV u] (K, I, J, R, A, B, Ln, n, sl) (fun r_ G' => r_ = some (rV (raC I J R cs k u)) ∧ G' = (K, I, J, R, A, B, Ln, n, sl)) := by
  obtain ⟨c, hc, hb⟩ := srt_cb (plcL (nI 0) (nI 0) k) u hO
  have h := cs_rowAt (X := X) (d := d) (A := A) (n := n) (sl := sl) hC hE hc hb
  rw [sn_rs hO hb] at h
  exact h
theorem cs_last2 (hC : CFix K R Ln) {cs : List Nat} (hE : EnR K I B cs) (hO : SrtR I J cs) {k : Int32} : EvM X mX6_lastStampOf (d + 3) [rV (some 7), iV k] (K, I, J, R, A, B, Ln, n, sl) (fun r_ G' => r_ = some (iV (lsC I J cs k)) ∧ G' = (K, I, J, R, A, B, Ln, n, sl)) := by
  obtain ⟨c, hc, hb⟩ := srt_cb (plcL (nI 0) (nI 0) k) 2147483647 hO
  have h := cs_lastStampOf (X := X) (d := d) (A := A) (n := n) (sl := sl) hC hE hc hb
  rw [sn_rs hO hb] at h
  exact h
theorem cs_rowFor (hC : CFix K R Ln) {cs : List Nat} (hE : EnR K I B cs) (hO : SrtR I J cs) {t : Nat} (hT : TxO K R B Ln t) {k : Nat} (hk : k < 32) : EvM X mX8_rowFor (d + 4) [rV (some 3), rV (some t), iV (nI k)] (K, I, J, R, A, B, Ln, n, sl) (fun r_ G' => r_ = some (rV (rfC I J R A B cs t k)) ∧ G' = (K, I, J, R, A, B, Ln, n, sl)) := by
  unfold rfC
  show Ev X mX8_rowFor (d + 4) 0 [some (rV (some 3)), some (rV (some t)), some (iV (nI k))] [] (K, I, J, R, A, B, Ln, n, sl) _
  refine ev_aload_n dX8_rowFor_0 rfl ?_
  refine ev_getR dX8_rowFor_1 fX8_225 hT.1 hT.2.1 ?_
  refine ev_iload_n dX8_rowFor_4 rfl ?_
  refine ev_zald dX8_rowFor_5 hT.2.2.1 hT.2.2.2.1 (by decide) (by omega) ?_
  refine ev_if_eq 18 dX8_rowFor_6 (by decide) (fun c6 => ?_) (fun c6 => ?_)
  · refine ev_aload_n dX8_rowFor_18 rfl ?_
    refine ev_getR dX8_rowFor_19 fX8_27 hC.m hC.R_st ?_
    refine ev_iload_n dX8_rowFor_22 rfl ?_
    refine ev_aload_n dX8_rowFor_23 rfl ?_
    refine ev_getI dX8_rowFor_24 fX8_121 hT.1 ?_
    refine ev_callV dX8_rowFor_27 okX6_rowAt inX6_rowAt seX6_rowAt mlX8_233 hC.K_st (by decide) rfl [iV _, iV _] rfl rfl (Nat.le_of_ble_eq_true rfl) (Nat.le_of_ble_eq_true rfl) (cs_rowAt2 hC hE hO) (fun r_ G_ h_ => ?_)
    obtain ⟨rfl, rfl⟩ := h_
    try dsimp only [Option.toList, List.cons_append, List.nil_append]
    refine ev_areturn dX8_rowFor_30 rfl ?_
    first | (rw [if_pos c6]; exact ⟨rfl, rfl⟩) | (rw [if_neg c6]; exact ⟨rfl, rfl⟩)
  · refine ev_aload_n dX8_rowFor_9 rfl ?_
    refine ev_getR dX8_rowFor_10 fX8_229 hT.1 hT.2.2.2.2.1 ?_
    refine ev_iload_n dX8_rowFor_13 rfl ?_
    refine ev_aald (q := 4) dX8_rowFor_14 hT.2.2.2.2.2.1 (by decide) (by decide) hT.2.2.2.2.2.2.1 (by decide) (by omega) rfl ?_
    refine ev_goto 30 dX8_rowFor_15 (by decide) ?_
    refine ev_areturn dX8_rowFor_30 rfl ?_
    first | (rw [if_pos c6]; exact ⟨rfl, rfl⟩) | (rw [if_neg c6]; exact ⟨rfl, rfl⟩)
set_option maxRecDepth 100000 in
set_option maxHeartbeats 4000000 in
theorem lp_late {Q : Option LV → GH → Prop} (hC : CFix K R Ln) {cs : List Nat} (hE : EnR K I B cs) (hO : SrtR I J cs) {t : Nat} (hT : TxO K R B Ln t) (hq : Q (some (iV (bZ (anyN (lateB I J A cs t) 32)))) (K, I, J, R, A, B, Ln, n, sl)) : ∀ (g k : Nat), k + g = 32 → anyN (lateB I J A cs t) k = false → Ev X mX8_isTooLate (d + 4) 2 [some (rV (some 3)), some (rV (some t)), some (iV (nI (k)))] [] (K, I, J, R, A, B, Ln, n, sl) Q := by
  intro g
  induction g with
  | zero =>
    intro k hk ha
    have e1 : k = 32 := by omega
    subst e1
    rw [ha] at hq
    refine ev_iload_n dX8_isTooLate_2 rfl ?_
    refine ev_bipushN 32 dX8_isTooLate_3 (by decide) ?_
    refine ev_icmp_geN 40 dX8_isTooLate_5 (by decide) (by omega) (by omega) (fun c5 => ?_) (fun c5 => absurd c5 (by omega))
    refine ev_iconstN 0 dX8_isTooLate_40 (by decide) ?_
    refine ev_zreturn dX8_isTooLate_41 rfl (by decide) ?_
    exact hq
  | succ g ih =>
    intro k hk ha
    have hgo := fun z => ih (k + 1) (by omega) (anyN_no ha z)
    by_cases hw : A (t + 1) k = 0
    · have hl : lateB I J A cs t k = false := by unfold lateB; rw [decide_eq_false (fun z => z hw)]; rfl
      have hgo := hgo hl
      refine ev_iload_n dX8_isTooLate_2 rfl ?_
      refine ev_bipushN 32 dX8_isTooLate_3 (by decide) ?_
      refine ev_icmp_geN 40 dX8_isTooLate_5 (by decide) (by omega) (by omega) (fun c5 => absurd c5 (by omega)) (fun c5 => ?_)
      refine ev_aload_n dX8_isTooLate_8 rfl ?_
      refine ev_getR dX8_isTooLate_9 fX8_225 hT.1 hT.2.1 ?_
      refine ev_iload_n dX8_isTooLate_12 rfl ?_
      refine ev_zald dX8_isTooLate_13 hT.2.2.1 hT.2.2.2.1 (by decide) (by omega) ?_
      refine ev_if_eq 34 dX8_isTooLate_14 (by decide) (fun c14 => ?_) (fun c14 => absurd hw c14)
      refine ev_iincNS (b := 1) dX8_isTooLate_34 rfl (by decide) (by decide) rfl ?_
      refine ev_goto 2 dX8_isTooLate_37 (by decide) ?_
      exact hgo
    · have sl2 := cs_last2 (X := X) (d := d) (A := A) (n := n) (sl := sl) (k := nI k) hC hE hO
      by_cases hlt : I 448 t < lsC I J cs (nI k)
      · have hl : lateB I J A cs t k = true := by unfold lateB; rw [decide_eq_true hw, decide_eq_true hlt]; rfl
        have hall : anyN (lateB I J A cs t) 32 = true := anyN_iff.mpr ⟨k, by omega, hl⟩
        rw [hall] at hq
        refine ev_iload_n dX8_isTooLate_2 rfl ?_
        refine ev_bipushN 32 dX8_isTooLate_3 (by decide) ?_
        refine ev_icmp_geN 40 dX8_isTooLate_5 (by decide) (by omega) (by omega) (fun c5 => absurd c5 (by omega)) (fun c5 => ?_)
        refine ev_aload_n dX8_isTooLate_8 rfl ?_
        refine ev_getR dX8_isTooLate_9 fX8_225 hT.1 hT.2.1 ?_
        refine ev_iload_n dX8_isTooLate_12 rfl ?_
        refine ev_zald dX8_isTooLate_13 hT.2.2.1 hT.2.2.2.1 (by decide) (by omega) ?_
        refine ev_if_eq 34 dX8_isTooLate_14 (by decide) (fun c14 => absurd c14 hw) (fun c14 => ?_)
        refine ev_aload_n dX8_isTooLate_17 rfl ?_
        refine ev_getR dX8_isTooLate_18 fX8_27 hC.m hC.R_st ?_
        refine ev_iload_n dX8_isTooLate_21 rfl ?_
        refine ev_callV dX8_isTooLate_22 okX6_lastStampOf inX6_lastStampOf seX6_lastStampOf mlX8_237 hC.K_st (by decide) rfl [iV _] rfl rfl (Nat.le_of_ble_eq_true rfl) (Nat.le_of_ble_eq_true rfl) (sl2) (fun r_ G_ h_ => ?_)
        obtain ⟨rfl, rfl⟩ := h_
        try dsimp only [Option.toList, List.cons_append, List.nil_append]
        refine ev_aload_n dX8_isTooLate_25 rfl ?_
        refine ev_getI dX8_isTooLate_26 fX8_121 hT.1 ?_
        refine ev_icmp_le 34 dX8_isTooLate_29 (by decide) (fun c29 => absurd c29 (Int32.not_le.mpr hlt)) (fun c29 => ?_)
        refine ev_iconstN 1 dX8_isTooLate_32 (by decide) ?_
        refine ev_zreturn dX8_isTooLate_33 rfl (by decide) ?_
        exact hq
      · have hl : lateB I J A cs t k = false := by unfold lateB; rw [decide_eq_false hlt, Bool.and_false]
        have hgo := hgo hl
        refine ev_iload_n dX8_isTooLate_2 rfl ?_
        refine ev_bipushN 32 dX8_isTooLate_3 (by decide) ?_
        refine ev_icmp_geN 40 dX8_isTooLate_5 (by decide) (by omega) (by omega) (fun c5 => absurd c5 (by omega)) (fun c5 => ?_)
        refine ev_aload_n dX8_isTooLate_8 rfl ?_
        refine ev_getR dX8_isTooLate_9 fX8_225 hT.1 hT.2.1 ?_
        refine ev_iload_n dX8_isTooLate_12 rfl ?_
        refine ev_zald dX8_isTooLate_13 hT.2.2.1 hT.2.2.2.1 (by decide) (by omega) ?_
        refine ev_if_eq 34 dX8_isTooLate_14 (by decide) (fun c14 => absurd c14 hw) (fun c14 => ?_)
        refine ev_aload_n dX8_isTooLate_17 rfl ?_
        refine ev_getR dX8_isTooLate_18 fX8_27 hC.m hC.R_st ?_
        refine ev_iload_n dX8_isTooLate_21 rfl ?_
        refine ev_callV dX8_isTooLate_22 okX6_lastStampOf inX6_lastStampOf seX6_lastStampOf mlX8_237 hC.K_st (by decide) rfl [iV _] rfl rfl (Nat.le_of_ble_eq_true rfl) (Nat.le_of_ble_eq_true rfl) (sl2) (fun r_ G_ h_ => ?_)
        obtain ⟨rfl, rfl⟩ := h_
        try dsimp only [Option.toList, List.cons_append, List.nil_append]
        refine ev_aload_n dX8_isTooLate_25 rfl ?_
        refine ev_getI dX8_isTooLate_26 fX8_121 hT.1 ?_
        refine ev_icmp_le 34 dX8_isTooLate_29 (by decide) (fun c29 => ?_) (fun c29 => absurd (Int32.not_lt.mp hlt) c29)
        refine ev_iincNS (b := 1) dX8_isTooLate_34 rfl (by decide) (by decide) rfl ?_
        refine ev_goto 2 dX8_isTooLate_37 (by decide) ?_
        exact hgo
theorem cs_isTooLate (hC : CFix K R Ln) {cs : List Nat} (hE : EnR K I B cs) (hO : SrtR I J cs) {t : Nat} (hT : TxO K R B Ln t) : EvM X mX8_isTooLate (d + 4) [rV (some 3), rV (some t)] (K, I, J, R, A, B, Ln, n, sl) (fun r_ G' => r_ = some (iV (bZ (anyN (lateB I J A cs t) 32))) ∧ G' = (K, I, J, R, A, B, Ln, n, sl)) := by
  show Ev X mX8_isTooLate (d + 4) 0 [some (rV (some 3)), some (rV (some t)), none] [] (K, I, J, R, A, B, Ln, n, sl) _
  refine ev_iconstN 0 dX8_isTooLate_0 (by decide) ?_
  refine ev_istore_nS dX8_isTooLate_1 (by decide) rfl ?_
  exact lp_late hC hE hO hT ⟨rfl, rfl⟩ 32 0 rfl rfl
set_option maxRecDepth 100000 in
set_option maxHeartbeats 4000000 in
theorem cs_valueIn (hC : CFix K R Ln) {ixn : Nat} {ie : Nat → EX} (hX : IxR K I R B ixn ie) {i r : Nat} (hi : i < ixn) (hr : K r = 3) : EvM X mX8_valueIn (d + 17) [rV (some 3), iV (nI i), rV (some r)] (K, I, J, R, A, B, Ln, n, sl) (fun r_ G' => r_ = some (iV (vlE (rwI I r) (ie i))) ∧ G' = (K, I, J, R, A, B, Ln, n, sl)) := by
  obtain ⟨x1, x2, x3⟩ := hX
  obtain ⟨x, hB, hEx, hty⟩ := x3 i hi
  have hKx := hEx.kind
  have sn := cs_numberOf (X := X) (d := d) (J := J) (A := A) (B := B) (Ln := Ln) (n := n) (sl := sl) hr hEx hty
  show Ev X mX8_valueIn (d + 17) 0 [some (rV (some 3)), some (iV (nI i)), some (rV (some r))] [] (K, I, J, R, A, B, Ln, n, sl) _
  refine ev_aload_n dX8_valueIn_0 rfl ?_
  refine ev_getR dX8_valueIn_1 fX8_15 hC.m hC.R_ix ?_
  refine ev_iload_n dX8_valueIn_4 rfl ?_
  refine ev_aald (q := 2) dX8_valueIn_5 hC.K_ix (by decide) (by decide) hC.L_ix (by decide) (by omega) hB ?_
  refine ev_aload_n dX8_valueIn_6 rfl ?_
  refine ev_callS dX8_valueIn_7 okX1_numberOf stX1_numberOf mlX8_252 [rV _, rV _] rfl rfl (Nat.le_of_ble_eq_true rfl) (Nat.le_of_ble_eq_true rfl) (sn) (fun r_ G_ h_ => ?_)
  obtain ⟨rfl, rfl⟩ := h_
  try dsimp only [Option.toList, List.cons_append, List.nil_append]
  refine ev_ireturn dX8_valueIn_10 rfl ?_
  exact ⟨rfl, rfl⟩
theorem cs_hasOwn (hC : CFix K R Ln) {ixn : Nat} {ie : Nat → EX} (hX : IxR K I R B ixn ie) {i : Nat} {o1 o2 : Option Nat} (hi : i < ixn) (h1 : ∀ r, o1 = some r → K r = 3) (h2 : ∀ r, o2 = some r → K r = 3) : EvM X mX8_hasOwnValue (d + 18) [rV (some 3), iV (nI i), rV o1, rV o2] (K, I, J, R, A, B, Ln, n, sl) (fun r_ G' => r_ = some (iV (bZ (goneB (o1).isSome (o2).isSome (vlE (rwO I (o1)) (ie i)) (vlE (rwO I (o2)) (ie i))))) ∧ G' = (K, I, J, R, A, B, Ln, n, sl)) := by
  show Ev X mX8_hasOwnValue (d + 18) 0 [some (rV (some 3)), some (iV (nI i)), some (rV o1), some (rV o2)] [] (K, I, J, R, A, B, Ln, n, sl) _
  have hi3 : i < 3 := by have := hX.2.1; omega
  cases o1 with
  | none =>
    refine ev_aload_n dX8_hasOwnValue_0 rfl ?_
    refine ev_ifnull 27 dX8_hasOwnValue_1 (by decide) (fun c1 => ?_) (fun x c1 => by cases c1)
    refine ev_iconstN 0 dX8_hasOwnValue_27 (by decide) ?_
    refine ev_zreturn dX8_hasOwnValue_28 rfl (by decide) ?_
    exact ⟨rfl, rfl⟩
  | some r1 =>
    have k1 := h1 r1 rfl
    cases o2 with
    | none =>
      refine ev_aload_n dX8_hasOwnValue_0 rfl ?_
      refine ev_ifnull 27 dX8_hasOwnValue_1 (by decide) (fun c1 => by cases c1) (fun x c1 => ?_)
      refine ev_aload_n dX8_hasOwnValue_4 rfl ?_
      refine ev_ifnull 23 dX8_hasOwnValue_5 (by decide) (fun c5 => ?_) (fun x c5 => by cases c5)
      refine ev_iconstN 1 dX8_hasOwnValue_23 (by decide) ?_
      refine ev_goto 28 dX8_hasOwnValue_24 (by decide) ?_
      refine ev_zreturn dX8_hasOwnValue_28 rfl (by decide) ?_
      exact ⟨rfl, rfl⟩
    | some r2 =>
      have k2 := h2 r2 rfl
      have s1 := cs_valueIn (X := X) (d := d) (J := J) (A := A) (n := n) (sl := sl) hC hX hi k1
      have s2 := cs_valueIn (X := X) (d := d) (J := J) (A := A) (n := n) (sl := sl) hC hX hi k2
      unfold goneB
      show Ev X mX8_hasOwnValue (d + 18) 0 [some (rV (some 3)), some (iV (nI i)), some (rV (some r1)), some (rV (some r2))] [] (K, I, J, R, A, B, Ln, n, sl) (fun r_ G' => r_ = some (iV (bZ (true && (!true || decide (¬ vlE (rwI I r2) (ie i) = vlE (rwI I r1) (ie i)))))) ∧ G' = (K, I, J, R, A, B, Ln, n, sl))
      refine ev_aload_n dX8_hasOwnValue_0 rfl ?_
      refine ev_ifnull 27 dX8_hasOwnValue_1 (by decide) (fun c1 => by cases c1) (fun x c1 => ?_)
      refine ev_aload_n dX8_hasOwnValue_4 rfl ?_
      refine ev_ifnull 23 dX8_hasOwnValue_5 (by decide) (fun c5 => by cases c5) (fun x c5 => ?_)
      refine ev_aload_n dX8_hasOwnValue_8 rfl ?_
      refine ev_iload_n dX8_hasOwnValue_9 rfl ?_
      refine ev_aload_n dX8_hasOwnValue_10 rfl ?_
      refine ev_callV dX8_hasOwnValue_11 okX8_valueIn inX8_valueIn seX8_valueIn mlX8_248 hC.m (by decide) rfl [iV _, rV _] rfl rfl (Nat.le_of_ble_eq_true rfl) (Nat.le_of_ble_eq_true rfl) (s1) (fun r_ G_ h_ => ?_)
      obtain ⟨rfl, rfl⟩ := h_
      try dsimp only [Option.toList, List.cons_append, List.nil_append]
      refine ev_aload_n dX8_hasOwnValue_14 rfl ?_
      refine ev_iload_n dX8_hasOwnValue_15 rfl ?_
      refine ev_aload_n dX8_hasOwnValue_16 rfl ?_
      refine ev_callV dX8_hasOwnValue_17 okX8_valueIn inX8_valueIn seX8_valueIn mlX8_248 hC.m (by decide) rfl [iV _, rV _] rfl rfl (Nat.le_of_ble_eq_true rfl) (Nat.le_of_ble_eq_true rfl) (s2) (fun r_ G_ h_ => ?_)
      obtain ⟨rfl, rfl⟩ := h_
      try dsimp only [Option.toList, List.cons_append, List.nil_append]
      refine ev_icmp_eq 27 dX8_hasOwnValue_20 (by decide) (fun c20 => ?_) (fun c20 => ?_)
      · refine ev_iconstN 0 dX8_hasOwnValue_27 (by decide) ?_
        refine ev_zreturn dX8_hasOwnValue_28 rfl (by decide) ?_
        first | (rw [decide_eq_false (fun z => z c20.symm)]; exact ⟨rfl, rfl⟩) | (rw [decide_eq_true (show ¬ vlE (rwI I r2) (ie i) = vlE (rwI I r1) (ie i) from fun z => c20 z.symm)]; exact ⟨rfl, rfl⟩)
      · refine ev_iconstN 1 dX8_hasOwnValue_23 (by decide) ?_
        refine ev_goto 28 dX8_hasOwnValue_24 (by decide) ?_
        refine ev_zreturn dX8_hasOwnValue_28 rfl (by decide) ?_
        first | (rw [decide_eq_false (fun z => z c20.symm)]; exact ⟨rfl, rfl⟩) | (rw [decide_eq_true (show ¬ vlE (rwI I r2) (ie i) = vlE (rwI I r1) (ie i) from fun z => c20 z.symm)]; exact ⟨rfl, rfl⟩)
theorem goneB_sw {a b : Bool} {x y : Int32} : goneB a b x y = goneB a b y x := by
  unfold goneB
  rw [show decide (¬ y = x) = decide (¬ x = y) from decide_eq_decide.mpr ⟨fun h z => h z.symm, fun h z => h z.symm⟩]
set_option maxRecDepth 100000 in
set_option maxHeartbeats 4000000 in
theorem ixE_len {had has : Bool} {o v : Int32} {i : Nat} {k : Int32} : (ixE had has o v i k).length = (if goneB had has o v = true then 1 else 0) + (if goneB has had o v = true then 1 else 0) := by
  unfold ixE
  rw [List.length_append]
  congr 1
  · split <;> rfl
  · split <;> rfl
theorem lp_cie {Q : Option LV → GH → Prop} (hC : CFix K R Ln) {ixn : Nat} {ie : Nat → EX} (hX : IxR K I R B ixn ie) {old now : Option Nat} (h1 : ∀ r, old = some r → K r = 3) (h2 : ∀ r, now = some r → K r = 3) {k : Int32} (hq : Q (some (iV (nI (ixL old.isSome now.isSome (rwO I old) (rwO I now) ie k ixn).length))) (K, I, J, R, A, B, Ln, n, sl)) : ∀ (g i : Nat), i + g = ixn → Ev X mX8_countIndexEntries (d + 19) 5 [some (rV (some 3)), some (rV old), some (rV now), some (iV (nI ((ixL old.isSome now.isSome (rwO I old) (rwO I now) ie k i).length))), some (iV (nI (i)))] [] (K, I, J, R, A, B, Ln, n, sl) Q := by
  intro g
  have hx3 := hX.2.1
  induction g with
  | zero =>
    intro i hi
    have e1 : i = ixn := by omega
    subst e1
    refine ev_iload dX8_countIndexEntries_5 rfl ?_
    refine ev_aload_n dX8_countIndexEntries_7 rfl ?_
    refine ev_getIv dX8_countIndexEntries_8 fX8_72 hC.m hX.1 ?_
    refine ev_icmp_geN 58 dX8_countIndexEntries_11 (by decide) (by omega) (by omega) (fun c11 => ?_) (fun c11 => absurd c11 (by omega))
    refine ev_iload_n dX8_countIndexEntries_58 rfl ?_
    refine ev_ireturn dX8_countIndexEntries_59 rfl ?_
    exact hq
  | succ g ih =>
    intro i hi
    have s1 := cs_hasOwn (X := X) (d := d) (J := J) (A := A) (n := n) (sl := sl) hC hX (show i < ixn by omega) h1 h2
    have s2 := cs_hasOwn (X := X) (d := d) (J := J) (A := A) (n := n) (sl := sl) hC hX (show i < ixn by omega) h2 h1
    rw [goneB_sw] at s2
    have hgo := ih (i + 1) (by omega)
    rw [ixL_s, List.length_append, ixE_len] at hgo
    cases b1 : goneB (old).isSome (now).isSome (vlE (rwO I (old)) (ie i)) (vlE (rwO I (now)) (ie i)) with
    | true =>
      rw [b1] at s1 hgo
      cases b2 : goneB now.isSome old.isSome (vlE (rwO I old) (ie i)) (vlE (rwO I now) (ie i)) with
      | true =>
        rw [b2] at s2 hgo
        refine ev_iload dX8_countIndexEntries_5 rfl ?_
        refine ev_aload_n dX8_countIndexEntries_7 rfl ?_
        refine ev_getIv dX8_countIndexEntries_8 fX8_72 hC.m hX.1 ?_
        refine ev_icmp_geN 58 dX8_countIndexEntries_11 (by decide) (by omega) (by omega) (fun c11 => absurd c11 (by omega)) (fun c11 => ?_)
        refine ev_iload_n dX8_countIndexEntries_14 rfl ?_
        refine ev_aload_n dX8_countIndexEntries_15 rfl ?_
        refine ev_iload dX8_countIndexEntries_16 rfl ?_
        refine ev_aload_n dX8_countIndexEntries_18 rfl ?_
        refine ev_aload_n dX8_countIndexEntries_19 rfl ?_
        refine ev_callV dX8_countIndexEntries_20 okX8_hasOwnValue inX8_hasOwnValue seX8_hasOwnValue mlX8_244 hC.m (by decide) rfl [iV _, rV _, rV _] rfl rfl (Nat.le_of_ble_eq_true rfl) (Nat.le_of_ble_eq_true rfl) (s1) (fun r_ G_ h_ => ?_)
        obtain ⟨rfl, rfl⟩ := h_
        try dsimp only [Option.toList, List.cons_append, List.nil_append]
        refine ev_if_eq 30 dX8_countIndexEntries_23 (by decide) (fun c23 => absurd c23 (by decide)) (fun c23 => ?_)
        refine ev_iconstN 1 dX8_countIndexEntries_26 (by decide) ?_
        refine ev_goto 31 dX8_countIndexEntries_27 (by decide) ?_
        refine ev_iaddN dX8_countIndexEntries_31 ?_
        refine ev_istore_nS dX8_countIndexEntries_32 (by decide) rfl ?_
        refine ev_iload_n dX8_countIndexEntries_33 rfl ?_
        refine ev_aload_n dX8_countIndexEntries_34 rfl ?_
        refine ev_iload dX8_countIndexEntries_35 rfl ?_
        refine ev_aload_n dX8_countIndexEntries_37 rfl ?_
        refine ev_aload_n dX8_countIndexEntries_38 rfl ?_
        refine ev_callV dX8_countIndexEntries_39 okX8_hasOwnValue inX8_hasOwnValue seX8_hasOwnValue mlX8_244 hC.m (by decide) rfl [iV _, rV _, rV _] rfl rfl (Nat.le_of_ble_eq_true rfl) (Nat.le_of_ble_eq_true rfl) (s2) (fun r_ G_ h_ => ?_)
        obtain ⟨rfl, rfl⟩ := h_
        try dsimp only [Option.toList, List.cons_append, List.nil_append]
        refine ev_if_eq 49 dX8_countIndexEntries_42 (by decide) (fun c42 => absurd c42 (by decide)) (fun c42 => ?_)
        refine ev_iconstN 1 dX8_countIndexEntries_45 (by decide) ?_
        refine ev_goto 50 dX8_countIndexEntries_46 (by decide) ?_
        refine ev_iaddN dX8_countIndexEntries_50 ?_
        refine ev_istore_nS dX8_countIndexEntries_51 (by decide) rfl ?_
        refine ev_iincNS (b := 1) dX8_countIndexEntries_52 rfl (by decide) (by decide) rfl ?_
        refine ev_goto 5 dX8_countIndexEntries_55 (by decide) ?_
        exact hgo
      | false =>
        rw [b2] at s2 hgo
        refine ev_iload dX8_countIndexEntries_5 rfl ?_
        refine ev_aload_n dX8_countIndexEntries_7 rfl ?_
        refine ev_getIv dX8_countIndexEntries_8 fX8_72 hC.m hX.1 ?_
        refine ev_icmp_geN 58 dX8_countIndexEntries_11 (by decide) (by omega) (by omega) (fun c11 => absurd c11 (by omega)) (fun c11 => ?_)
        refine ev_iload_n dX8_countIndexEntries_14 rfl ?_
        refine ev_aload_n dX8_countIndexEntries_15 rfl ?_
        refine ev_iload dX8_countIndexEntries_16 rfl ?_
        refine ev_aload_n dX8_countIndexEntries_18 rfl ?_
        refine ev_aload_n dX8_countIndexEntries_19 rfl ?_
        refine ev_callV dX8_countIndexEntries_20 okX8_hasOwnValue inX8_hasOwnValue seX8_hasOwnValue mlX8_244 hC.m (by decide) rfl [iV _, rV _, rV _] rfl rfl (Nat.le_of_ble_eq_true rfl) (Nat.le_of_ble_eq_true rfl) (s1) (fun r_ G_ h_ => ?_)
        obtain ⟨rfl, rfl⟩ := h_
        try dsimp only [Option.toList, List.cons_append, List.nil_append]
        refine ev_if_eq 30 dX8_countIndexEntries_23 (by decide) (fun c23 => absurd c23 (by decide)) (fun c23 => ?_)
        refine ev_iconstN 1 dX8_countIndexEntries_26 (by decide) ?_
        refine ev_goto 31 dX8_countIndexEntries_27 (by decide) ?_
        refine ev_iaddN dX8_countIndexEntries_31 ?_
        refine ev_istore_nS dX8_countIndexEntries_32 (by decide) rfl ?_
        refine ev_iload_n dX8_countIndexEntries_33 rfl ?_
        refine ev_aload_n dX8_countIndexEntries_34 rfl ?_
        refine ev_iload dX8_countIndexEntries_35 rfl ?_
        refine ev_aload_n dX8_countIndexEntries_37 rfl ?_
        refine ev_aload_n dX8_countIndexEntries_38 rfl ?_
        refine ev_callV dX8_countIndexEntries_39 okX8_hasOwnValue inX8_hasOwnValue seX8_hasOwnValue mlX8_244 hC.m (by decide) rfl [iV _, rV _, rV _] rfl rfl (Nat.le_of_ble_eq_true rfl) (Nat.le_of_ble_eq_true rfl) (s2) (fun r_ G_ h_ => ?_)
        obtain ⟨rfl, rfl⟩ := h_
        try dsimp only [Option.toList, List.cons_append, List.nil_append]
        refine ev_if_eq 49 dX8_countIndexEntries_42 (by decide) (fun c42 => ?_) (fun c42 => absurd c42 (fun z => z rfl))
        refine ev_iconstN 0 dX8_countIndexEntries_49 (by decide) ?_
        refine ev_iaddN dX8_countIndexEntries_50 ?_
        refine ev_istore_nS dX8_countIndexEntries_51 (by decide) rfl ?_
        refine ev_iincNS (b := 1) dX8_countIndexEntries_52 rfl (by decide) (by decide) rfl ?_
        refine ev_goto 5 dX8_countIndexEntries_55 (by decide) ?_
        exact hgo
    | false =>
      rw [b1] at s1 hgo
      cases b2 : goneB now.isSome old.isSome (vlE (rwO I old) (ie i)) (vlE (rwO I now) (ie i)) with
      | true =>
        rw [b2] at s2 hgo
        refine ev_iload dX8_countIndexEntries_5 rfl ?_
        refine ev_aload_n dX8_countIndexEntries_7 rfl ?_
        refine ev_getIv dX8_countIndexEntries_8 fX8_72 hC.m hX.1 ?_
        refine ev_icmp_geN 58 dX8_countIndexEntries_11 (by decide) (by omega) (by omega) (fun c11 => absurd c11 (by omega)) (fun c11 => ?_)
        refine ev_iload_n dX8_countIndexEntries_14 rfl ?_
        refine ev_aload_n dX8_countIndexEntries_15 rfl ?_
        refine ev_iload dX8_countIndexEntries_16 rfl ?_
        refine ev_aload_n dX8_countIndexEntries_18 rfl ?_
        refine ev_aload_n dX8_countIndexEntries_19 rfl ?_
        refine ev_callV dX8_countIndexEntries_20 okX8_hasOwnValue inX8_hasOwnValue seX8_hasOwnValue mlX8_244 hC.m (by decide) rfl [iV _, rV _, rV _] rfl rfl (Nat.le_of_ble_eq_true rfl) (Nat.le_of_ble_eq_true rfl) (s1) (fun r_ G_ h_ => ?_)
        obtain ⟨rfl, rfl⟩ := h_
        try dsimp only [Option.toList, List.cons_append, List.nil_append]
        refine ev_if_eq 30 dX8_countIndexEntries_23 (by decide) (fun c23 => ?_) (fun c23 => absurd c23 (fun z => z rfl))
        refine ev_iconstN 0 dX8_countIndexEntries_30 (by decide) ?_
        refine ev_iaddN dX8_countIndexEntries_31 ?_
        refine ev_istore_nS dX8_countIndexEntries_32 (by decide) rfl ?_
        refine ev_iload_n dX8_countIndexEntries_33 rfl ?_
        refine ev_aload_n dX8_countIndexEntries_34 rfl ?_
        refine ev_iload dX8_countIndexEntries_35 rfl ?_
        refine ev_aload_n dX8_countIndexEntries_37 rfl ?_
        refine ev_aload_n dX8_countIndexEntries_38 rfl ?_
        refine ev_callV dX8_countIndexEntries_39 okX8_hasOwnValue inX8_hasOwnValue seX8_hasOwnValue mlX8_244 hC.m (by decide) rfl [iV _, rV _, rV _] rfl rfl (Nat.le_of_ble_eq_true rfl) (Nat.le_of_ble_eq_true rfl) (s2) (fun r_ G_ h_ => ?_)
        obtain ⟨rfl, rfl⟩ := h_
        try dsimp only [Option.toList, List.cons_append, List.nil_append]
        refine ev_if_eq 49 dX8_countIndexEntries_42 (by decide) (fun c42 => absurd c42 (by decide)) (fun c42 => ?_)
        refine ev_iconstN 1 dX8_countIndexEntries_45 (by decide) ?_
        refine ev_goto 50 dX8_countIndexEntries_46 (by decide) ?_
        refine ev_iaddN dX8_countIndexEntries_50 ?_
        refine ev_istore_nS dX8_countIndexEntries_51 (by decide) rfl ?_
        refine ev_iincNS (b := 1) dX8_countIndexEntries_52 rfl (by decide) (by decide) rfl ?_
        refine ev_goto 5 dX8_countIndexEntries_55 (by decide) ?_
        (try rw [Nat.zero_add] at hgo); exact hgo
      | false =>
        rw [b2] at s2 hgo
        refine ev_iload dX8_countIndexEntries_5 rfl ?_
        refine ev_aload_n dX8_countIndexEntries_7 rfl ?_
        refine ev_getIv dX8_countIndexEntries_8 fX8_72 hC.m hX.1 ?_
        refine ev_icmp_geN 58 dX8_countIndexEntries_11 (by decide) (by omega) (by omega) (fun c11 => absurd c11 (by omega)) (fun c11 => ?_)
        refine ev_iload_n dX8_countIndexEntries_14 rfl ?_
        refine ev_aload_n dX8_countIndexEntries_15 rfl ?_
        refine ev_iload dX8_countIndexEntries_16 rfl ?_
        refine ev_aload_n dX8_countIndexEntries_18 rfl ?_
        refine ev_aload_n dX8_countIndexEntries_19 rfl ?_
        refine ev_callV dX8_countIndexEntries_20 okX8_hasOwnValue inX8_hasOwnValue seX8_hasOwnValue mlX8_244 hC.m (by decide) rfl [iV _, rV _, rV _] rfl rfl (Nat.le_of_ble_eq_true rfl) (Nat.le_of_ble_eq_true rfl) (s1) (fun r_ G_ h_ => ?_)
        obtain ⟨rfl, rfl⟩ := h_
        try dsimp only [Option.toList, List.cons_append, List.nil_append]
        refine ev_if_eq 30 dX8_countIndexEntries_23 (by decide) (fun c23 => ?_) (fun c23 => absurd c23 (fun z => z rfl))
        refine ev_iconstN 0 dX8_countIndexEntries_30 (by decide) ?_
        refine ev_iaddN dX8_countIndexEntries_31 ?_
        refine ev_istore_nS dX8_countIndexEntries_32 (by decide) rfl ?_
        refine ev_iload_n dX8_countIndexEntries_33 rfl ?_
        refine ev_aload_n dX8_countIndexEntries_34 rfl ?_
        refine ev_iload dX8_countIndexEntries_35 rfl ?_
        refine ev_aload_n dX8_countIndexEntries_37 rfl ?_
        refine ev_aload_n dX8_countIndexEntries_38 rfl ?_
        refine ev_callV dX8_countIndexEntries_39 okX8_hasOwnValue inX8_hasOwnValue seX8_hasOwnValue mlX8_244 hC.m (by decide) rfl [iV _, rV _, rV _] rfl rfl (Nat.le_of_ble_eq_true rfl) (Nat.le_of_ble_eq_true rfl) (s2) (fun r_ G_ h_ => ?_)
        obtain ⟨rfl, rfl⟩ := h_
        try dsimp only [Option.toList, List.cons_append, List.nil_append]
        refine ev_if_eq 49 dX8_countIndexEntries_42 (by decide) (fun c42 => ?_) (fun c42 => absurd c42 (fun z => z rfl))
        refine ev_iconstN 0 dX8_countIndexEntries_49 (by decide) ?_
        refine ev_iaddN dX8_countIndexEntries_50 ?_
        refine ev_istore_nS dX8_countIndexEntries_51 (by decide) rfl ?_
        refine ev_iincNS (b := 1) dX8_countIndexEntries_52 rfl (by decide) (by decide) rfl ?_
        refine ev_goto 5 dX8_countIndexEntries_55 (by decide) ?_
        exact hgo
theorem cs_countIdx (hC : CFix K R Ln) {ixn : Nat} {ie : Nat → EX} (hX : IxR K I R B ixn ie) {old now : Option Nat} (h1 : ∀ r, old = some r → K r = 3) (h2 : ∀ r, now = some r → K r = 3) {k : Int32} : EvM X mX8_countIndexEntries (d + 19) [rV (some 3), rV old, rV now] (K, I, J, R, A, B, Ln, n, sl) (fun r_ G' => r_ = some (iV (nI (ixL old.isSome now.isSome (rwO I old) (rwO I now) ie k ixn).length)) ∧ G' = (K, I, J, R, A, B, Ln, n, sl)) := by
  show Ev X mX8_countIndexEntries (d + 19) 0 [some (rV (some 3)), some (rV old), some (rV now), none, none] [] (K, I, J, R, A, B, Ln, n, sl) _
  refine ev_iconstN 0 dX8_countIndexEntries_0 (by decide) ?_
  refine ev_istore_nS dX8_countIndexEntries_1 (by decide) rfl ?_
  refine ev_iconstN 0 dX8_countIndexEntries_2 (by decide) ?_
  refine ev_istoreS dX8_countIndexEntries_3 (by decide) rfl ?_
  exact lp_cie hC hX h1 h2 ⟨rfl, rfl⟩ ixn 0 (by omega)
end C86
