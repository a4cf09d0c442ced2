/-- the entries of the store, in their order -/
def EnR (K : Nat → Nat) (I : Nat → Nat → Int32) (B : Nat → Nat → Option Nat) (cs : List Nat) : Prop := I 385 7 = nI cs.length ∧ cs.length ≤ 500 ∧ ∀ j e, cs[j]? = some e → B 8 j = some e ∧ K e = 0
def snE (J : Nat → Nat → Int64) (cs : List Nat) (c : Nat) (q : Int64) : Option Nat := match cs[c]? with
  | some e => if J 3 e = q then some e else none
  | none => none
def ctF (I : Nat → Nat → Int32) (J : Nat → Nat → Int64) (R : Nat → Nat → Option Nat) (s : Int32) (lo hi : Int64) (t : Int32) : List Nat → Option Nat → Nat
  | [], _ => 0
  | e :: l, sn => if ¬ t < I 4 e ∧ (∀ b, sn = some b → ¬ J 3 b = J 3 e) then (if R 5 e ≠ none ∧ witB (I 0 e) (I 1 e) s lo hi = true then 1 else 0) + ctF I J R s lo hi t l (some e) else ctF I J R s lo hi t l sn
theorem ctF_le {I : Nat → Nat → Int32} {J : Nat → Nat → Int64} {R : Nat → Nat → Option Nat} {s : Int32} {lo hi : Int64} {t : Int32} : ∀ (l : List Nat) (sn : Option Nat), ctF I J R s lo hi t l sn ≤ l.length
  | [], _ => Nat.le_refl _
  | e :: l, sn => by
    unfold ctF
    have h1 := ctF_le (I := I) (J := J) (R := R) (s := s) (lo := lo) (hi := hi) (t := t) l (some e)
    have h2 := ctF_le (I := I) (J := J) (R := R) (s := s) (lo := lo) (hi := hi) (t := t) l sn
    simp only [List.length_cons]
    split
    · split <;> omega
    · omega
def fON (I : Nat → Nat → Int32) (lv k : Int32) : List Nat → Nat → Option Nat
  | [], _ => none
  | f :: l, p => if I 321 f = lv then (if nI p = k then some f else fON I lv k l (p + 1)) else fON I lv k l p
def cfN (I : Nat → Nat → Int32) (lv : Int32) (l : List Nat) : Nat := l.countP (fun f => decide (I 321 f = lv))
theorem mid_at {l r : List Nat} {e : Nat} : (l ++ e :: r)[l.length]? = some e := by simp
section C74
variable {X : CX} {d : Nat} {K : Nat → Nat} {I : Nat → Nat → Int32} {J : Nat → Nat → Int64} {R : Nat → Nat → Option Nat} {A : Nat → Nat → Int32} {B : Nat → Nat → Option Nat} {Ln : Nat → Nat} {n sl : Nat}
set_option maxRecDepth 100000 in
set_option maxHeartbeats 4000000 in
theorem lp_cb {Q : Option LV → GH → Prop} (hC : CFix K R Ln) {cs : List Nat} (hE : EnR K I B cs) {q : Int64} {u : Int32} {c : Nat} (hc : c ≤ cs.length) (hb : ∀ j e, cs[j]? = some e → (befL (J 3 e) (I 4 e) q u = true ↔ j < c)) (hq : Q (some (iV (nI c))) (K, I, J, R, A, B, Ln, n, sl)) : ∀ (k p : Nat) (w6 : Option LV), k ≤ 9 → p ≤ c → c - p < 2 ^ k → Ev X mX6_countBefore (d + 1) 8 [some (rV (some 7)), some (lV q), none, some (iV u), some (iV (nI (p))), some (iV (nI (2 ^ k / 2))), w6] [] (K, I, J, R, A, B, Ln, n, sl) Q := by
  intro k
  induction k with
  | zero =>
    intro p w6 hk hp hcp
    have e1 : p = c := by simp at hcp; omega
    subst e1
    rw [show 2 ^ 0 / 2 = 0 by decide]
    refine ev_iload dX6_countBefore_8 rfl ?_
    refine ev_if_leN 59 dX6_countBefore_10 (by decide) (by omega) (fun c10 => ?_) (fun c10 => absurd c10 (by decide))
    refine ev_iload dX6_countBefore_59 rfl ?_
    refine ev_ireturn dX6_countBefore_61 rfl ?_
    exact hq
  | succ k ih =>
    intro p w6 hk hp hcp
    have e2 : 2 ^ (k + 1) / 2 = 2 ^ k := by rw [Nat.pow_succ]; omega
    have e3 : 2 ^ (k + 1) = 2 * 2 ^ k := by rw [Nat.pow_succ]; omega
    have e4 : 2 ^ k ≤ 256 := by
      have := Nat.pow_le_pow_right (n := 2) (by decide) (show k ≤ 8 by omega)
      simpa using this
    have e5 : 0 < 2 ^ k := Nat.two_pow_pos k
    have h5 : cs.length ≤ 500 := hE.2.1
    rw [e2]
    rw [e3] at hcp
    have kont : ∀ p' w6', p' ≤ c → c - p' < 2 ^ k → Ev X mX6_countBefore (d + 1) 50 [some (rV (some 7)), some (lV q), none, some (iV u), some (iV (nI (p'))), some (iV (nI (2 ^ k))), w6'] [] (K, I, J, R, A, B, Ln, n, sl) Q := by
      intro p' w6' h1 h2
      refine ev_iload dX6_countBefore_50 rfl ?_
      refine ev_iconstN 2 dX6_countBefore_52 (by decide) ?_
      refine ev_idivN dX6_countBefore_53 (by omega) (by omega) (by omega) ?_
      refine ev_istoreS dX6_countBefore_54 (by decide) rfl ?_
      refine ev_goto 8 dX6_countBefore_56 (by decide) ?_
      exact ih p' w6' (by omega) h1 h2
    by_cases hlt : p + 2 ^ k ≤ cs.length
    · have hat : cs[p + 2 ^ k - 1]? = some (cs[p + 2 ^ k - 1]'(by omega)) := List.getElem?_eq_getElem (by omega)
      have hbb := hb _ _ hat
      obtain ⟨hB, hK⟩ := hE.2.2 _ _ hat
      revert hbb hB hK
      generalize cs[p + 2 ^ k - 1]'(by omega) = e
      intro hbb hB hK
      have so := cs_isBefore (X := X) (d := d) (I := I) (J := J) (R := R) (A := A) (B := B) (Ln := Ln) (n := n) (sl := sl) (q := q) (u := u) hK
      cases hx : befL (J 3 e) (I 4 e) q u with
      | true =>
        rw [hx] at so hbb
        have hlt2 := hbb.mp rfl
        refine ev_iload dX6_countBefore_8 rfl ?_
        refine ev_if_leN 59 dX6_countBefore_10 (by decide) (by omega) (fun c10 => absurd c10 (by omega)) (fun c10 => ?_)
        refine ev_iload dX6_countBefore_13 rfl ?_
        refine ev_iload dX6_countBefore_15 rfl ?_
        refine ev_iaddN dX6_countBefore_17 ?_
        refine ev_istoreS dX6_countBefore_18 (by decide) rfl ?_
        refine ev_iload dX6_countBefore_20 rfl ?_
        refine ev_aload_n dX6_countBefore_22 rfl ?_
        refine ev_getIv dX6_countBefore_23 fX6_24 hC.K_st hE.1 ?_
        refine ev_icmp_gtN 50 dX6_countBefore_26 (by decide) (by omega) (by omega) (fun c26 => absurd c26 (by omega)) (fun c26 => ?_)
        refine ev_aload_n dX6_countBefore_29 rfl ?_
        refine ev_getR dX6_countBefore_30 fX6_11 hC.K_st hC.R_es ?_
        refine ev_iload dX6_countBefore_33 rfl ?_
        refine ev_iconstN 1 dX6_countBefore_35 (by decide) ?_
        refine ev_isubN dX6_countBefore_36 (by omega) ?_
        refine ev_aald (q := 5) dX6_countBefore_37 hC.K_es (by decide) (by decide) hC.L_es (by decide) (by omega) hB ?_
        refine ev_lload_n dX6_countBefore_38 rfl ?_
        refine ev_iload_n dX6_countBefore_39 rfl ?_
        refine ev_callV dX6_countBefore_40 okX0_isBefore inX0_isBefore seX0_isBefore mlX6_46 hK (by decide) rfl [lV _, iV _] rfl rfl (Nat.le_of_ble_eq_true rfl) (Nat.le_of_ble_eq_true rfl) (so) (fun r_ G_ h_ => ?_)
        obtain ⟨rfl, rfl⟩ := h_
        try dsimp only [Option.toList, List.cons_append, List.nil_append]
        refine ev_if_eq 50 dX6_countBefore_43 (by decide) (fun c43 => absurd c43 (by decide)) (fun c43 => ?_)
        refine ev_iload dX6_countBefore_46 rfl ?_
        refine ev_istoreS dX6_countBefore_48 (by decide) rfl ?_
        exact kont _ _ (by omega) (by omega)
      | false =>
        rw [hx] at so hbb
        have hlt2 : ¬ p + 2 ^ k - 1 < c := fun z => by cases hbb.mpr z
        refine ev_iload dX6_countBefore_8 rfl ?_
        refine ev_if_leN 59 dX6_countBefore_10 (by decide) (by omega) (fun c10 => absurd c10 (by omega)) (fun c10 => ?_)
        refine ev_iload dX6_countBefore_13 rfl ?_
        refine ev_iload dX6_countBefore_15 rfl ?_
        refine ev_iaddN dX6_countBefore_17 ?_
        refine ev_istoreS dX6_countBefore_18 (by decide) rfl ?_
        refine ev_iload dX6_countBefore_20 rfl ?_
        refine ev_aload_n dX6_countBefore_22 rfl ?_
        refine ev_getIv dX6_countBefore_23 fX6_24 hC.K_st hE.1 ?_
        refine ev_icmp_gtN 50 dX6_countBefore_26 (by decide) (by omega) (by omega) (fun c26 => absurd c26 (by omega)) (fun c26 => ?_)
        refine ev_aload_n dX6_countBefore_29 rfl ?_
        refine ev_getR dX6_countBefore_30 fX6_11 hC.K_st hC.R_es ?_
        refine ev_iload dX6_countBefore_33 rfl ?_
        refine ev_iconstN 1 dX6_countBefore_35 (by decide) ?_
        refine ev_isubN dX6_countBefore_36 (by omega) ?_
        refine ev_aald (q := 5) dX6_countBefore_37 hC.K_es (by decide) (by decide) hC.L_es (by decide) (by omega) hB ?_
        refine ev_lload_n dX6_countBefore_38 rfl ?_
        refine ev_iload_n dX6_countBefore_39 rfl ?_
        refine ev_callV dX6_countBefore_40 okX0_isBefore inX0_isBefore seX0_isBefore mlX6_46 hK (by decide) rfl [lV _, iV _] rfl rfl (Nat.le_of_ble_eq_true rfl) (Nat.le_of_ble_eq_true rfl) (so) (fun r_ G_ h_ => ?_)
        obtain ⟨rfl, rfl⟩ := h_
        try dsimp only [Option.toList, List.cons_append, List.nil_append]
        refine ev_if_eq 50 dX6_countBefore_43 (by decide) (fun c43 => ?_) (fun c43 => absurd c43 (fun z => z rfl))
        exact kont _ _ (by omega) (by omega)
    · skip
      refine ev_iload dX6_countBefore_8 rfl ?_
      refine ev_if_leN 59 dX6_countBefore_10 (by decide) (by omega) (fun c10 => absurd c10 (by omega)) (fun c10 => ?_)
      refine ev_iload dX6_countBefore_13 rfl ?_
      refine ev_iload dX6_countBefore_15 rfl ?_
      refine ev_iaddN dX6_countBefore_17 ?_
      refine ev_istoreS dX6_countBefore_18 (by decide) rfl ?_
      refine ev_iload dX6_countBefore_20 rfl ?_
      refine ev_aload_n dX6_countBefore_22 rfl ?_
      refine ev_getIv dX6_countBefore_23 fX6_24 hC.K_st hE.1 ?_
      refine ev_icmp_gtN 50 dX6_countBefore_26 (by decide) (by omega) (by omega) (fun c26 => ?_) (fun c26 => absurd c26 (by omega))
      exact kont _ _ (by omega) (by omega)
theorem cs_countBefore (hC : CFix K R Ln) {cs : List Nat} (hE : EnR K I B cs) {q : Int64} {u : Int32} {c : Nat} (hc : c ≤ cs.length) (hb : ∀ j e, cs[j]? = some e → (befL (J 3 e) (I 4 e) q u = true ↔ j < c)) : EvM X mX6_countBefore (d + 1) [rV (some 7), lV q, iV u] (K, I, J, R, A, B, Ln, n, sl) (fun r G' => r = some (iV (nI c)) ∧ G' = (K, I, J, R, A, B, Ln, n, sl)) := by
  have h := lp_cb (X := X) (d := d) (A := A) (n := n) (sl := sl) (R := R) (Q := (fun r G' => r = some (iV (nI c)) ∧ G' = (K, I, J, R, A, B, Ln, n, sl))) hC hE hc hb ⟨rfl, rfl⟩ 9 0 none (by omega) (by omega) (by have := hE.2.1; omega)
  rw [show 2 ^ 9 / 2 = 256 by decide] at h
  show Ev X mX6_countBefore (d + 1) 0 [some (rV (some 7)), some (lV q), none, some (iV u), none, none, none] [] (K, I, J, R, A, B, Ln, n, sl) _
  refine ev_iconstN 0 dX6_countBefore_0 (by decide) ?_
  refine ev_istoreS dX6_countBefore_1 (by decide) rfl ?_
  refine ev_sipushN 256 dX6_countBefore_3 (by decide) ?_
  refine ev_istoreS dX6_countBefore_6 (by decide) rfl ?_
  exact h
set_option maxRecDepth 100000 in
set_option maxHeartbeats 4000000 in
theorem cs_seenRow (hC : CFix K R Ln) {cs : List Nat} (hE : EnR K I B cs) {k u : Int32} {c : Nat} (hc : c ≤ cs.length) (hb : ∀ j e, cs[j]? = some e → (befL (J 3 e) (I 4 e) (plcL (nI 0) (nI 0) k) u = true ↔ j < c)) : EvM X mX6_seenRow (d + 2) [rV (some 7), iV k, iV u] (K, I, J, R, A, B, Ln, n, sl) (fun r G' => r = some (rV (snE J cs c (plcL (nI 0) (nI 0) k))) ∧ G' = (K, I, J, R, A, B, Ln, n, sl)) := by
  have h5 : cs.length ≤ 500 := hE.2.1
  show Ev X mX6_seenRow (d + 2) 0 [some (rV (some 7)), some (iV k), some (iV u), none, none, none] [] (K, I, J, R, A, B, Ln, n, sl) _
  by_cases hlt : c < cs.length
  · have hat : cs[c]? = some (cs[c]'hlt) := List.getElem?_eq_getElem hlt
    obtain ⟨hB, hK⟩ := hE.2.2 _ _ hat
    have hs : snE J cs c (plcL (nI 0) (nI 0) k) = if J 3 cs[c] = plcL (nI 0) (nI 0) k then some cs[c] else none := by unfold snE; rw [hat]
    revert hB hK hs
    generalize cs[c]'hlt = e
    intro hB hK hs
    rw [hs]
    refine ev_iconstN 0 dX6_seenRow_0 (by decide) ?_
    refine ev_iconstN 0 dX6_seenRow_1 (by decide) ?_
    refine ev_iload_n dX6_seenRow_2 rfl ?_
    refine ev_callS dX6_seenRow_3 okX0_placeOf stX0_placeOf mlX6_50 [iV _, iV _, iV _] rfl rfl (Nat.le_of_ble_eq_true rfl) (Nat.le_of_ble_eq_true rfl) (cs_placeOf) (fun r_ G_ h_ => ?_)
    obtain ⟨rfl, rfl⟩ := h_
    try dsimp only [Option.toList, List.cons_append, List.nil_append]
    refine ev_lstore_n _ dX6_seenRow_6 (by decide) rfl ?_
    refine ev_aload_n dX6_seenRow_7 rfl ?_
    refine ev_lload_n dX6_seenRow_8 rfl ?_
    refine ev_iload_n dX6_seenRow_9 rfl ?_
    refine ev_callV dX6_seenRow_10 okX6_countBefore inX6_countBefore seX6_countBefore mlX6_39 hC.K_st (by decide) rfl [lV _, iV _] rfl rfl (Nat.le_of_ble_eq_true rfl) (Nat.le_of_ble_eq_true rfl) (cs_countBefore hC hE hc hb) (fun r_ G_ h_ => ?_)
    obtain ⟨rfl, rfl⟩ := h_
    try dsimp only [Option.toList, List.cons_append, List.nil_append]
    refine ev_istoreS dX6_seenRow_13 (by decide) rfl ?_
    refine ev_iload dX6_seenRow_15 rfl ?_
    refine ev_aload_n dX6_seenRow_17 rfl ?_
    refine ev_getIv dX6_seenRow_18 fX6_24 hC.K_st hE.1 ?_
    refine ev_icmp_geN 49 dX6_seenRow_21 (by decide) (by omega) (by omega) (fun c21 => absurd c21 (by omega)) (fun c21 => ?_)
    refine ev_aload_n dX6_seenRow_24 rfl ?_
    refine ev_getR dX6_seenRow_25 fX6_11 hC.K_st hC.R_es ?_
    refine ev_iload dX6_seenRow_28 rfl ?_
    refine ev_aald (q := 5) dX6_seenRow_30 hC.K_es (by decide) (by decide) hC.L_es (by decide) (by omega) hB ?_
    refine ev_getJ dX6_seenRow_31 fX6_32 hK ?_
    refine ev_lload_n dX6_seenRow_34 rfl ?_
    refine ev_lcmp dX6_seenRow_35 ?_
    refine ev_if_ne 49 dX6_seenRow_36 (by decide) (fun c36 => ?_) (fun c36 => ?_)
    · refine ev_null dX6_seenRow_49 ?_
      refine ev_areturn dX6_seenRow_50 rfl ?_
      first | (rw [if_pos (lgc_eq.mp c36)]; exact ⟨rfl, rfl⟩) | (rw [if_neg (fun z => c36 (lgc_eq.mpr z))]; exact ⟨rfl, rfl⟩)
    · refine ev_aload_n dX6_seenRow_39 rfl ?_
      refine ev_getR dX6_seenRow_40 fX6_11 hC.K_st hC.R_es ?_
      refine ev_iload dX6_seenRow_43 rfl ?_
      refine ev_aald (q := 5) dX6_seenRow_45 hC.K_es (by decide) (by decide) hC.L_es (by decide) (by omega) hB ?_
      refine ev_goto 50 dX6_seenRow_46 (by decide) ?_
      refine ev_areturn dX6_seenRow_50 rfl ?_
      first | (rw [if_pos (lgc_eq.mp c36)]; exact ⟨rfl, rfl⟩) | (rw [if_neg (fun z => c36 (lgc_eq.mpr z))]; exact ⟨rfl, rfl⟩)
  · have hat : cs[c]? = none := List.getElem?_eq_none (by omega)
    have hs : snE J cs c (plcL (nI 0) (nI 0) k) = none := by unfold snE; rw [hat]
    rw [hs]
    refine ev_iconstN 0 dX6_seenRow_0 (by decide) ?_
    refine ev_iconstN 0 dX6_seenRow_1 (by decide) ?_
    refine ev_iload_n dX6_seenRow_2 rfl ?_
    refine ev_callS dX6_seenRow_3 okX0_placeOf stX0_placeOf mlX6_50 [iV _, iV _, iV _] rfl rfl (Nat.le_of_ble_eq_true rfl) (Nat.le_of_ble_eq_true rfl) (cs_placeOf) (fun r_ G_ h_ => ?_)
    obtain ⟨rfl, rfl⟩ := h_
    try dsimp only [Option.toList, List.cons_append, List.nil_append]
    refine ev_lstore_n _ dX6_seenRow_6 (by decide) rfl ?_
    refine ev_aload_n dX6_seenRow_7 rfl ?_
    refine ev_lload_n dX6_seenRow_8 rfl ?_
    refine ev_iload_n dX6_seenRow_9 rfl ?_
    refine ev_callV dX6_seenRow_10 okX6_countBefore inX6_countBefore seX6_countBefore mlX6_39 hC.K_st (by decide) rfl [lV _, iV _] rfl rfl (Nat.le_of_ble_eq_true rfl) (Nat.le_of_ble_eq_true rfl) (cs_countBefore hC hE hc hb) (fun r_ G_ h_ => ?_)
    obtain ⟨rfl, rfl⟩ := h_
    try dsimp only [Option.toList, List.cons_append, List.nil_append]
    refine ev_istoreS dX6_seenRow_13 (by decide) rfl ?_
    refine ev_iload dX6_seenRow_15 rfl ?_
    refine ev_aload_n dX6_seenRow_17 rfl ?_
    refine ev_getIv dX6_seenRow_18 fX6_24 hC.K_st hE.1 ?_
    refine ev_icmp_geN 49 dX6_seenRow_21 (by decide) (by omega) (by omega) (fun c21 => ?_) (fun c21 => absurd c21 (by omega))
    refine ev_null dX6_seenRow_49 ?_
    refine ev_areturn dX6_seenRow_50 rfl ?_
    exact ⟨rfl, rfl⟩
theorem snE_K {J : Nat → Nat → Int64} {cs : List Nat} (hE : EnR K I B cs) {c : Nat} {q : Int64} {e : Nat} (h : snE J cs c q = some e) : K e = 0 ∧ cs[c]? = some e ∧ J 3 e = q := by
  unfold snE at h
  cases hx : cs[c]? with
  | none => rw [hx] at h; cases h
  | some y =>
    rw [hx] at h
    simp only at h
    by_cases z : J 3 y = q
    · rw [if_pos z] at h; cases h; exact ⟨(hE.2.2 _ _ hx).2, rfl, z⟩
    · rw [if_neg z] at h; cases h
theorem cs_rowAt (hC : CFix K R Ln) {cs : List Nat} (hE : EnR K I B cs) {k u : Int32} {c : Nat} (hc : c ≤ cs.length) (hb : ∀ j e, cs[j]? = some e → (befL (J 3 e) (I 4 e) (plcL (nI 0) (nI 0) k) u = true ↔ j < c)) : EvM X mX6_rowAt (d + 3) [rV (some 7), iV k, iV u] (K, I, J, R, A, B, Ln, n, sl) (fun r G' => r = some (rV ((snE J cs c (plcL (nI 0) (nI 0) k)).bind (R 5))) ∧ G' = (K, I, J, R, A, B, Ln, n, sl)) := by
  have ss := cs_seenRow (X := X) (d := d) (A := A) (n := n) (sl := sl) (R := R) hC hE hc hb
  show Ev X mX6_rowAt (d + 3) 0 [some (rV (some 7)), some (iV k), some (iV u), none] [] (K, I, J, R, A, B, Ln, n, sl) _
  cases hx : snE J cs c (plcL (nI 0) (nI 0) k) with
  | none =>
    rw [hx] at ss
    refine ev_aload_n dX6_rowAt_0 rfl ?_
    refine ev_iload_n dX6_rowAt_1 rfl ?_
    refine ev_iload_n dX6_rowAt_2 rfl ?_
    refine ev_callV dX6_rowAt_3 okX6_seenRow inX6_seenRow seX6_seenRow mlX6_54 hC.K_st (by decide) rfl [iV _, iV _] rfl rfl (Nat.le_of_ble_eq_true rfl) (Nat.le_of_ble_eq_true rfl) (ss) (fun r_ G_ h_ => ?_)
    obtain ⟨rfl, rfl⟩ := h_
    try dsimp only [Option.toList, List.cons_append, List.nil_append]
    refine ev_astore_nS dX6_rowAt_6 (by decide) rfl ?_
    refine ev_aload_n dX6_rowAt_7 rfl ?_
    refine ev_ifnonnull 15 dX6_rowAt_8 (by decide) (fun x c8 => by cases c8) (fun c8 => ?_)
    refine ev_null dX6_rowAt_11 ?_
    refine ev_goto 19 dX6_rowAt_12 (by decide) ?_
    refine ev_areturn dX6_rowAt_19 rfl ?_
    exact ⟨rfl, rfl⟩
  | some e =>
    rw [hx] at ss
    have hK := (snE_K hE hx).1
    refine ev_aload_n dX6_rowAt_0 rfl ?_
    refine ev_iload_n dX6_rowAt_1 rfl ?_
    refine ev_iload_n dX6_rowAt_2 rfl ?_
    refine ev_callV dX6_rowAt_3 okX6_seenRow inX6_seenRow seX6_seenRow mlX6_54 hC.K_st (by decide) rfl [iV _, iV _] rfl rfl (Nat.le_of_ble_eq_true rfl) (Nat.le_of_ble_eq_true rfl) (ss) (fun r_ G_ h_ => ?_)
    obtain ⟨rfl, rfl⟩ := h_
    try dsimp only [Option.toList, List.cons_append, List.nil_append]
    refine ev_astore_nS dX6_rowAt_6 (by decide) rfl ?_
    refine ev_aload_n dX6_rowAt_7 rfl ?_
    refine ev_ifnonnull 15 dX6_rowAt_8 (by decide) (fun x c8 => ?_) (fun c8 => by cases c8)
    refine ev_aload_n dX6_rowAt_15 rfl ?_
    refine ev_getR dX6_rowAt_16 fX6_58 hK rfl ?_
    refine ev_areturn dX6_rowAt_19 rfl ?_
    exact ⟨rfl, rfl⟩
theorem cs_lastStampOf (hC : CFix K R Ln) {cs : List Nat} (hE : EnR K I B cs) {k : Int32} {c : Nat} (hc : c ≤ cs.length) (hb : ∀ j e, cs[j]? = some e → (befL (J 3 e) (I 4 e) (plcL (nI 0) (nI 0) k) 2147483647 = true ↔ j < c)) : EvM X mX6_lastStampOf (d + 3) [rV (some 7), iV k] (K, I, J, R, A, B, Ln, n, sl) (fun r G' => r = some (iV (((snE J cs c (plcL (nI 0) (nI 0) k)).map (I 4)).getD 0)) ∧ G' = (K, I, J, R, A, B, Ln, n, sl)) := by
  have ss := cs_seenRow (X := X) (d := d) (A := A) (n := n) (sl := sl) (R := R) hC hE hc hb
  show Ev X mX6_lastStampOf (d + 3) 0 [some (rV (some 7)), some (iV k), none] [] (K, I, J, R, A, B, Ln, n, sl) _
  cases hx : snE J cs c (plcL (nI 0) (nI 0) k) with
  | none =>
    rw [hx] at ss
    refine ev_aload_n dX6_lastStampOf_0 rfl ?_
    refine ev_iload_n dX6_lastStampOf_1 rfl ?_
    refine ev_ldc dX6_lastStampOf_2 coX6_62 ?_
    refine ev_callV dX6_lastStampOf_4 okX6_seenRow inX6_seenRow seX6_seenRow mlX6_54 hC.K_st (by decide) rfl [iV _, iV _] rfl rfl (Nat.le_of_ble_eq_true rfl) (Nat.le_of_ble_eq_true rfl) (ss) (fun r_ G_ h_ => ?_)
    obtain ⟨rfl, rfl⟩ := h_
    try dsimp only [Option.toList, List.cons_append, List.nil_append]
    refine ev_astore_nS dX6_lastStampOf_7 (by decide) rfl ?_
    refine ev_aload_n dX6_lastStampOf_8 rfl ?_
    refine ev_ifnonnull 16 dX6_lastStampOf_9 (by decide) (fun x c9 => by cases c9) (fun c9 => ?_)
    refine ev_iconstN 0 dX6_lastStampOf_12 (by decide) ?_
    refine ev_goto 20 dX6_lastStampOf_13 (by decide) ?_
    refine ev_ireturn dX6_lastStampOf_20 rfl ?_
    exact ⟨rfl, rfl⟩
  | some e =>
    rw [hx] at ss
    have hK := (snE_K hE hx).1
    refine ev_aload_n dX6_lastStampOf_0 rfl ?_
    refine ev_iload_n dX6_lastStampOf_1 rfl ?_
    refine ev_ldc dX6_lastStampOf_2 coX6_62 ?_
    refine ev_callV dX6_lastStampOf_4 okX6_seenRow inX6_seenRow seX6_seenRow mlX6_54 hC.K_st (by decide) rfl [iV _, iV _] rfl rfl (Nat.le_of_ble_eq_true rfl) (Nat.le_of_ble_eq_true rfl) (ss) (fun r_ G_ h_ => ?_)
    obtain ⟨rfl, rfl⟩ := h_
    try dsimp only [Option.toList, List.cons_append, List.nil_append]
    refine ev_astore_nS dX6_lastStampOf_7 (by decide) rfl ?_
    refine ev_aload_n dX6_lastStampOf_8 rfl ?_
    refine ev_ifnonnull 16 dX6_lastStampOf_9 (by decide) (fun x c9 => ?_) (fun c9 => by cases c9)
    refine ev_aload_n dX6_lastStampOf_16 rfl ?_
    refine ev_getI dX6_lastStampOf_17 fX6_36 hK ?_
    refine ev_ireturn dX6_lastStampOf_20 rfl ?_
    exact ⟨rfl, rfl⟩
set_option maxRecDepth 100000 in
set_option maxHeartbeats 4000000 in
theorem lp_ct {Q : Option LV → GH → Prop} (hC : CFix K R Ln) {cs : List Nat} (hE : EnR K I B cs) {s t : Int32} {lo hi : Int64} {tot : Nat} (hq : Q (some (iV (nI tot))) (K, I, J, R, A, B, Ln, n, sl)) : ∀ (l pre : List Nat) (th : Nat) (sn : Option Nat) (w10 : Option LV), cs = pre ++ l → (∀ b, sn = some b → K b = 0) → th + ctF I J R s lo hi t l sn = tot → Ev X mX6_countThere (d + 1) 9 [some (rV (some 7)), some (iV s), some (lV lo), none, some (lV hi), none, some (iV t), some (iV (nI (th))), some (rV sn), some (iV (nI (pre.length))), w10] [] (K, I, J, R, A, B, Ln, n, sl) Q := by
  intro l
  induction l with
  | nil =>
    intro pre th sn w10 hcs hsn htot
    have e1 : th = tot := by unfold ctF at htot; omega
    subst e1
    have e2 : pre.length = cs.length := by rw [hcs]; simp
    have h5 : cs.length ≤ 500 := hE.2.1
    refine ev_iload dX6_countThere_9 rfl ?_
    refine ev_aload_n dX6_countThere_11 rfl ?_
    refine ev_getIv dX6_countThere_12 fX6_24 hC.K_st hE.1 ?_
    refine ev_icmp_geN 96 dX6_countThere_15 (by decide) (by omega) (by omega) (fun c15 => ?_) (fun c15 => absurd c15 (by omega))
    refine ev_iload dX6_countThere_96 rfl ?_
    refine ev_ireturn dX6_countThere_98 rfl ?_
    exact hq
  | cons e l ih =>
    intro pre th sn w10 hcs hsn htot
    have h5 : cs.length ≤ 500 := hE.2.1
    have e2 : pre.length < cs.length := by rw [hcs]; simp
    have hat : cs[pre.length]? = some e := by rw [hcs]; exact mid_at
    obtain ⟨hB, hK⟩ := hE.2.2 _ _ hat
    have kont : ∀ th' sn', (∀ b, sn' = some b → K b = 0) → th' + ctF I J R s lo hi t l sn' = tot → Ev X mX6_countThere (d + 1) 90 [some (rV (some 7)), some (iV s), some (lV lo), none, some (lV hi), none, some (iV t), some (iV (nI (th'))), some (rV sn'), some (iV (nI (pre.length))), some (rV (some e))] [] (K, I, J, R, A, B, Ln, n, sl) Q := by
      intro th' sn' h1 h2
      have hgo := ih (pre ++ [e]) th' sn' (some (rV (some e))) (by rw [hcs]; simp) h1 h2
      rw [List.length_append] at hgo
      refine ev_iincNS (b := 1) dX6_countThere_90 rfl (by decide) (by decide) rfl ?_
      refine ev_goto 9 dX6_countThere_93 (by decide) ?_
      exact hgo
    have sw := cs_isWithin (X := X) (d := d) (I := I) (J := J) (R := R) (A := A) (B := B) (Ln := Ln) (n := n) (sl := sl) (x := s) (lo := lo) (hi := hi) hK
    have k56 : (¬ t < I 4 e) → (∀ b, sn = some b → ¬ J 3 b = J 3 e) → Ev X mX6_countThere (d + 1) 56 [some (rV (some 7)), some (iV s), some (lV lo), none, some (lV hi), none, some (iV t), some (iV (nI (th))), some (rV sn), some (iV (nI (pre.length))), some (rV (some e))] [] (K, I, J, R, A, B, Ln, n, sl) Q := by
      intro h1 h2
      rw [ctF, if_pos ⟨h1, h2⟩] at htot
      cases hr : R 5 e with
      | none =>
        rw [if_neg (fun z => z.1 hr)] at htot
        refine ev_aload dX6_countThere_56 rfl ?_
        refine ev_astoreS dX6_countThere_58 (by decide) rfl ?_
        refine ev_iload dX6_countThere_60 rfl ?_
        refine ev_aload dX6_countThere_62 rfl ?_
        refine ev_getR dX6_countThere_64 fX6_58 hK hr ?_
        refine ev_ifnull 86 dX6_countThere_67 (by decide) (fun c67 => ?_) (fun x c67 => by cases c67)
        refine ev_iconstN 0 dX6_countThere_86 (by decide) ?_
        refine ev_iaddN dX6_countThere_87 ?_
        refine ev_istoreS dX6_countThere_88 (by decide) rfl ?_
        exact kont _ _ (fun b hb => by cases hb; exact hK) (by omega)
      | some y =>
        cases hw : witB (I 0 e) (I 1 e) s lo hi with
        | true =>
          rw [hw] at sw
          rw [if_pos ⟨(fun z => by rw [hr] at z; cases z), hw⟩] at htot
          refine ev_aload dX6_countThere_56 rfl ?_
          refine ev_astoreS dX6_countThere_58 (by decide) rfl ?_
          refine ev_iload dX6_countThere_60 rfl ?_
          refine ev_aload dX6_countThere_62 rfl ?_
          refine ev_getR dX6_countThere_64 fX6_58 hK hr ?_
          refine ev_ifnull 86 dX6_countThere_67 (by decide) (fun c67 => by cases c67) (fun x c67 => ?_)
          refine ev_aload dX6_countThere_70 rfl ?_
          refine ev_iload_n dX6_countThere_72 rfl ?_
          refine ev_lload_n dX6_countThere_73 rfl ?_
          refine ev_lload dX6_countThere_74 rfl ?_
          refine ev_callV dX6_countThere_76 okX0_isWithin inX0_isWithin seX0_isWithin mlX6_63 hK (by decide) rfl [iV _, lV _, lV _] rfl rfl (Nat.le_of_ble_eq_true rfl) (Nat.le_of_ble_eq_true rfl) (sw) (fun r_ G_ h_ => ?_)
          obtain ⟨rfl, rfl⟩ := h_
          try dsimp only [Option.toList, List.cons_append, List.nil_append]
          refine ev_if_eq 86 dX6_countThere_79 (by decide) (fun c79 => absurd c79 (by decide)) (fun c79 => ?_)
          refine ev_iconstN 1 dX6_countThere_82 (by decide) ?_
          refine ev_goto 87 dX6_countThere_83 (by decide) ?_
          refine ev_iaddN dX6_countThere_87 ?_
          refine ev_istoreS dX6_countThere_88 (by decide) rfl ?_
          exact kont _ _ (fun b hb => by cases hb; exact hK) (by omega)
        | false =>
          rw [hw] at sw
          rw [if_neg (fun z => by have := z.2; rw [hw] at this; cases this)] at htot
          refine ev_aload dX6_countThere_56 rfl ?_
          refine ev_astoreS dX6_countThere_58 (by decide) rfl ?_
          refine ev_iload dX6_countThere_60 rfl ?_
          refine ev_aload dX6_countThere_62 rfl ?_
          refine ev_getR dX6_countThere_64 fX6_58 hK hr ?_
          refine ev_ifnull 86 dX6_countThere_67 (by decide) (fun c67 => by cases c67) (fun x c67 => ?_)
          refine ev_aload dX6_countThere_70 rfl ?_
          refine ev_iload_n dX6_countThere_72 rfl ?_
          refine ev_lload_n dX6_countThere_73 rfl ?_
          refine ev_lload dX6_countThere_74 rfl ?_
          refine ev_callV dX6_countThere_76 okX0_isWithin inX0_isWithin seX0_isWithin mlX6_63 hK (by decide) rfl [iV _, lV _, lV _] rfl rfl (Nat.le_of_ble_eq_true rfl) (Nat.le_of_ble_eq_true rfl) (sw) (fun r_ G_ h_ => ?_)
          obtain ⟨rfl, rfl⟩ := h_
          try dsimp only [Option.toList, List.cons_append, List.nil_append]
          refine ev_if_eq 86 dX6_countThere_79 (by decide) (fun c79 => ?_) (fun c79 => absurd c79 (fun z => z rfl))
          refine ev_iconstN 0 dX6_countThere_86 (by decide) ?_
          refine ev_iaddN dX6_countThere_87 ?_
          refine ev_istoreS dX6_countThere_88 (by decide) rfl ?_
          exact kont _ _ (fun b hb => by cases hb; exact hK) (by omega)
    have hno : ¬ (¬ t < I 4 e ∧ (∀ b, sn = some b → ¬ J 3 b = J 3 e)) → Ev X mX6_countThere (d + 1) 90 [some (rV (some 7)), some (iV s), some (lV lo), none, some (lV hi), none, some (iV t), some (iV (nI (th))), some (rV sn), some (iV (nI (pre.length))), some (rV (some e))] [] (K, I, J, R, A, B, Ln, n, sl) Q := by
      intro hn
      rw [ctF, if_neg hn] at htot
      exact kont th sn hsn htot
    cases sn with
    | none =>
      refine ev_iload dX6_countThere_9 rfl ?_
      refine ev_aload_n dX6_countThere_11 rfl ?_
      refine ev_getIv dX6_countThere_12 fX6_24 hC.K_st hE.1 ?_
      refine ev_icmp_geN 96 dX6_countThere_15 (by decide) (by omega) (by omega) (fun c15 => absurd c15 (by omega)) (fun c15 => ?_)
      refine ev_aload_n dX6_countThere_18 rfl ?_
      refine ev_getR dX6_countThere_19 fX6_11 hC.K_st hC.R_es ?_
      refine ev_iload dX6_countThere_22 rfl ?_
      refine ev_aald (q := 5) dX6_countThere_24 hC.K_es (by decide) (by decide) hC.L_es (by decide) (by omega) hB ?_
      refine ev_astoreS dX6_countThere_25 (by decide) rfl ?_
      refine ev_aload dX6_countThere_27 rfl ?_
      refine ev_getI dX6_countThere_29 fX6_36 hK ?_
      refine ev_iload dX6_countThere_32 rfl ?_
      refine ev_icmp_gt 90 dX6_countThere_34 (by decide) (fun c34 => ?_) (fun c34 => ?_)
      · exact hno (fun z => z.1 c34)
      · refine ev_aload dX6_countThere_37 rfl ?_
        refine ev_ifnull 56 dX6_countThere_39 (by decide) (fun c39 => ?_) (fun x c39 => by cases c39)
        exact k56 c34 (fun b hb => by cases hb)
    | some b =>
      have hKb := hsn b rfl
      refine ev_iload dX6_countThere_9 rfl ?_
      refine ev_aload_n dX6_countThere_11 rfl ?_
      refine ev_getIv dX6_countThere_12 fX6_24 hC.K_st hE.1 ?_
      refine ev_icmp_geN 96 dX6_countThere_15 (by decide) (by omega) (by omega) (fun c15 => absurd c15 (by omega)) (fun c15 => ?_)
      refine ev_aload_n dX6_countThere_18 rfl ?_
      refine ev_getR dX6_countThere_19 fX6_11 hC.K_st hC.R_es ?_
      refine ev_iload dX6_countThere_22 rfl ?_
      refine ev_aald (q := 5) dX6_countThere_24 hC.K_es (by decide) (by decide) hC.L_es (by decide) (by omega) hB ?_
      refine ev_astoreS dX6_countThere_25 (by decide) rfl ?_
      refine ev_aload dX6_countThere_27 rfl ?_
      refine ev_getI dX6_countThere_29 fX6_36 hK ?_
      refine ev_iload dX6_countThere_32 rfl ?_
      refine ev_icmp_gt 90 dX6_countThere_34 (by decide) (fun c34 => ?_) (fun c34 => ?_)
      · first | exact hno (fun z => z.1 c34) | exact hno (fun z => z.2 b rfl (lgc_eq.mp c53))
      · refine ev_aload dX6_countThere_37 rfl ?_
        refine ev_ifnull 56 dX6_countThere_39 (by decide) (fun c39 => by cases c39) (fun x c39 => ?_)
        refine ev_aload dX6_countThere_42 rfl ?_
        refine ev_getJ dX6_countThere_44 fX6_32 hKb ?_
        refine ev_aload dX6_countThere_47 rfl ?_
        refine ev_getJ dX6_countThere_49 fX6_32 hK ?_
        refine ev_lcmp dX6_countThere_52 ?_
        refine ev_if_eq 90 dX6_countThere_53 (by decide) (fun c53 => ?_) (fun c53 => ?_)
        · first | exact hno (fun z => z.1 c34) | exact hno (fun z => z.2 b rfl (lgc_eq.mp c53))
        · exact k56 c34 (fun b hb => by cases hb; exact fun z => c53 (lgc_eq.mpr z))
theorem cs_countThere (hC : CFix K R Ln) {cs : List Nat} (hE : EnR K I B cs) {s t : Int32} {lo hi : Int64} : EvM X mX6_countThere (d + 1) [rV (some 7), iV s, lV lo, lV hi, iV t] (K, I, J, R, A, B, Ln, n, sl) (fun r G' => r = some (iV (nI (ctF I J R s lo hi t cs none))) ∧ G' = (K, I, J, R, A, B, Ln, n, sl)) := by
  show Ev X mX6_countThere (d + 1) 0 [some (rV (some 7)), some (iV s), some (lV lo), none, some (lV hi), none, some (iV t), none, none, none, none] [] (K, I, J, R, A, B, Ln, n, sl) _
  refine ev_iconstN 0 dX6_countThere_0 (by decide) ?_
  refine ev_istoreS dX6_countThere_1 (by decide) rfl ?_
  refine ev_null dX6_countThere_3 ?_
  refine ev_astoreS dX6_countThere_4 (by decide) rfl ?_
  refine ev_iconstN 0 dX6_countThere_6 (by decide) ?_
  refine ev_istoreS dX6_countThere_7 (by decide) rfl ?_
  exact lp_ct hC hE ⟨rfl, rfl⟩ cs [] 0 none _ rfl (fun b hb => by cases hb) (by omega)
set_option maxRecDepth 100000 in
set_option maxHeartbeats 4000000 in
theorem lp_cf {Q : Option LV → GH → Prop} (hC : CFix K R Ln) {a m : Nat} {fs : List Nat} (h : AlR K I R B Ln n a m fs) {lv : Int32} (hq : Q (some (iV (nI (cfN I lv fs)))) (K, I, J, R, A, B, Ln, n, sl)) : ∀ (l pre : List Nat), fs = pre ++ l → Ev X mX6_countFiles (d + 3) 4 [some (rV (some 7)), some (iV lv), some (iV (nI (cfN I lv pre))), some (iV (nI (pre.length)))] [] (K, I, J, R, A, B, Ln, n, sl) Q := by
  intro l
  have h8 : fs.length ≤ 800 := by have := h.2.2.2.1; have := h.2.2.2.2.1; omega
  have ss := cs_size (X := X) (d := d + 2) (J := J) (A := A) (sl := sl) hC.K_al h
  induction l with
  | nil =>
    intro pre hfs
    rw [List.append_nil] at hfs
    subst hfs
    refine ev_iload_n dX6_countFiles_4 rfl ?_
    refine ev_aload_n dX6_countFiles_5 rfl ?_
    refine ev_getR dX6_countFiles_6 fX6_20 hC.K_st hC.R_al ?_
    refine ev_callV dX6_countFiles_9 okJx4a65c_size_8abf5 inJx4a65c_size_8abf5 seJx4a65c_size_8abf5 mlX6_91 hC.K_al (by decide) rfl [] rfl rfl (Nat.le_of_ble_eq_true rfl) (Nat.le_of_ble_eq_true rfl) (ss) (fun r_ G_ h_ => ?_)
    obtain ⟨rfl, rfl⟩ := h_
    try dsimp only [Option.toList, List.cons_append, List.nil_append]
    refine ev_icmp_geN 47 dX6_countFiles_12 (by decide) (by omega) (by omega) (fun c12 => ?_) (fun c12 => absurd c12 (by omega))
    refine ev_iload_n dX6_countFiles_47 rfl ?_
    refine ev_ireturn dX6_countFiles_48 rfl ?_
    exact hq
  | cons f l ih =>
    intro pre hfs
    have hlt : pre.length < fs.length := by rw [hfs]; simp
    have hat : fs[pre.length]'hlt = f := by
      have : fs[pre.length]? = some f := by rw [hfs]; exact mid_at
      exact (List.getElem?_eq_some_iff.mp this).2
    have hA := h.arr hlt
    have sg := cs_get (X := X) (d := d) (J := J) (A := A) (sl := sl) hC.K_al h hlt
    rw [hat] at hA sg
    have hK := hA.2.2.2
    have hgo := ih (pre ++ [f]) (by rw [hfs]; simp)
    rw [List.length_append] at hgo
    have hcl : cfN I lv pre ≤ pre.length := List.countP_le_length
    have hcf : cfN I lv (pre ++ [f]) = cfN I lv pre + (if I 321 f = lv then 1 else 0) := by
      unfold cfN; rw [List.countP_append, List.countP_cons, List.countP_nil]; simp
    rw [hcf] at hgo
    by_cases hl : I 321 f = lv
    · rw [if_pos hl] at hgo
      refine ev_iload_n dX6_countFiles_4 rfl ?_
      refine ev_aload_n dX6_countFiles_5 rfl ?_
      refine ev_getR dX6_countFiles_6 fX6_20 hC.K_st hC.R_al ?_
      refine ev_callV dX6_countFiles_9 okJx4a65c_size_8abf5 inJx4a65c_size_8abf5 seJx4a65c_size_8abf5 mlX6_91 hC.K_al (by decide) rfl [] rfl rfl (Nat.le_of_ble_eq_true rfl) (Nat.le_of_ble_eq_true rfl) (ss) (fun r_ G_ h_ => ?_)
      obtain ⟨rfl, rfl⟩ := h_
      try dsimp only [Option.toList, List.cons_append, List.nil_append]
      refine ev_icmp_geN 47 dX6_countFiles_12 (by decide) (by omega) (by omega) (fun c12 => absurd c12 (by omega)) (fun c12 => ?_)
      refine ev_iload_n dX6_countFiles_15 rfl ?_
      refine ev_aload_n dX6_countFiles_16 rfl ?_
      refine ev_getR dX6_countFiles_17 fX6_20 hC.K_st hC.R_al ?_
      refine ev_iload_n dX6_countFiles_20 rfl ?_
      refine ev_callV dX6_countFiles_21 okJx4a65c_get_915e3 inJx4a65c_get_915e3 seJx4a65c_get_915e3 mlX6_95 hC.K_al (by decide) rfl [iV _] rfl rfl (Nat.le_of_ble_eq_true rfl) (Nat.le_of_ble_eq_true rfl) (sg) (fun r_ G_ h_ => ?_)
      obtain ⟨rfl, rfl⟩ := h_
      try dsimp only [Option.toList, List.cons_append, List.nil_append]
      refine ev_cast (q := 5) dX6_countFiles_24 clX6_76 (by decide) hK ?_
      refine ev_getI dX6_countFiles_27 fX6_99 hK ?_
      refine ev_iload_n dX6_countFiles_30 rfl ?_
      refine ev_icmp_ne 38 dX6_countFiles_31 (by decide) (fun c31 => absurd hl c31) (fun c31 => ?_)
      refine ev_iconstN 1 dX6_countFiles_34 (by decide) ?_
      refine ev_goto 39 dX6_countFiles_35 (by decide) ?_
      refine ev_iaddN dX6_countFiles_39 ?_
      refine ev_istore_nS dX6_countFiles_40 (by decide) rfl ?_
      refine ev_iincNS (b := 1) dX6_countFiles_41 rfl (by decide) (by decide) rfl ?_
      refine ev_goto 4 dX6_countFiles_44 (by decide) ?_
      exact hgo
    · rw [if_neg hl] at hgo
      refine ev_iload_n dX6_countFiles_4 rfl ?_
      refine ev_aload_n dX6_countFiles_5 rfl ?_
      refine ev_getR dX6_countFiles_6 fX6_20 hC.K_st hC.R_al ?_
      refine ev_callV dX6_countFiles_9 okJx4a65c_size_8abf5 inJx4a65c_size_8abf5 seJx4a65c_size_8abf5 mlX6_91 hC.K_al (by decide) rfl [] rfl rfl (Nat.le_of_ble_eq_true rfl) (Nat.le_of_ble_eq_true rfl) (ss) (fun r_ G_ h_ => ?_)
      obtain ⟨rfl, rfl⟩ := h_
      try dsimp only [Option.toList, List.cons_append, List.nil_append]
      refine ev_icmp_geN 47 dX6_countFiles_12 (by decide) (by omega) (by omega) (fun c12 => absurd c12 (by omega)) (fun c12 => ?_)
      refine ev_iload_n dX6_countFiles_15 rfl ?_
      refine ev_aload_n dX6_countFiles_16 rfl ?_
      refine ev_getR dX6_countFiles_17 fX6_20 hC.K_st hC.R_al ?_
      refine ev_iload_n dX6_countFiles_20 rfl ?_
      refine ev_callV dX6_countFiles_21 okJx4a65c_get_915e3 inJx4a65c_get_915e3 seJx4a65c_get_915e3 mlX6_95 hC.K_al (by decide) rfl [iV _] rfl rfl (Nat.le_of_ble_eq_true rfl) (Nat.le_of_ble_eq_true rfl) (sg) (fun r_ G_ h_ => ?_)
      obtain ⟨rfl, rfl⟩ := h_
      try dsimp only [Option.toList, List.cons_append, List.nil_append]
      refine ev_cast (q := 5) dX6_countFiles_24 clX6_76 (by decide) hK ?_
      refine ev_getI dX6_countFiles_27 fX6_99 hK ?_
      refine ev_iload_n dX6_countFiles_30 rfl ?_
      refine ev_icmp_ne 38 dX6_countFiles_31 (by decide) (fun c31 => ?_) (fun c31 => absurd c31 hl)
      refine ev_iconstN 0 dX6_countFiles_38 (by decide) ?_
      refine ev_iaddN dX6_countFiles_39 ?_
      refine ev_istore_nS dX6_countFiles_40 (by decide) rfl ?_
      refine ev_iincNS (b := 1) dX6_countFiles_41 rfl (by decide) (by decide) rfl ?_
      refine ev_goto 4 dX6_countFiles_44 (by decide) ?_
      exact hgo
theorem cs_countFiles (hC : CFix K R Ln) {a m : Nat} {fs : List Nat} (h : AlR K I R B Ln n a m fs) {lv : Int32} : EvM X mX6_countFiles (d + 3) [rV (some 7), iV lv] (K, I, J, R, A, B, Ln, n, sl) (fun r G' => r = some (iV (nI (cfN I lv fs))) ∧ G' = (K, I, J, R, A, B, Ln, n, sl)) := by
  show Ev X mX6_countFiles (d + 3) 0 [some (rV (some 7)), some (iV lv), none, none] [] (K, I, J, R, A, B, Ln, n, sl) _
  refine ev_iconstN 0 dX6_countFiles_0 (by decide) ?_
  refine ev_istore_nS dX6_countFiles_1 (by decide) rfl ?_
  refine ev_iconstN 0 dX6_countFiles_2 (by decide) ?_
  refine ev_istore_nS dX6_countFiles_3 (by decide) rfl ?_
  exact lp_cf hC h ⟨rfl, rfl⟩ fs [] rfl
theorem cs_overfull (hC : CFix K R Ln) {a m : Nat} {fs : List Nat} (h : AlR K I R B Ln n a m fs) : EvM X mX6_overfullLevel (d + 4) [rV (some 7)] (K, I, J, R, A, B, Ln, n, sl) (fun r G' => r = some (iV (if 2 < cfN I (nI 0) fs then 0 else if 3 < cfN I (nI 1) fs then 1 else -1)) ∧ G' = (K, I, J, R, A, B, Ln, n, sl)) := by
  have h8 : fs.length ≤ 800 := by have := h.2.2.2.1; have := h.2.2.2.2.1; omega
  have h1 : cfN I (nI 0) fs ≤ fs.length := List.countP_le_length
  have h2 : cfN I (nI 1) fs ≤ fs.length := List.countP_le_length
  show Ev X mX6_overfullLevel (d + 4) 0 [some (rV (some 7))] [] (K, I, J, R, A, B, Ln, n, sl) _
  refine ev_aload_n dX6_overfullLevel_0 rfl ?_
  refine ev_iconstN 0 dX6_overfullLevel_1 (by decide) ?_
  refine ev_callV dX6_overfullLevel_2 okX6_countFiles inX6_countFiles seX6_countFiles mlX6_102 hC.K_st (by decide) rfl [iV _] rfl rfl (Nat.le_of_ble_eq_true rfl) (Nat.le_of_ble_eq_true rfl) (cs_countFiles hC h) (fun r_ G_ h_ => ?_)
  obtain ⟨rfl, rfl⟩ := h_
  try dsimp only [Option.toList, List.cons_append, List.nil_append]
  refine ev_iconstN 2 dX6_overfullLevel_5 (by decide) ?_
  refine ev_icmp_leN 11 dX6_overfullLevel_6 (by decide) (by omega) (by omega) (fun c6 => ?_) (fun c6 => ?_)
  · refine ev_aload_n dX6_overfullLevel_11 rfl ?_
    refine ev_iconstN 1 dX6_overfullLevel_12 (by decide) ?_
    refine ev_callV dX6_overfullLevel_13 okX6_countFiles inX6_countFiles seX6_countFiles mlX6_102 hC.K_st (by decide) rfl [iV _] rfl rfl (Nat.le_of_ble_eq_true rfl) (Nat.le_of_ble_eq_true rfl) (cs_countFiles hC h) (fun r_ G_ h_ => ?_)
    obtain ⟨rfl, rfl⟩ := h_
    try dsimp only [Option.toList, List.cons_append, List.nil_append]
    refine ev_iconstN 3 dX6_overfullLevel_16 (by decide) ?_
    refine ev_icmp_leN 24 dX6_overfullLevel_17 (by decide) (by omega) (by omega) (fun c17 => ?_) (fun c17 => ?_)
    · refine ev_iconst (-1) dX6_overfullLevel_24 (by decide) ?_
      refine ev_ireturn dX6_overfullLevel_25 rfl ?_
      first | (rw [if_pos (by omega)]; exact ⟨rfl, rfl⟩) | (rw [if_neg (by omega), if_pos (by omega)]; exact ⟨rfl, rfl⟩) | (rw [if_neg (by omega), if_neg (by omega)]; exact ⟨rfl, rfl⟩)
    · refine ev_iconstN 1 dX6_overfullLevel_20 (by decide) ?_
      refine ev_goto 25 dX6_overfullLevel_21 (by decide) ?_
      refine ev_ireturn dX6_overfullLevel_25 rfl ?_
      first | (rw [if_pos (by omega)]; exact ⟨rfl, rfl⟩) | (rw [if_neg (by omega), if_pos (by omega)]; exact ⟨rfl, rfl⟩) | (rw [if_neg (by omega), if_neg (by omega)]; exact ⟨rfl, rfl⟩)
  · refine ev_iconstN 0 dX6_overfullLevel_9 (by decide) ?_
    refine ev_ireturn dX6_overfullLevel_10 rfl ?_
    first | (rw [if_pos (by omega)]; exact ⟨rfl, rfl⟩) | (rw [if_neg (by omega), if_pos (by omega)]; exact ⟨rfl, rfl⟩) | (rw [if_neg (by omega), if_neg (by omega)]; exact ⟨rfl, rfl⟩)
set_option maxRecDepth 100000 in
set_option maxHeartbeats 4000000 in
theorem lp_fo {Q : Option LV → GH → Prop} (hC : CFix K R Ln) {a m : Nat} {fs : List Nat} (h : AlR K I R B Ln n a m fs) {lv k : Int32} {o : Option Nat} (hq : Q (some (rV o)) (K, I, J, R, A, B, Ln, n, sl)) : ∀ (l pre : List Nat) (p : Nat) (w5 : Option LV), fs = pre ++ l → p ≤ pre.length → fON I lv k l p = o → Ev X mX6_fileOn (d + 3) 5 [some (rV (some 7)), some (iV lv), some (iV k), some (iV (nI (p))), some (iV (nI (pre.length))), w5] [] (K, I, J, R, A, B, Ln, n, sl) Q := by
  intro l
  have h8 : fs.length ≤ 800 := by have := h.2.2.2.1; have := h.2.2.2.2.1; omega
  have ss := cs_size (X := X) (d := d + 2) (J := J) (A := A) (sl := sl) hC.K_al h
  induction l with
  | nil =>
    intro pre p w5 hfs hp ho
    rw [List.append_nil] at hfs
    subst hfs
    unfold fON at ho
    subst ho
    refine ev_iload dX6_fileOn_5 rfl ?_
    refine ev_aload_n dX6_fileOn_7 rfl ?_
    refine ev_getR dX6_fileOn_8 fX6_20 hC.K_st hC.R_al ?_
    refine ev_callV dX6_fileOn_11 okJx4a65c_size_8abf5 inJx4a65c_size_8abf5 seJx4a65c_size_8abf5 mlX6_91 hC.K_al (by decide) rfl [] rfl rfl (Nat.le_of_ble_eq_true rfl) (Nat.le_of_ble_eq_true rfl) (ss) (fun r_ G_ h_ => ?_)
    obtain ⟨rfl, rfl⟩ := h_
    try dsimp only [Option.toList, List.cons_append, List.nil_append]
    refine ev_icmp_geN 57 dX6_fileOn_14 (by decide) (by omega) (by omega) (fun c14 => ?_) (fun c14 => absurd c14 (by omega))
    refine ev_null dX6_fileOn_57 ?_
    refine ev_areturn dX6_fileOn_58 rfl ?_
    exact hq
  | cons f l ih =>
    intro pre p w5 hfs hp ho
    have hlt : pre.length < fs.length := by rw [hfs]; simp
    have hat : fs[pre.length]'hlt = f := by
      have : fs[pre.length]? = some f := by rw [hfs]; exact mid_at
      exact (List.getElem?_eq_some_iff.mp this).2
    have hA := h.arr hlt
    have sg := cs_get (X := X) (d := d) (J := J) (A := A) (sl := sl) hC.K_al h hlt
    rw [hat] at hA sg
    have hK := hA.2.2.2
    rw [fON] at ho
    have hgo := fun p' w h1 h2 => ih (pre ++ [f]) p' w (by rw [hfs]; simp) h1 h2
    rw [List.length_append] at hgo
    by_cases hl : I 321 f = lv
    · rw [if_pos hl] at ho
      by_cases hk : nI p = k
      · rw [if_pos hk] at ho
        subst ho
        refine ev_iload dX6_fileOn_5 rfl ?_
        refine ev_aload_n dX6_fileOn_7 rfl ?_
        refine ev_getR dX6_fileOn_8 fX6_20 hC.K_st hC.R_al ?_
        refine ev_callV dX6_fileOn_11 okJx4a65c_size_8abf5 inJx4a65c_size_8abf5 seJx4a65c_size_8abf5 mlX6_91 hC.K_al (by decide) rfl [] rfl rfl (Nat.le_of_ble_eq_true rfl) (Nat.le_of_ble_eq_true rfl) (ss) (fun r_ G_ h_ => ?_)
        obtain ⟨rfl, rfl⟩ := h_
        try dsimp only [Option.toList, List.cons_append, List.nil_append]
        refine ev_icmp_geN 57 dX6_fileOn_14 (by decide) (by omega) (by omega) (fun c14 => absurd c14 (by omega)) (fun c14 => ?_)
        refine ev_aload_n dX6_fileOn_17 rfl ?_
        refine ev_getR dX6_fileOn_18 fX6_20 hC.K_st hC.R_al ?_
        refine ev_iload dX6_fileOn_21 rfl ?_
        refine ev_callV dX6_fileOn_23 okJx4a65c_get_915e3 inJx4a65c_get_915e3 seJx4a65c_get_915e3 mlX6_95 hC.K_al (by decide) rfl [iV _] rfl rfl (Nat.le_of_ble_eq_true rfl) (Nat.le_of_ble_eq_true rfl) (sg) (fun r_ G_ h_ => ?_)
        obtain ⟨rfl, rfl⟩ := h_
        try dsimp only [Option.toList, List.cons_append, List.nil_append]
        refine ev_cast (q := 5) dX6_fileOn_26 clX6_76 (by decide) hK ?_
        refine ev_astoreS dX6_fileOn_29 (by decide) rfl ?_
        refine ev_aload dX6_fileOn_31 rfl ?_
        refine ev_getI dX6_fileOn_33 fX6_99 hK ?_
        refine ev_iload_n dX6_fileOn_36 rfl ?_
        refine ev_icmp_ne 51 dX6_fileOn_37 (by decide) (fun c37 => absurd hl c37) (fun c37 => ?_)
        refine ev_iload_n dX6_fileOn_40 rfl ?_
        refine ev_iload_n dX6_fileOn_41 rfl ?_
        refine ev_icmp_ne 48 dX6_fileOn_42 (by decide) (fun c42 => absurd hk c42) (fun c42 => ?_)
        refine ev_aload dX6_fileOn_45 rfl ?_
        refine ev_areturn dX6_fileOn_47 rfl ?_
        exact hq
      · rw [if_neg hk] at ho
        have hgo := fun w => hgo (p + 1) w (by rw [List.length_singleton]; omega) ho
        refine ev_iload dX6_fileOn_5 rfl ?_
        refine ev_aload_n dX6_fileOn_7 rfl ?_
        refine ev_getR dX6_fileOn_8 fX6_20 hC.K_st hC.R_al ?_
        refine ev_callV dX6_fileOn_11 okJx4a65c_size_8abf5 inJx4a65c_size_8abf5 seJx4a65c_size_8abf5 mlX6_91 hC.K_al (by decide) rfl [] rfl rfl (Nat.le_of_ble_eq_true rfl) (Nat.le_of_ble_eq_true rfl) (ss) (fun r_ G_ h_ => ?_)
        obtain ⟨rfl, rfl⟩ := h_
        try dsimp only [Option.toList, List.cons_append, List.nil_append]
        refine ev_icmp_geN 57 dX6_fileOn_14 (by decide) (by omega) (by omega) (fun c14 => absurd c14 (by omega)) (fun c14 => ?_)
        refine ev_aload_n dX6_fileOn_17 rfl ?_
        refine ev_getR dX6_fileOn_18 fX6_20 hC.K_st hC.R_al ?_
        refine ev_iload dX6_fileOn_21 rfl ?_
        refine ev_callV dX6_fileOn_23 okJx4a65c_get_915e3 inJx4a65c_get_915e3 seJx4a65c_get_915e3 mlX6_95 hC.K_al (by decide) rfl [iV _] rfl rfl (Nat.le_of_ble_eq_true rfl) (Nat.le_of_ble_eq_true rfl) (sg) (fun r_ G_ h_ => ?_)
        obtain ⟨rfl, rfl⟩ := h_
        try dsimp only [Option.toList, List.cons_append, List.nil_append]
        refine ev_cast (q := 5) dX6_fileOn_26 clX6_76 (by decide) hK ?_
        refine ev_astoreS dX6_fileOn_29 (by decide) rfl ?_
        refine ev_aload dX6_fileOn_31 rfl ?_
        refine ev_getI dX6_fileOn_33 fX6_99 hK ?_
        refine ev_iload_n dX6_fileOn_36 rfl ?_
        refine ev_icmp_ne 51 dX6_fileOn_37 (by decide) (fun c37 => absurd hl c37) (fun c37 => ?_)
        refine ev_iload_n dX6_fileOn_40 rfl ?_
        refine ev_iload_n dX6_fileOn_41 rfl ?_
        refine ev_icmp_ne 48 dX6_fileOn_42 (by decide) (fun c42 => ?_) (fun c42 => absurd c42 hk)
        refine ev_iincNS (b := 1) dX6_fileOn_48 rfl (by decide) (by decide) rfl ?_
        refine ev_iincNS (b := 1) dX6_fileOn_51 rfl (by decide) (by decide) rfl ?_
        refine ev_goto 5 dX6_fileOn_54 (by decide) ?_
        exact hgo _
    · rw [if_neg hl] at ho
      have hgo := fun w => hgo p w (by omega) ho
      refine ev_iload dX6_fileOn_5 rfl ?_
      refine ev_aload_n dX6_fileOn_7 rfl ?_
      refine ev_getR dX6_fileOn_8 fX6_20 hC.K_st hC.R_al ?_
      refine ev_callV dX6_fileOn_11 okJx4a65c_size_8abf5 inJx4a65c_size_8abf5 seJx4a65c_size_8abf5 mlX6_91 hC.K_al (by decide) rfl [] rfl rfl (Nat.le_of_ble_eq_true rfl) (Nat.le_of_ble_eq_true rfl) (ss) (fun r_ G_ h_ => ?_)
      obtain ⟨rfl, rfl⟩ := h_
      try dsimp only [Option.toList, List.cons_append, List.nil_append]
      refine ev_icmp_geN 57 dX6_fileOn_14 (by decide) (by omega) (by omega) (fun c14 => absurd c14 (by omega)) (fun c14 => ?_)
      refine ev_aload_n dX6_fileOn_17 rfl ?_
      refine ev_getR dX6_fileOn_18 fX6_20 hC.K_st hC.R_al ?_
      refine ev_iload dX6_fileOn_21 rfl ?_
      refine ev_callV dX6_fileOn_23 okJx4a65c_get_915e3 inJx4a65c_get_915e3 seJx4a65c_get_915e3 mlX6_95 hC.K_al (by decide) rfl [iV _] rfl rfl (Nat.le_of_ble_eq_true rfl) (Nat.le_of_ble_eq_true rfl) (sg) (fun r_ G_ h_ => ?_)
      obtain ⟨rfl, rfl⟩ := h_
      try dsimp only [Option.toList, List.cons_append, List.nil_append]
      refine ev_cast (q := 5) dX6_fileOn_26 clX6_76 (by decide) hK ?_
      refine ev_astoreS dX6_fileOn_29 (by decide) rfl ?_
      refine ev_aload dX6_fileOn_31 rfl ?_
      refine ev_getI dX6_fileOn_33 fX6_99 hK ?_
      refine ev_iload_n dX6_fileOn_36 rfl ?_
      refine ev_icmp_ne 51 dX6_fileOn_37 (by decide) (fun c37 => ?_) (fun c37 => absurd c37 hl)
      refine ev_iincNS (b := 1) dX6_fileOn_51 rfl (by decide) (by decide) rfl ?_
      refine ev_goto 5 dX6_fileOn_54 (by decide) ?_
      exact hgo _
theorem cs_fileOn (hC : CFix K R Ln) {a m : Nat} {fs : List Nat} (h : AlR K I R B Ln n a m fs) {lv k : Int32} : EvM X mX6_fileOn (d + 3) [rV (some 7), iV lv, iV k] (K, I, J, R, A, B, Ln, n, sl) (fun r G' => r = some (rV (fON I lv k fs 0)) ∧ G' = (K, I, J, R, A, B, Ln, n, sl)) := by
  show Ev X mX6_fileOn (d + 3) 0 [some (rV (some 7)), some (iV lv), some (iV k), none, none, none] [] (K, I, J, R, A, B, Ln, n, sl) _
  refine ev_iconstN 0 dX6_fileOn_0 (by decide) ?_
  refine ev_istore_nS dX6_fileOn_1 (by decide) rfl ?_
  refine ev_iconstN 0 dX6_fileOn_2 (by decide) ?_
  refine ev_istoreS dX6_fileOn_3 (by decide) rfl ?_
  exact lp_fo hC h ⟨rfl, rfl⟩ fs [] 0 _ rfl (by simp) rfl
end C74
