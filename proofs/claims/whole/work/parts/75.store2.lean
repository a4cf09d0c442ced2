def shB (B : Nat → Nat → Option Nat) (i len : Nat) : Nat → Nat → Option Nat := fun a j => if a = 8 ∧ i < j ∧ j ≤ len then B 8 (j - 1) else B a j
theorem shB_0 {B : Nat → Nat → Option Nat} {len : Nat} : shB B len len = B := by
  funext a j
  unfold shB
  rw [if_neg (by omega)]
theorem shB_at {B : Nat → Nat → Option Nat} {i len : Nat} : shB B (i + 1) len 8 i = B 8 i := by
  unfold shB
  rw [if_neg (by omega)]
theorem shB_s {B : Nat → Nat → Option Nat} {i len : Nat} (h : i < len) {v : Option Nat} (hv : B 8 i = v) : u2 (shB B (i + 1) len) 8 (i + 1) v = shB B i len := by
  subst hv
  funext a j
  unfold u2 shB
  by_cases h1 : a = 8 ∧ j = i + 1
  · obtain ⟨rfl, rfl⟩ := h1
    rw [if_pos ⟨rfl, rfl⟩, if_pos ⟨rfl, by omega, by omega⟩, Nat.add_sub_cancel]
  · rw [if_neg h1]
    by_cases h2 : a = 8 ∧ i + 1 < j ∧ j ≤ len
    · rw [if_pos h2, if_pos ⟨h2.1, by omega, h2.2.2⟩]
    · rw [if_neg h2, if_neg (fun z => h2 ⟨z.1, by omega, z.2.2⟩)]
/-- an element put between -/
def insA (cs : List Nat) (c e : Nat) : List Nat := cs.take c ++ e :: cs.drop c
theorem insA_len {cs : List Nat} {c e : Nat} : (insA cs c e).length = cs.length + 1 := by
  unfold insA
  rw [List.length_append, List.length_cons, List.length_take, List.length_drop]; omega
theorem insA_at {cs : List Nat} {c e : Nat} (hc : c ≤ cs.length) (j : Nat) : (insA cs c e)[j]? = if j < c then cs[j]? else if j = c then some e else cs[j - 1]? := by
  unfold insA
  have hl : (cs.take c).length = c := by rw [List.length_take]; omega
  by_cases h1 : j < c
  · rw [if_pos h1, List.getElem?_append_left (by omega), List.getElem?_take_of_lt h1]
  · rw [if_neg h1, List.getElem?_append_right (by omega), hl]
    by_cases h2 : j = c
    · rw [if_pos h2, h2, Nat.sub_self]; rfl
    · rw [if_neg h2]
      obtain ⟨k, rfl⟩ : ∃ k, j = c + (k + 1) := ⟨j - c - 1, by omega⟩
      rw [Nat.add_sub_cancel_left, List.getElem?_cons_succ, List.getElem?_drop]
      rfl
section C75
variable {X : CX} {d : Nat} {K : Nat → Nat} {I : Nat → Nat → Int32} {J : Nat → Nat → Int64} {R : Nat → Nat → Option Nat} {A : Nat → Nat → Int32} {B : Nat → Nat → Option Nat} {Ln : Nat → Nat} {n sl : Nat}
set_option maxRecDepth 100000 in
set_option maxHeartbeats 4000000 in
theorem lp_add {Q : Option LV → GH → Prop} (hC : CFix K R Ln) {cs : List Nat} (hE : EnR K I B cs) (hl : cs.length < 500) {e c : Nat} (hc : c ≤ cs.length) (kont : Ev X mX6_add (d + 2) 52 [some (rV (some 7)), some (rV (some e)), some (iV (nI c)), some (iV (nI (c)))] [] (K, I, J, R, A, shB B c cs.length, Ln, n, sl) Q) : ∀ (g i : Nat), i = c + g → i ≤ cs.length → Ev X mX6_add (d + 2) 27 [some (rV (some 7)), some (rV (some e)), some (iV (nI c)), some (iV (nI (i)))] [] (K, I, J, R, A, shB B i cs.length, Ln, n, sl) Q := by
  intro g
  induction g with
  | zero =>
    intro i hi hil
    have e1 : i = c := by omega
    subst e1
    refine ev_iload_n dX6_add_27 rfl ?_
    refine ev_iload_n dX6_add_28 rfl ?_
    refine ev_icmp_leN 52 dX6_add_29 (by decide) (by omega) (by omega) (fun c29 => ?_) (fun c29 => absurd c29 (by omega))
    exact kont
  | succ g ih =>
    intro i hi hil
    obtain ⟨i, rfl⟩ : ∃ k, i = k + 1 := ⟨i - 1, by omega⟩
    have hat : cs[i]? = some (cs[i]'(by omega)) := List.getElem?_eq_getElem (by omega)
    obtain ⟨hB, hK⟩ := hE.2.2 _ _ hat
    have hB2 := (shB_at (B := B) (i := i) (len := cs.length)).trans hB
    have hgo := ih i (by omega) (by omega)
    rw [← shB_s (by omega) hB] at hgo
    have hB3 : shB B (i + 1) cs.length 8 (i + 1 - 1) = some (cs[i]'(by omega)) := hB2
    refine ev_iload_n dX6_add_27 rfl ?_
    refine ev_iload_n dX6_add_28 rfl ?_
    refine ev_icmp_leN 52 dX6_add_29 (by decide) (by omega) (by omega) (fun c29 => absurd c29 (by omega)) (fun c29 => ?_)
    refine ev_aload_n dX6_add_32 rfl ?_
    refine ev_getR dX6_add_33 fX6_11 hC.K_st hC.R_es ?_
    refine ev_iload_n dX6_add_36 rfl ?_
    refine ev_aload_n dX6_add_37 rfl ?_
    refine ev_getR dX6_add_38 fX6_11 hC.K_st hC.R_es ?_
    refine ev_iload_n dX6_add_41 rfl ?_
    refine ev_iconstN 1 dX6_add_42 (by decide) ?_
    refine ev_isubN dX6_add_43 (by omega) ?_
    refine ev_aald (q := 5) dX6_add_44 hC.K_es (by decide) (by decide) hC.L_es (by decide) (by omega) hB3 ?_
    refine ev_aast (q := 5) dX6_add_45 hC.K_es (by decide) (by decide) hC.L_es (by decide) (by omega) hK (by decide) (Or.inl rfl) ?_
    refine ev_iincMS dX6_add_46 rfl (by decide) (by decide) rfl ?_
    refine ev_goto 27 dX6_add_49 (by decide) ?_
    exact hgo
theorem cs_add (hC : CFix K R Ln) {cs : List Nat} (hE : EnR K I B cs) (hl : cs.length < 500) {e : Nat} (he : K e = 0) {c : Nat} (hc : c ≤ cs.length) (hb : ∀ j x, cs[j]? = some x → (befL (J 3 x) (I 4 x) (J 3 e) (I 4 e) = true ↔ j < c)) : EvM X mX6_add (d + 2) [rV (some 7), rV (some e)] (K, I, J, R, A, B, Ln, n, sl) (fun r G' => r = none ∧ ∃ B', (∀ i, i ≠ 8 → B' i = B i) ∧ (∀ I', I' 385 7 = nI (cs.length + 1) → EnR K I' B' (insA cs c e)) ∧ G' = (K, u2 (u2 I 385 7 (nI (cs.length + 1))) 386 7 (I 386 7 + nI 1), J, R, A, B', Ln, n, sl)) := by
  have sr := cs_hasRoom (X := X) (d := d + 1) (I := I) (J := J) (R := R) (A := A) (B := B) (Ln := Ln) (n := n) (sl := sl) (m := 1) hC.K_st hE.1 (by omega)
  rw [decide_eq_true (by omega)] at sr
  have h385 : ∀ i, shB B c i 7 = B 7 := fun i => by funext j; unfold shB; rw [if_neg (by omega)]
  show Ev X mX6_add (d + 2) 0 [some (rV (some 7)), some (rV (some e)), none, none] [] (K, I, J, R, A, B, Ln, n, sl) _
  have fin : Ev X mX6_add (d + 2) 52 [some (rV (some 7)), some (rV (some e)), some (iV (nI c)), some (iV (nI (c)))] [] (K, I, J, R, A, shB B c cs.length, Ln, n, sl) (fun r G' => r = none ∧ ∃ B', (∀ i, i ≠ 8 → B' i = B i) ∧ (∀ I', I' 385 7 = nI (cs.length + 1) → EnR K I' B' (insA cs c e)) ∧ G' = (K, u2 (u2 I 385 7 (nI (cs.length + 1))) 386 7 (I 386 7 + nI 1), J, R, A, B', Ln, n, sl)) := by
    refine ev_aload_n dX6_add_52 rfl ?_
    refine ev_getR dX6_add_53 fX6_11 hC.K_st hC.R_es ?_
    refine ev_iload_n dX6_add_56 rfl ?_
    refine ev_aload_n dX6_add_57 rfl ?_
    refine ev_aast (q := 5) dX6_add_58 hC.K_es (by decide) (by decide) hC.L_es (by decide) (by omega) he (by decide) (Or.inl rfl) ?_
    refine ev_aload_n dX6_add_59 rfl ?_
    refine ev_dup dX6_add_60 rfl ?_
    refine ev_getIv dX6_add_61 fX6_24 hC.K_st hE.1 ?_
    refine ev_iconstN 1 dX6_add_64 (by decide) ?_
    refine ev_iaddN dX6_add_65 ?_
    refine ev_putI dX6_add_66 fX6_24 (Or.inl rfl) (Or.inl rfl) hC.K_st ?_
    refine ev_aload_n dX6_add_69 rfl ?_
    refine ev_dup dX6_add_70 rfl ?_
    refine ev_getIv dX6_add_71 fX6_43 hC.K_st (u2_ne1 (by decide)) ?_
    refine ev_iconstN 1 dX6_add_74 (by decide) ?_
    refine ev_iadd (y := 1) dX6_add_75 ?_
    refine ev_putI dX6_add_76 fX6_43 (Or.inl rfl) (Or.inl rfl) hC.K_st ?_
    refine ev_return dX6_add_79 rfl ?_
    refine ⟨rfl, _, fun i hi => ?_, fun I' hI' => ⟨?_, ?_, fun j x hj => ?_⟩, rfl⟩
    · rw [u2_row' hi]
      funext j
      unfold shB
      rw [if_neg (fun z => hi z.1)]
    · rw [hI', insA_len]
    · rw [insA_len]; omega
    · rw [insA_at hc] at hj
      by_cases h1 : j < c
      · rw [if_pos h1] at hj
        obtain ⟨z1, z2⟩ := hE.2.2 _ _ hj
        refine ⟨?_, z2⟩
        rw [u2_ne2 (by omega)]
        unfold shB
        rw [if_neg (by omega)]
        exact z1
      · rw [if_neg h1] at hj
        by_cases h2 : j = c
        · rw [if_pos h2] at hj
          cases hj
          subst h2
          exact ⟨u2_self, he⟩
        · rw [if_neg h2] at hj
          obtain ⟨z1, z2⟩ := hE.2.2 _ _ hj
          obtain ⟨z3, -⟩ := List.getElem?_eq_some_iff.mp hj
          refine ⟨?_, z2⟩
          rw [u2_ne2 (by omega)]
          unfold shB
          rw [if_pos ⟨rfl, by omega, by omega⟩]
          exact z1
  have h0 := lp_add (X := X) (d := d) (J := J) (A := A) (n := n) (sl := sl) hC hE hl hc fin (cs.length - c) cs.length (by omega) (by omega)
  rw [shB_0] at h0
  refine ev_aload_n dX6_add_0 rfl ?_
  refine ev_iconstN 1 dX6_add_1 (by decide) ?_
  refine ev_callV dX6_add_2 okX6_hasRoomFor inX6_hasRoomFor seX6_hasRoomFor mlX6_28 hC.K_st (by decide) rfl [iV _] rfl rfl (Nat.le_of_ble_eq_true rfl) (Nat.le_of_ble_eq_true rfl) (sr) (fun r_ G_ h_ => ?_)
  obtain ⟨rfl, rfl⟩ := h_
  try dsimp only [Option.toList, List.cons_append, List.nil_append]
  refine ev_if_ne 9 dX6_add_5 (by decide) (fun c5 => ?_) (fun c5 => absurd c5 (by decide))
  refine ev_aload_n dX6_add_9 rfl ?_
  refine ev_aload_n dX6_add_10 rfl ?_
  refine ev_getJ dX6_add_11 fX6_32 he ?_
  refine ev_aload_n dX6_add_14 rfl ?_
  refine ev_getI dX6_add_15 fX6_36 he ?_
  refine ev_callV dX6_add_18 okX6_countBefore inX6_countBefore seX6_countBefore mlX6_39 hC.K_st (by decide) rfl [lV _, iV _] rfl rfl (Nat.le_of_ble_eq_true rfl) (Nat.le_of_ble_eq_true rfl) (cs_countBefore hC hE hc hb) (fun r_ G_ h_ => ?_)
  obtain ⟨rfl, rfl⟩ := h_
  try dsimp only [Option.toList, List.cons_append, List.nil_append]
  refine ev_istore_nS dX6_add_21 (by decide) rfl ?_
  refine ev_aload_n dX6_add_22 rfl ?_
  refine ev_getIv dX6_add_23 fX6_24 hC.K_st hE.1 ?_
  refine ev_istore_nS dX6_add_26 (by decide) rfl ?_
  exact h0
/-- what the making of a file with the id n leaves: number, level, first entry; the rest as before -/
def NfF (K : Nat → Nat) (I : Nat → Nat → Int32) (R B : Nat → Nat → Option Nat) (Ln : Nat → Nat) (n sl a m : Nat) (num lv : Int32) (e : Nat) (K' : Nat → Nat) (I' : Nat → Nat → Int32) (R' B' : Nat → Nat → Option Nat) (Ln' : Nat → Nat) (n' sl' a' m' : Nat) : Prop :=
  ((n' = n + 1 ∧ sl' = sl + 6 ∧ a' = a ∧ m' = m) ∨ (n' = n + 2 ∧ sl' = sl + 6 + m' ∧ m < m' ∧ a' = n + 1)) ∧ (K' n = 5 ∧ I' 320 n = num ∧ I' 321 n = lv ∧ I' 324 n = 0 ∧ I' 325 n = 0 ∧ R' 322 n = some e ∧ R' 323 n = some e ∧ I' 388 7 = num) ∧ (∀ i, ¬ (i = n ∨ i = n + 1) → K' i = K i ∧ Ln' i = Ln i) ∧ (∀ i, n' ≤ i → K' i = K i ∧ Ln' i = Ln i) ∧ (∀ f i, ¬ (i = n ∨ (i = 7 ∧ f = 388) ∨ (i = 9 ∧ (f = 640 ∨ f = 642))) → I' f i = I f i) ∧ (∀ f i, ¬ (i = n ∨ (i = 9 ∧ f = 641)) → R' f i = R f i) ∧ ∀ i, i ≠ a' → B' i = B i
set_option maxRecDepth 100000 in
set_option maxHeartbeats 4000000 in
theorem cs_newFile (hC : CFix K R Ln) {a m : Nat} {fs : List Nat} (h : AlR K I R B Ln n a m fs) {lv : Int32} {e md : Nat} (hl : fs.length < 520) (hn : 34 ≤ n) (hel : ∀ g ∈ fs, g < n) (hmd : I 388 7 = nI md) (hI : ∀ f, I f n = 0) : EvM X mX6_newFile (d + 7) [rV (some 7), iV lv, rV (some e)] (K, I, J, R, A, B, Ln, n, sl) (fun r G' => r = some (rV (some n)) ∧ ∃ K' I' R' B' Ln' n' sl' a' m', AlR K' I' R' B' Ln' n' a' m' (fs ++ [n]) ∧ NfF K I R B Ln n sl a m (nI (md + 1)) lv e K' I' R' B' Ln' n' sl' a' m' ∧ G' = (K', I', J, R', A, B', Ln', n', sl')) := by
  have k7 : va_up K n 5 7 = 6 := by rw [va_up_ne _ _ (by omega)]; exact hC.K_st
  have k9 : va_up K n 5 9 = 10 := by rw [va_up_ne _ _ (by omega)]; exact hC.K_al
  have kn : va_up K n 5 n = 5 := va_up_self _ _ _
  have hIv : ∀ f, u2 I 388 7 (nI (md + 1)) f n = 0 := fun f => by rw [u2_ne2 (by omega)]; exact hI f
  have hv : u2 I 388 7 (nI (md + 1)) 388 7 = nI (md + 1) := u2_self
  have hA : AlR (va_up K n 5) (u2 (u2 (u2 I 388 7 (nI (md + 1))) 320 n (nI (md + 1))) 321 n lv) (u2 (u2 R 322 n (some e)) 323 n (some e)) B Ln (n + 1) a m fs := by
    obtain ⟨h1, h2, h3, h4, h5, h6⟩ := h
    refine ⟨?_, ?_, ?_, h4, h5, fun j f hj => ?_⟩
    · rw [u2_ne1 (by decide), u2_ne1 (by decide), u2_ne1 (by decide)]; exact h1
    · rw [u2_ne1 (by decide), u2_ne1 (by decide)]; exact h2
    · rcases h3 with h3 | ⟨z1, z2, z3, z4, z5⟩
      · exact Or.inl h3
      · exact Or.inr ⟨z1, by omega, by rw [va_up_ne _ _ (by omega)]; exact z3, z4, z5⟩
    · obtain ⟨z1, z2⟩ := h6 j f hj
      obtain ⟨hz, hy⟩ := List.getElem?_eq_some_iff.mp hj
      have := hel f (hy ▸ List.getElem_mem hz)
      exact ⟨z1, by rw [va_up_ne _ _ (by omega)]; exact z2⟩
  have r387 : u2 (u2 R 322 n (some e)) 323 n (some e) 387 7 = some 9 := by rw [u2_ne1 (by decide), u2_ne1 (by decide)]; exact hC.R_al
  show Ev X mX6_newFile (d + 7) 0 [some (rV (some 7)), some (iV lv), some (rV (some e)), none] [] (K, I, J, R, A, B, Ln, n, sl) _
  refine ev_aload_n dX6_newFile_0 rfl ?_
  refine ev_dup dX6_newFile_1 rfl ?_
  refine ev_getIv dX6_newFile_2 fX6_81 hC.K_st hmd ?_
  refine ev_iconstN 1 dX6_newFile_5 (by decide) ?_
  refine ev_iaddN dX6_newFile_6 ?_
  refine ev_putI dX6_newFile_7 fX6_81 (Or.inl rfl) (Or.inl rfl) hC.K_st ?_
  refine ev_new dX6_newFile_10 nwX6_76 ?_
  refine ev_dup dX6_newFile_13 rfl ?_
  refine ev_aload_n dX6_newFile_14 rfl ?_
  refine ev_getIv dX6_newFile_15 fX6_81 k7 hv ?_
  refine ev_iload_n dX6_newFile_18 rfl ?_
  refine ev_aload_n dX6_newFile_19 rfl ?_
  refine ev_callI dX6_newFile_20 okX5_init inX5_init rfl rfl mlX6_84 [iV _, iV _, rV _] rfl rfl (Nat.le_of_ble_eq_true rfl) (Nat.le_of_ble_eq_true rfl) (cs_newSorted kn) (fun r_ G_ h_ => ?_)
  obtain ⟨rfl, rfl⟩ := h_
  try dsimp only [Option.toList, List.cons_append, List.nil_append]
  refine ev_astore_nS dX6_newFile_23 (by decide) rfl ?_
  refine ev_aload_n dX6_newFile_24 rfl ?_
  refine ev_getR dX6_newFile_25 fX6_20 k7 r387 ?_
  refine ev_aload_n dX6_newFile_28 rfl ?_
  refine ev_callV dX6_newFile_29 okJx4a65c_add_9ea2d inJx4a65c_add_9ea2d seJx4a65c_add_9ea2d mlX6_87 k9 (by decide) rfl [rV _] rfl rfl (Nat.le_of_ble_eq_true rfl) (Nat.le_of_ble_eq_true rfl) (cs_alAdd k9 hA hl kn (by omega) (by omega) (fun g hg => by have := hel g hg; omega)) (fun r_ G_ h_ => ?_)
  obtain ⟨K', I', R', B', Ln', n', sl', a', m', g1, g2, rfl, rfl⟩ := h_
  try dsimp only [Option.toList, List.cons_append, List.nil_append]
  refine ev_pop dX6_newFile_32 rfl ?_
  refine ev_aload_n dX6_newFile_33 rfl ?_
  refine ev_areturn dX6_newFile_34 rfl ?_
  refine ⟨rfl, _, _, _, _, _, _, _, _, _, g1, ?_, rfl⟩
  obtain ⟨q1, q2, q3, q4⟩ := g2
  have qK : ∀ i, i ≠ n + 1 → K' i = va_up K n 5 i ∧ Ln' i = Ln i := fun i hi => by
    rcases q1 with ⟨-, -, -, -, e2, e3⟩ | ⟨-, -, -, -, e2, e3⟩
    · rw [e2, e3]; exact ⟨rfl, rfl⟩
    · rw [e2, e3, va_up_ne _ _ hi, va_up_ne _ _ hi]; exact ⟨rfl, rfl⟩
  refine ⟨?_, ⟨?_, ?_, ?_, ?_, ?_, ?_, ?_, ?_⟩, fun i hi => ?_, fun i hi => ?_, fun f i hi => ?_, fun f i hi => ?_, q4⟩
  · rcases q1 with ⟨e1, e2, e3, e4, -, -⟩ | ⟨e1, e2, e3, e4, -, -⟩
    · exact Or.inl ⟨e1, e2, e3, e4⟩
    · exact Or.inr ⟨e1, e2, e3, e4⟩
  · rw [(qK n (by omega)).1]; exact kn
  · rw [q2 _ _ (by omega), u2_ne1 (by decide)]; exact u2_self
  · rw [q2 _ _ (by omega)]; exact u2_self
  · rw [q2 _ _ (by omega), u2_ne1 (by decide), u2_ne1 (by decide)]; exact hIv _
  · rw [q2 _ _ (by omega), u2_ne1 (by decide), u2_ne1 (by decide)]; exact hIv _
  · rw [q3 _ _ (by omega), u2_ne1 (by decide)]; exact u2_self
  · rw [q3 _ _ (by omega)]; exact u2_self
  · rw [q2 _ _ (by omega), u2_ne1 (by decide), u2_ne1 (by decide)]; exact hv
  · rw [(qK i (by omega)).1, (qK i (by omega)).2, va_up_ne _ _ (by omega)]; exact ⟨rfl, rfl⟩
  · rcases q1 with ⟨e1, -, -, -, e2, e3⟩ | ⟨e1, -, -, -, e2, e3⟩
    · rw [e2, e3, va_up_ne _ _ (by omega)]; exact ⟨rfl, rfl⟩
    · rw [(qK i (by omega)).1, (qK i (by omega)).2, va_up_ne _ _ (by omega)]; exact ⟨rfl, rfl⟩
  · rw [q2 f i (fun z => hi (Or.inr (Or.inr z)))]
    unfold u2
    rw [if_neg (fun z => hi (Or.inl z.2)), if_neg (fun z => hi (Or.inl z.2)), if_neg (fun z => hi (Or.inr (Or.inl ⟨z.2, z.1⟩)))]
  · rw [q3 f i (fun z => hi (Or.inr z))]
    unfold u2
    rw [if_neg (fun z => hi (Or.inl z.2)), if_neg (fun z => hi (Or.inl z.2))]
end C75
