theorem ExpR.ty {K : Nat → Nat} {I : Nat → Nat → Int32} {R : Nat → Nat → Option Nat} : ∀ {f i : Nat} {e : EX}, ExpR K I R f i e → ∃ op, op ≤ 12 ∧ K i = 1 ∧ I 64 i = nI op ∧ tyE e = decide (7 ≤ op) ∧ I 68 i = nI e.length
  | f + 1, i, e, h => by
    obtain ⟨op, v, a, b, h1, h2, h3, h4, h5, h6⟩ := h
    exact ⟨op, by rcases h6 with ⟨g1, -⟩ | ⟨g1, -⟩ | ⟨g1, g2, -⟩ <;> omega, h2, h3, by rw [h1, tyE_snoc], h5⟩
theorem fON_neg {I : Nat → Nat → Int32} {lv k : Int32} (hk : k < 0) : ∀ {l : List Nat} {p : Nat}, p + l.length < 2147483648 → fON I lv k l p = none
  | [], p, _ => rfl
  | f :: l, p, hp => by
    rw [List.length_cons] at hp
    unfold fON
    by_cases h1 : I 321 f = lv
    · rw [if_pos h1, if_neg (fun z => by rw [← z] at hk; exact nI_nneg (by omega) hk), fON_neg hk (by omega)]
    · rw [if_neg h1, fON_neg hk (by omega)]
theorem fON_get {I : Nat → Nat → Int32} {lv : Int32} {k : Nat} (hk : k < 2147483648) : ∀ {l : List Nat} {p : Nat}, p ≤ k → p + l.length < 2147483648 → fON I lv (nI k) l p = (l.filter (fun f => decide (I 321 f = lv)))[k - p]?
  | [], p, _, _ => by simp [fON]
  | f :: l, p, hp, hb => by
    rw [List.length_cons] at hb
    unfold fON
    by_cases h1 : I 321 f = lv
    · rw [if_pos h1, List.filter_cons_of_pos (p := fun f => decide (I 321 f = lv)) (decide_eq_true h1)]
      by_cases h2 : p = k
      · subst h2
        rw [if_pos rfl, Nat.sub_self]; rfl
      · rw [if_neg (fun z => h2 ((neq (by omega) (by omega)).mp z)), fON_get hk (by omega) (by omega)]
        obtain ⟨q, hq⟩ : ∃ q, k - p = q + 1 := ⟨k - p - 1, by omega⟩
        rw [hq, List.getElem?_cons_succ, show k - (p + 1) = q by omega]
    · rw [if_neg h1, List.filter_cons_of_neg (p := fun f => decide (I 321 f = lv)) (by show ¬ decide (I 321 f = lv) = true; rw [decide_eq_false h1]; decide), fON_get hk (by omega) (by omega)]
section C98J
variable {X : CX} {d : Nat} {K : Nat → Nat} {I : Nat → Nat → Int32} {J : Nat → Nat → Int64} {R : Nat → Nat → Option Nat} {A : Nat → Nat → Int32} {B : Nat → Nat → Option Nat} {Ln : Nat → Nat} {n sl : Nat} {a m : Nat} {cs fs : List Nat} {s : SA} {many tn la : Nat} {ti : Nat → Nat} {pn : Nat} {px : Nat → Nat} {pe : Nat → EX} {ixn : Nat} {ie : Nat → EX} {rn : Nat} {p : PP}
set_option maxRecDepth 100000 in
set_option maxHeartbeats 4000000 in
theorem cs_typeOfTop {P : Prop} (hC : CFix K R Ln) (hP : SmP K I R A B pn px pe) : EvM X mX8_typeOfTop (d + 2) [rV (some 3)] (K, I, J, R, A, B, Ln, n, sl) (fun r G' => r = some (iV (if pn = 0 then -1 else if A 15 (pn - 1) = 0 then 0 else 1)) ∧ G' = (K, I, J, R, A, B, Ln, n, sl)) := by
  obtain ⟨p1, p2, p3, p4⟩ := hP
  show Ev X mX8_typeOfTop (d + 2) 0 [some (rV (some 3)), none] [] (K, I, J, R, A, B, Ln, n, sl) _
  by_cases h0 : pn = 0
  · subst h0
    rw [if_pos rfl]
    refine ev_aload_n dX8_typeOfTop_0 rfl ?_
    refine ev_callV dX8_typeOfTop_1 okX8_topOfPile inX8_topOfPile seX8_topOfPile mlX8_64 hC.m (by decide) rfl [] rfl rfl (Nat.le_of_ble_eq_true rfl) (Nat.le_of_ble_eq_true rfl) (cs_top0 hC p1) (fun r_ G_ h_ => ?_)
    obtain ⟨rfl, rfl⟩ := h_
    try dsimp only [Option.toList, List.cons_append, List.nil_append]
    refine ev_astore_nS dX8_typeOfTop_4 (by decide) rfl ?_
    refine ev_aload_n dX8_typeOfTop_5 rfl ?_
    refine ev_ifnonnull 11 dX8_typeOfTop_6 (by decide) (fun x c6 => by cases c6) (fun c6 => ?_)
    refine ev_iconst (-1) dX8_typeOfTop_9 (by decide) ?_
    refine ev_ireturn dX8_typeOfTop_10 rfl ?_
    exact ⟨rfl, rfl⟩
  · rw [if_neg h0]
    obtain ⟨q, rfl⟩ : ∃ q, pn = q + 1 := ⟨pn - 1, by omega⟩
    obtain ⟨z1, z2, z3, z4⟩ := p4 q (by omega)
    obtain ⟨op, o1, o2, o3, o4, -⟩ := z2.ty
    have sb := cs_isBool (X := X) (d := d + 1) (J := J) (R := R) (A := A) (B := B) (Ln := Ln) (n := n) (sl := sl) o2 o3 o1
    rw [← o4] at sb
    rw [Nat.add_sub_cancel, z4]
    cases ht : tyE (pe q) with
    | true =>
      rw [ht] at sb
      refine ev_aload_n dX8_typeOfTop_0 rfl ?_
      refine ev_callV dX8_typeOfTop_1 okX8_topOfPile inX8_topOfPile seX8_topOfPile mlX8_64 hC.m (by decide) rfl [] rfl rfl (Nat.le_of_ble_eq_true rfl) (Nat.le_of_ble_eq_true rfl) (cs_top1 hC p1 (by omega) z1) (fun r_ G_ h_ => ?_)
      obtain ⟨rfl, rfl⟩ := h_
      try dsimp only [Option.toList, List.cons_append, List.nil_append]
      refine ev_astore_nS dX8_typeOfTop_4 (by decide) rfl ?_
      refine ev_aload_n dX8_typeOfTop_5 rfl ?_
      refine ev_ifnonnull 11 dX8_typeOfTop_6 (by decide) (fun x c6 => ?_) (fun c6 => by cases c6)
      refine ev_aload_n dX8_typeOfTop_11 rfl ?_
      refine ev_callV dX8_typeOfTop_12 okX1_isBool inX1_isBool seX1_isBool mlX8_68 o2 (by decide) rfl [] rfl rfl (Nat.le_of_ble_eq_true rfl) (Nat.le_of_ble_eq_true rfl) (sb) (fun r_ G_ h_ => ?_)
      obtain ⟨rfl, rfl⟩ := h_
      try dsimp only [Option.toList, List.cons_append, List.nil_append]
      refine ev_if_eq 22 dX8_typeOfTop_15 (by decide) (fun c15 => absurd c15 (by decide)) (fun c15 => ?_)
      refine ev_iconstN 1 dX8_typeOfTop_18 (by decide) ?_
      refine ev_goto 23 dX8_typeOfTop_19 (by decide) ?_
      refine ev_ireturn dX8_typeOfTop_23 rfl ?_
      exact ⟨rfl, rfl⟩
    | false =>
      rw [ht] at sb
      refine ev_aload_n dX8_typeOfTop_0 rfl ?_
      refine ev_callV dX8_typeOfTop_1 okX8_topOfPile inX8_topOfPile seX8_topOfPile mlX8_64 hC.m (by decide) rfl [] rfl rfl (Nat.le_of_ble_eq_true rfl) (Nat.le_of_ble_eq_true rfl) (cs_top1 hC p1 (by omega) z1) (fun r_ G_ h_ => ?_)
      obtain ⟨rfl, rfl⟩ := h_
      try dsimp only [Option.toList, List.cons_append, List.nil_append]
      refine ev_astore_nS dX8_typeOfTop_4 (by decide) rfl ?_
      refine ev_aload_n dX8_typeOfTop_5 rfl ?_
      refine ev_ifnonnull 11 dX8_typeOfTop_6 (by decide) (fun x c6 => ?_) (fun c6 => by cases c6)
      refine ev_aload_n dX8_typeOfTop_11 rfl ?_
      refine ev_callV dX8_typeOfTop_12 okX1_isBool inX1_isBool seX1_isBool mlX8_68 o2 (by decide) rfl [] rfl rfl (Nat.le_of_ble_eq_true rfl) (Nat.le_of_ble_eq_true rfl) (sb) (fun r_ G_ h_ => ?_)
      obtain ⟨rfl, rfl⟩ := h_
      try dsimp only [Option.toList, List.cons_append, List.nil_append]
      refine ev_if_eq 22 dX8_typeOfTop_15 (by decide) (fun c15 => ?_) (fun c15 => absurd c15 (fun z => z rfl))
      refine ev_iconstN 0 dX8_typeOfTop_22 (by decide) ?_
      refine ev_ireturn dX8_typeOfTop_23 rfl ?_
      exact ⟨rfl, rfl⟩
set_option maxRecDepth 100000 in
set_option maxHeartbeats 4000000 in
theorem op_about (h : Sim K I J R A B Ln n a m cs fs s many tn la ti pn px pe ixn ie rn p) (hmd : s.2.2 < 2147483648) (x : Int32) {P : GH → Prop} (hP : P (K, I, J, R, A, B, Ln, n, sl)) : EvM X mX8_about (d + 60) [rV (some 3), iV x] (K, I, J, R, A, B, Ln, n, sl) (fun r1 G1 => G1.1 11 = 9 ∧ EvM X mX9_about (d + 60) [rV (some 11), iV x] G1 (fun r2 G2 => r2 = r1 ∧ P G2)) := by
  obtain ⟨hm5, hf5, hv⟩ := h.vld hmd
  have hti := h.tis
  have hzz := h.hz
  obtain ⟨hH, hM, hR, hT, hPi, hX, -⟩ := h
  obtain ⟨⟨t1, t2⟩, t3, t4, t5, t6, t7, t8, t9, t10, t11⟩ := hT
  have hC := hH.1
  have hS := hH.2.1
  have fin := (sp_about (X := X) (d := d + 59) (J := J) (B := B) (n := n) (sl := sl) hM t4 t1 hR.1 (by omega) hPi.2.1 hPi.2.2.1 (x := x)).mono (Q' := fun r2 G2 => r2 = some (iV (abM I A many tn pn x)) ∧ P G2) (fun r G' ⟨h1, h2⟩ => ⟨h1, by rw [h2]; exact hP⟩)
  have hc0 := hR.cnt0 (x := 0)
  have hcs := hS.cnt0 hmd
  have hml := hR.len
  have hcl : cs.length = s.1.length := by rw [hS.2.1, List.length_map]
  have e385 := hS.1.1.1.1
  have e386 := hS.1.1.2.2.2.2.2.2.1
  have hle : cs.countP (memB R) ≤ cs.length := List.countP_le_length
  have h5 := hS.1.1.1.2.1
  show Ev X mX8_about (d + 60) 0 [some (rV (some 3)), some (iV x)] [] (K, I, J, R, A, B, Ln, n, sl) _
  rcases i4_cases x (k := 7) (by decide) with ⟨j, hj, rfl⟩ | hx
  · obtain rfl | rfl | rfl | rfl | rfl | rfl | rfl : j = 0 ∨ j = 1 ∨ j = 2 ∨ j = 3 ∨ j = 4 ∨ j = 5 ∨ j = 6 := by omega
    · have e : abM I A many tn pn (nI 0) = nI la := t6
      rw [e] at fin
      refine ev_iload_n dX8_about_0 rfl ?_
      refine ev_tswIn (x := 0) 44 dX8_about_1 (by decide) (by decide) rfl (by decide) ?_
      refine ev_aload_n dX8_about_44 rfl ?_
      refine ev_getIv dX8_about_45 fX8_75 hC.m t5 ?_
      refine ev_ireturn dX8_about_48 rfl ?_
      refine ⟨by first | exact hM.1 | exact h_.1 | exact hM1.1 | exact (hq2.2.1 11 (by omega)).1.trans hM1.1 | exact (y2.2.1 11 (by omega)).1.trans hM.1 | exact (q1.2 11 (by omega)).1.trans hM.1 | exact (va_up_ne _ _ (by omega)).trans hM.1 | exact (va_up_ne _ _ (by omega)).trans ((va_up_ne _ _ (by omega)).trans ((va_up_ne _ _ (by omega)).trans hM.1)), ?_⟩
      exact fin
    · have e : abM I A many tn pn (nI 1) = hzI (A 25) (A 26) (I 594 11) tn := rfl
      rw [e, ← hzz] at fin
      have sh := cs_horizon (X := X) (d := d + 58) (I := I) (J := J) (A := A) (B := B) (n := n) (sl := sl) hC t3 t1 hti
      refine ev_iload_n dX8_about_0 rfl ?_
      refine ev_tswIn (x := 1) 49 dX8_about_1 (by decide) (by decide) rfl (by decide) ?_
      refine ev_aload_n dX8_about_49 rfl ?_
      refine ev_callV dX8_about_50 okX8_horizon inX8_horizon seX8_horizon mlX8_171 hC.m (by decide) rfl [] rfl rfl (Nat.le_of_ble_eq_true rfl) (Nat.le_of_ble_eq_true rfl) (sh) (fun r_ G_ h_ => ?_)
      obtain ⟨rfl, rfl⟩ := h_
      try dsimp only [Option.toList, List.cons_append, List.nil_append]
      refine ev_ireturn dX8_about_53 rfl ?_
      refine ⟨by first | exact hM.1 | exact h_.1 | exact hM1.1 | exact (hq2.2.1 11 (by omega)).1.trans hM1.1 | exact (y2.2.1 11 (by omega)).1.trans hM.1 | exact (q1.2 11 (by omega)).1.trans hM.1 | exact (va_up_ne _ _ (by omega)).trans hM.1 | exact (va_up_ne _ _ (by omega)).trans ((va_up_ne _ _ (by omega)).trans ((va_up_ne _ _ (by omega)).trans hM.1)), ?_⟩
      exact fin
    · have e : abM I A many tn pn (nI 2) = nI (cs.countP (memB R)) := by rw [hcs, ← hc0]; rfl
      rw [e] at fin
      refine ev_iload_n dX8_about_0 rfl ?_
      refine ev_tswIn (x := 2) 54 dX8_about_1 (by decide) (by decide) rfl (by decide) ?_
      refine ev_aload_n dX8_about_54 rfl ?_
      refine ev_getR dX8_about_55 fX8_27 hC.m hC.R_st ?_
      refine ev_getIv dX8_about_58 fX8_156 hC.K_st e386 ?_
      refine ev_ireturn dX8_about_61 rfl ?_
      refine ⟨by first | exact hM.1 | exact h_.1 | exact hM1.1 | exact (hq2.2.1 11 (by omega)).1.trans hM1.1 | exact (y2.2.1 11 (by omega)).1.trans hM.1 | exact (q1.2 11 (by omega)).1.trans hM.1 | exact (va_up_ne _ _ (by omega)).trans hM.1 | exact (va_up_ne _ _ (by omega)).trans ((va_up_ne _ _ (by omega)).trans ((va_up_ne _ _ (by omega)).trans hM.1)), ?_⟩
      exact fin
    · have e : abM I A many tn pn (nI 3) = nI (cs.length - cs.countP (memB R)) := by rw [hcs, ← hc0, hcl, ← hml]; rfl
      rw [e] at fin
      refine ev_iload_n dX8_about_0 rfl ?_
      refine ev_tswIn (x := 3) 62 dX8_about_1 (by decide) (by decide) rfl (by decide) ?_
      refine ev_aload_n dX8_about_62 rfl ?_
      refine ev_getR dX8_about_63 fX8_27 hC.m hC.R_st ?_
      refine ev_getIv dX8_about_66 fX8_199 hC.K_st e385 ?_
      refine ev_aload_n dX8_about_69 rfl ?_
      refine ev_getR dX8_about_70 fX8_27 hC.m hC.R_st ?_
      refine ev_getIv dX8_about_73 fX8_156 hC.K_st e386 ?_
      refine ev_isubN dX8_about_76 (by omega) ?_
      refine ev_ireturn dX8_about_77 rfl ?_
      refine ⟨by first | exact hM.1 | exact h_.1 | exact hM1.1 | exact (hq2.2.1 11 (by omega)).1.trans hM1.1 | exact (y2.2.1 11 (by omega)).1.trans hM.1 | exact (q1.2 11 (by omega)).1.trans hM.1 | exact (va_up_ne _ _ (by omega)).trans hM.1 | exact (va_up_ne _ _ (by omega)).trans ((va_up_ne _ _ (by omega)).trans ((va_up_ne _ _ (by omega)).trans hM.1)), ?_⟩
      exact fin
    · have e : abM I A many tn pn (nI 4) = nI pn := rfl
      rw [e] at fin
      refine ev_iload_n dX8_about_0 rfl ?_
      refine ev_tswIn (x := 4) 78 dX8_about_1 (by decide) (by decide) rfl (by decide) ?_
      refine ev_aload_n dX8_about_78 rfl ?_
      refine ev_getIv dX8_about_79 fX8_47 hC.m hPi.1 ?_
      refine ev_ireturn dX8_about_82 rfl ?_
      refine ⟨by first | exact hM.1 | exact h_.1 | exact hM1.1 | exact (hq2.2.1 11 (by omega)).1.trans hM1.1 | exact (y2.2.1 11 (by omega)).1.trans hM.1 | exact (q1.2 11 (by omega)).1.trans hM.1 | exact (va_up_ne _ _ (by omega)).trans hM.1 | exact (va_up_ne _ _ (by omega)).trans ((va_up_ne _ _ (by omega)).trans ((va_up_ne _ _ (by omega)).trans hM.1)), ?_⟩
      exact fin
    · have e : abM I A many tn pn (nI 5) = (if pn = 0 then -1 else if A 15 (pn - 1) = 0 then 0 else 1) := rfl
      rw [e] at fin
      have st := cs_typeOfTop (X := X) (d := d + 57) (P := True) (J := J) (n := n) (sl := sl) hC hPi
      refine ev_iload_n dX8_about_0 rfl ?_
      refine ev_tswIn (x := 5) 83 dX8_about_1 (by decide) (by decide) rfl (by decide) ?_
      refine ev_aload_n dX8_about_83 rfl ?_
      refine ev_callV dX8_about_84 okX8_typeOfTop inX8_typeOfTop seX8_typeOfTop mlX8_202 hC.m (by decide) rfl [] rfl rfl (Nat.le_of_ble_eq_true rfl) (Nat.le_of_ble_eq_true rfl) (st) (fun r_ G_ h_ => ?_)
      obtain ⟨rfl, rfl⟩ := h_
      try dsimp only [Option.toList, List.cons_append, List.nil_append]
      refine ev_ireturn dX8_about_87 rfl ?_
      refine ⟨by first | exact hM.1 | exact h_.1 | exact hM1.1 | exact (hq2.2.1 11 (by omega)).1.trans hM1.1 | exact (y2.2.1 11 (by omega)).1.trans hM.1 | exact (q1.2 11 (by omega)).1.trans hM.1 | exact (va_up_ne _ _ (by omega)).trans hM.1 | exact (va_up_ne _ _ (by omega)).trans ((va_up_ne _ _ (by omega)).trans ((va_up_ne _ _ (by omega)).trans hM.1)), ?_⟩
      exact fin
    · have e : abM I A many tn pn (nI 6) = nI ixn := hX.2.1
      rw [e] at fin
      refine ev_iload_n dX8_about_0 rfl ?_
      refine ev_tswIn (x := 6) 88 dX8_about_1 (by decide) (by decide) rfl (by decide) ?_
      refine ev_aload_n dX8_about_88 rfl ?_
      refine ev_getIv dX8_about_89 fX8_72 hC.m hX.1.1 ?_
      refine ev_ireturn dX8_about_92 rfl ?_
      refine ⟨by first | exact hM.1 | exact h_.1 | exact hM1.1 | exact (hq2.2.1 11 (by omega)).1.trans hM1.1 | exact (y2.2.1 11 (by omega)).1.trans hM.1 | exact (q1.2 11 (by omega)).1.trans hM.1 | exact (va_up_ne _ _ (by omega)).trans hM.1 | exact (va_up_ne _ _ (by omega)).trans ((va_up_ne _ _ (by omega)).trans ((va_up_ne _ _ (by omega)).trans hM.1)), ?_⟩
      exact fin
  · have hxn : ∀ k : Nat, k < 7 → ¬ x = nI k := fun k hk z => by
      rw [z, nI_toInt (by omega)] at hx
      omega
    have e : abM I A many tn pn x = -1 := by
      unfold abM
      rw [if_neg (show ¬ x = 0 from hxn 0 (by decide)), if_neg (show ¬ x = 1 from hxn 1 (by decide)), if_neg (show ¬ x = 2 from hxn 2 (by decide)), if_neg (show ¬ x = 3 from hxn 3 (by decide)), if_neg (show ¬ x = 4 from hxn 4 (by decide)), if_neg (show ¬ x = 5 from hxn 5 (by decide)), if_neg (show ¬ x = 6 from hxn 6 (by decide))]
    rw [e] at fin
    refine ev_iload_n dX8_about_0 rfl ?_
    refine ev_tswOut 93 dX8_about_1 hx (by decide) ?_
    refine ev_iconst (-1) dX8_about_93 (by decide) ?_
    refine ev_ireturn dX8_about_94 rfl ?_
    refine ⟨by first | exact hM.1 | exact h_.1 | exact hM1.1 | exact (hq2.2.1 11 (by omega)).1.trans hM1.1 | exact (y2.2.1 11 (by omega)).1.trans hM.1 | exact (q1.2 11 (by omega)).1.trans hM.1 | exact (va_up_ne _ _ (by omega)).trans hM.1 | exact (va_up_ne _ _ (by omega)).trans ((va_up_ne _ _ (by omega)).trans ((va_up_ne _ _ (by omega)).trans hM.1)), ?_⟩
    exact fin
set_option maxRecDepth 100000 in
set_option maxHeartbeats 4000000 in
theorem op_file (h : Sim K I J R A B Ln n a m cs fs s many tn la ti pn px pe ixn ie rn p) (hmd : s.2.2 < 2147483648) (x k w : Int32) {P : GH → Prop} (hP : P (K, I, J, R, A, B, Ln, n, sl)) : EvM X mX8_file (d + 60) [rV (some 3), iV x, iV k, iV w] (K, I, J, R, A, B, Ln, n, sl) (fun r1 G1 => G1.1 11 = 9 ∧ EvM X mX9_file (d + 60) [rV (some 11), iV x, iV k, iV w] G1 (fun r2 G2 => r2 = r1 ∧ P G2)) := by
  obtain ⟨hm5, hf5, hv⟩ := h.vld hmd
  obtain ⟨hH, hM, hR, hT, hPi, hX, -, -, hE⟩ := h
  have hC := hH.1
  have hS := hH.2.1
  have hfl : fs.length ≤ 500 := by rw [hS.2.2, List.length_map] at hf5; exact hf5
  have sf := cs_fileOn (X := X) (d := d + 56) (J := J) (A := A) (sl := sl) (lv := x) (k := k) hC hS.1.1.2.1
  have fno : (x < 0 ∨ 2 < x ∨ k < 0 ∨ w < 0 ∨ 7 < w) → EvM X mX9_file (d + 60) [rV (some 11), iV x, iV k, iV w] (K, I, J, R, A, B, Ln, n, sl) (fun r2 G2 => r2 = some (iV (-1)) ∧ P G2) := fun hz => (sp_file_no (d := d + 60) hM hz).mono (fun r G' ⟨h1, h2⟩ => ⟨h1, by rw [h2]; exact hP⟩)
  show Ev X mX8_file (d + 60) 0 [some (rV (some 3)), some (iV x), some (iV k), some (iV w), none] [] (K, I, J, R, A, B, Ln, n, sl) _
  cases ho : fON I x k fs 0 with
  | none =>
    rw [ho] at sf
    have fin : EvM X mX9_file (d + 60) [rV (some 11), iV x, iV k, iV w] (K, I, J, R, A, B, Ln, n, sl) (fun r2 G2 => r2 = some (iV (-1)) ∧ P G2) := by
      by_cases hz : x < 0 ∨ 2 < x ∨ k < 0 ∨ w < 0 ∨ 7 < w
      · exact fno hz
      · have hz : ¬ x < 0 ∧ ¬ 2 < x ∧ ¬ k < 0 ∧ ¬ w < 0 ∧ ¬ 7 < w := ⟨fun z => hz (Or.inl z), fun z => hz (Or.inr (Or.inl z)), fun z => hz (Or.inr (Or.inr (Or.inl z))), fun z => hz (Or.inr (Or.inr (Or.inr (Or.inl z)))), fun z => hz (Or.inr (Or.inr (Or.inr (Or.inr z))))⟩
        obtain ⟨kk, k1, rfl⟩ := nI_of hz.2.2.1
        obtain ⟨ww, w1, rfl⟩ := nI_of hz.2.2.2.1
        have hw8 : ww < 8 := by
          have := hz.2.2.2.2
          rw [show (7 : Int32) = nI 7 from rfl, nlt (by omega) w1] at this
          omega
        rw [fON_get k1 (Nat.zero_le _) (by omega)] at ho
        refine (sp_file (d := d + 56) hM hR.1 (by omega) hR.2.2.1 hR.2.2.2.1 (by omega) (fun p hp => (hR.ends hv (hv.2.2.1 p hp).1).1) hz.1 hz.2.1 k1 hw8).mono (fun r G' ⟨h1, h2⟩ => ⟨?_, by rw [h2]; exact hP⟩)
        rw [h1, hS.2.2, List.filter_map, List.getElem?_map]
        have : (fs.filter ((fun p : Int32 × Int32 => decide (p.2 = x)) ∘ fun f => (I 320 f, I 321 f)))[kk]? = none := ho
        rw [this]
        rfl
    refine ev_aload_n dX8_file_0 rfl ?_
    refine ev_getR dX8_file_1 fX8_27 hC.m hC.R_st ?_
    refine ev_iload_n dX8_file_4 rfl ?_
    refine ev_iload_n dX8_file_5 rfl ?_
    refine ev_callV dX8_file_6 okX6_fileOn inX6_fileOn seX6_fileOn mlX8_205 hC.K_st (by decide) rfl [iV _, iV _] rfl rfl (Nat.le_of_ble_eq_true rfl) (Nat.le_of_ble_eq_true rfl) (sf) (fun r_ G_ h_ => ?_)
    obtain ⟨rfl, rfl⟩ := h_
    try dsimp only [Option.toList, List.cons_append, List.nil_append]
    refine ev_astoreS dX8_file_9 (by decide) rfl ?_
    refine ev_aload dX8_file_11 rfl ?_
    refine ev_ifnonnull 20 dX8_file_13 (by decide) (fun x c13 => by cases c13) (fun c13 => ?_)
    refine ev_iconst (-1) dX8_file_16 (by decide) ?_
    refine ev_goto 26 dX8_file_17 (by decide) ?_
    refine ev_ireturn dX8_file_26 rfl ?_
    refine ⟨by first | exact hM.1 | exact h_.1 | exact hM1.1 | exact (hq2.2.1 11 (by omega)).1.trans hM1.1 | exact (y2.2.1 11 (by omega)).1.trans hM.1 | exact (q1.2 11 (by omega)).1.trans hM.1 | exact (va_up_ne _ _ (by omega)).trans hM.1 | exact (va_up_ne _ _ (by omega)).trans ((va_up_ne _ _ (by omega)).trans ((va_up_ne _ _ (by omega)).trans hM.1)), ?_⟩
    exact fin
  | some g =>
    rw [ho] at sf
    obtain ⟨g1, g2⟩ := fON_mem ho
    obtain ⟨k1, k2, k3⟩ := (CsR.kinds hS.1).2 g g1
    obtain ⟨d1, d2, d3, d4, d5⟩ := hS.1.1.ed g g1
    have hx02 : ¬ x < 0 ∧ ¬ 2 < x := by
      have := hE.2.2 (I 320 g, I 321 g) (by rw [hS.2.2]; exact List.mem_map_of_mem g1)
      rw [← g2]
      rcases this with z | z | z <;> rw [show I 321 g = _ from z] <;> decide
    have hk0 : ¬ k < 0 := fun z => by rw [fON_neg z (by omega)] at ho; cases ho
    rcases i4_cases w (k := 8) (by decide) with ⟨ww, hw8, rfl⟩ | hw
    · have st := cs_tell (X := X) (d := d + 59) (I := I) (J := J) (A := A) (B := B) (Ln := Ln) (n := n) (sl := sl) hw8 k1 d1 d2 d3 d4
      obtain ⟨kk, q1, rfl⟩ := nI_of hk0
      rw [fON_get q1 (Nat.zero_le _) (by omega)] at ho
      have hpm : (I 320 g, I 321 g) ∈ s.2.1 := by rw [hS.2.2]; exact List.mem_map_of_mem g1
      obtain ⟨a1, a2, a3, a4⟩ := hS.ends hmd g1
      obtain ⟨-, b1, b2, -⟩ := hR.ends hv (hv.2.2.1 _ hpm).1
      have e1 : ∀ b : Bool, (A 16 (eN A many b (I 320 g)) = I 0 (if b = true then fiR R cs g else laR R cs g)) ∧ (A 17 (eN A many b (I 320 g)) = I 1 (if b = true then fiR R cs g else laR R cs g)) ∧ A 18 (eN A many b (I 320 g)) = I 2 (if b = true then fiR R cs g else laR R cs g) := fun b => by
        have key : ∀ y z, nrmE (entA A y) = entC I R z → A 16 y = I 0 z ∧ A 17 y = I 1 z ∧ A 18 y = I 2 z := fun y z hyz => by
          obtain ⟨m1, m2, m3, -⟩ := nrm_S (entA A y)
          rw [hyz] at m1 m2 m3
          exact ⟨m1.symm, m2.symm, m3.symm⟩
        cases b with
        | true => exact key _ _ (b1.trans a3)
        | false => exact key _ _ (b2.trans a4)
      have fin : EvM X mX9_file (d + 60) [rV (some 11), iV x, iV (nI kk), iV (nI ww)] (K, I, J, R, A, B, Ln, n, sl) (fun r2 G2 => r2 = some (iV (tellV I g (fiR R cs g) (laR R cs g) ww)) ∧ P G2) := by
        refine (sp_file (d := d + 56) hM hR.1 (by omega) hR.2.2.1 hR.2.2.2.1 (by omega) (fun p hp => (hR.ends hv (hv.2.2.1 p hp).1).1) hx02.1 hx02.2 q1 hw8).mono (fun r G' ⟨h1, h2⟩ => ⟨?_, by rw [h2]; exact hP⟩)
        rw [h1, hS.2.2, List.filter_map, List.getElem?_map]
        have : (fs.filter ((fun p : Int32 × Int32 => decide (p.2 = x)) ∘ fun f => (I 320 f, I 321 f)))[kk]? = some g := ho
        rw [this]
        show some (iV (afV A many (I 320 g) ww)) = _
        have e324 : nI (cnt (fun e => decide (A 22 e = I 320 g)) many) = I 324 g := by
          rw [hR.cnt0, List.countP_eq_length_filter]
          have := hS.seg hmd g1
          unfold ofS at this
          rw [this, List.length_map]
          exact (hS.1.1.2.2.2.2.2.2.2.2.1 g g1).2.1.2.1.symm
        congr 2
        unfold afV tellV
        obtain rfl | rfl | rfl | rfl | rfl | rfl | rfl | rfl : ww = 0 ∨ ww = 1 ∨ ww = 2 ∨ ww = 3 ∨ ww = 4 ∨ ww = 5 ∨ ww = 6 ∨ ww = 7 := by omega
        · rfl
        · exact e324
        · exact (e1 true).1
        · exact (e1 true).2.1
        · exact (e1 true).2.2
        · exact (e1 false).1
        · exact (e1 false).2.1
        · exact (e1 false).2.2
      refine ev_aload_n dX8_file_0 rfl ?_
      refine ev_getR dX8_file_1 fX8_27 hC.m hC.R_st ?_
      refine ev_iload_n dX8_file_4 rfl ?_
      refine ev_iload_n dX8_file_5 rfl ?_
      refine ev_callV dX8_file_6 okX6_fileOn inX6_fileOn seX6_fileOn mlX8_205 hC.K_st (by decide) rfl [iV _, iV _] rfl rfl (Nat.le_of_ble_eq_true rfl) (Nat.le_of_ble_eq_true rfl) (sf) (fun r_ G_ h_ => ?_)
      obtain ⟨rfl, rfl⟩ := h_
      try dsimp only [Option.toList, List.cons_append, List.nil_append]
      refine ev_astoreS dX8_file_9 (by decide) rfl ?_
      refine ev_aload dX8_file_11 rfl ?_
      refine ev_ifnonnull 20 dX8_file_13 (by decide) (fun x c13 => ?_) (fun c13 => by cases c13)
      refine ev_aload dX8_file_20 rfl ?_
      refine ev_iload_n dX8_file_22 rfl ?_
      refine ev_callV dX8_file_23 okX5_tell inX5_tell seX5_tell mlX8_209 k1 (by decide) rfl [iV _] rfl rfl (Nat.le_of_ble_eq_true rfl) (Nat.le_of_ble_eq_true rfl) (st) (fun r_ G_ h_ => ?_)
      obtain ⟨rfl, rfl⟩ := h_
      try dsimp only [Option.toList, List.cons_append, List.nil_append]
      refine ev_ireturn dX8_file_26 rfl ?_
      refine ⟨by first | exact hM.1 | exact h_.1 | exact hM1.1 | exact (hq2.2.1 11 (by omega)).1.trans hM1.1 | exact (y2.2.1 11 (by omega)).1.trans hM.1 | exact (q1.2 11 (by omega)).1.trans hM.1 | exact (va_up_ne _ _ (by omega)).trans hM.1 | exact (va_up_ne _ _ (by omega)).trans ((va_up_ne _ _ (by omega)).trans ((va_up_ne _ _ (by omega)).trans hM.1)), ?_⟩
      exact fin
    · have st := cs_tell_no (X := X) (d := d + 59) (I := I) (J := J) (R := R) (A := A) (B := B) (Ln := Ln) (n := n) (sl := sl) k1 (x := w) (by omega)
      have fno := fno (by
        rcases hw with z | z
        · exact Or.inr (Or.inr (Or.inr (Or.inl (by rw [Int32.lt_iff_toInt_lt, show (0 : Int32).toInt = 0 by decide]; exact z))))
        · exact Or.inr (Or.inr (Or.inr (Or.inr (by rw [Int32.lt_iff_toInt_lt, show (7 : Int32).toInt = 7 by decide]; omega)))))
      refine ev_aload_n dX8_file_0 rfl ?_
      refine ev_getR dX8_file_1 fX8_27 hC.m hC.R_st ?_
      refine ev_iload_n dX8_file_4 rfl ?_
      refine ev_iload_n dX8_file_5 rfl ?_
      refine ev_callV dX8_file_6 okX6_fileOn inX6_fileOn seX6_fileOn mlX8_205 hC.K_st (by decide) rfl [iV _, iV _] rfl rfl (Nat.le_of_ble_eq_true rfl) (Nat.le_of_ble_eq_true rfl) (sf) (fun r_ G_ h_ => ?_)
      obtain ⟨rfl, rfl⟩ := h_
      try dsimp only [Option.toList, List.cons_append, List.nil_append]
      refine ev_astoreS dX8_file_9 (by decide) rfl ?_
      refine ev_aload dX8_file_11 rfl ?_
      refine ev_ifnonnull 20 dX8_file_13 (by decide) (fun x c13 => ?_) (fun c13 => by cases c13)
      refine ev_aload dX8_file_20 rfl ?_
      refine ev_iload_n dX8_file_22 rfl ?_
      refine ev_callV dX8_file_23 okX5_tell inX5_tell seX5_tell mlX8_209 k1 (by decide) rfl [iV _] rfl rfl (Nat.le_of_ble_eq_true rfl) (Nat.le_of_ble_eq_true rfl) (st) (fun r_ G_ h_ => ?_)
      obtain ⟨rfl, rfl⟩ := h_
      try dsimp only [Option.toList, List.cons_append, List.nil_append]
      refine ev_ireturn dX8_file_26 rfl ?_
      refine ⟨by first | exact hM.1 | exact h_.1 | exact hM1.1 | exact (hq2.2.1 11 (by omega)).1.trans hM1.1 | exact (y2.2.1 11 (by omega)).1.trans hM.1 | exact (q1.2 11 (by omega)).1.trans hM.1 | exact (va_up_ne _ _ (by omega)).trans hM.1 | exact (va_up_ne _ _ (by omega)).trans ((va_up_ne _ _ (by omega)).trans ((va_up_ne _ _ (by omega)).trans hM.1)), ?_⟩
      exact fno
end C98J
