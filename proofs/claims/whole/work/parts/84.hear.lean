/-- the range object q is the range st, within the ints; the rest of the heap as it was -/
def RgI (I0 : Nat → Nat → Int32) (J0 : Nat → Nat → Int64) (q : Nat) (st : SP) (I : Nat → Nat → Int32) (J : Nat → Nat → Int64) : Prop := (I 131 q = bZ st.1 ∧ J 129 q = st.2.1 ∧ J 130 q = st.2.2) ∧ (∀ f i, ¬ (i = q ∧ f = 131) → I f i = I0 f i) ∧ (∀ f i, ¬ (i = q ∧ (f = 129 ∨ f = 130)) → J f i = J0 f i) ∧ ¬ st.2.1 < -2147483648 ∧ ¬ 2147483647 < st.2.2
theorem mxL_eq {a b : Int64} : (if a < b then b else a) = mxL a b := by
  unfold mxL
  by_cases h1 : a < b
  · rw [if_pos h1, if_neg (fun z => absurd (Int64.lt_trans h1 z) (Int64.lt_irrefl))]
  · rw [if_neg h1]
    by_cases h2 : b < a
    · rw [if_pos h2]
    · rw [if_neg h2]
      exact Int64.le_antisymm (Int64.not_lt.mp h2) (Int64.not_lt.mp h1)
theorem mxL_lo {a b : Int64} (h : ¬ b < -2147483648) : ¬ mxL a b < -2147483648 := by
  unfold mxL
  by_cases h2 : b < a
  · rw [if_pos h2]; exact fun z => h (Int64.lt_trans h2 z)
  · rw [if_neg h2]; exact h
theorem mnL_hi {a b : Int64} (h : ¬ 2147483647 < b) : ¬ 2147483647 < mnL a b := by
  unfold mnL
  by_cases h2 : a < b
  · rw [if_pos h2]; exact fun z => h (Int64.lt_trans z h2)
  · rw [if_neg h2]; exact h
theorem RgI.bound {I0 I : Nat → Nat → Int32} {J0 J : Nat → Nat → Int64} {q : Nat} {st : SP} (h : RgI I0 J0 q st I J) {a b a' b' : Int64} (ha : mxL a st.2.1 = mxL a' st.2.1) (hb : mnL b st.2.2 = mnL b' st.2.2) : RgI I0 J0 q (bnd a' b' st) (u2 I 131 q 1) (u2 (u2 J 129 q (if a < J 129 q then J 129 q else a)) 130 q (if b < J 130 q then b else J 130 q)) := by
  obtain ⟨⟨h1, h2, h3⟩, h4, h5, h6, h7⟩ := h
  refine ⟨⟨u2_self, ?_, ?_⟩, fun f i hi => ?_, fun f i hi => ?_, mxL_lo h6, mnL_hi h7⟩
  · rw [u2_ne1 (by decide), u2_self, h2, mxL_eq, ha]; rfl
  · rw [u2_self, h3]; exact hb
  · unfold u2
    rw [if_neg (fun z => hi ⟨z.2, z.1⟩)]
    exact h4 f i hi
  · unfold u2
    rw [if_neg (fun z => hi ⟨z.2, Or.inr z.1⟩), if_neg (fun z => hi ⟨z.2, Or.inl z.1⟩)]
    exact h5 f i hi
theorem ExpR.cst {K : Nat → Nat} {I : Nat → Nat → Int32} {R : Nat → Nat → Option Nat} : ∀ {f i : Nat} {e : EX}, ExpR K I R f i e → ∃ op v, K i = 1 ∧ I 64 i = nI op ∧ op ≤ 12 ∧ I 65 i = v ∧ ((op = 3 ∧ isC e = some v) ∨ (op ≠ 3 ∧ isC e = none))
  | f + 1, i, e, h => by
    obtain ⟨op, v, a, b, h1, h2, h3, h4, h5, h6⟩ := h
    refine ⟨op, v, h2, h3, ?_, h4, ?_⟩
    · rcases h6 with ⟨g1, -⟩ | ⟨g1, -⟩ | ⟨g1, g2, -⟩ <;> omega
    · by_cases h3 : op = 3
      · subst h3
        rcases h6 with ⟨g1, rfl, rfl, -⟩ | ⟨g1, -⟩ | ⟨g1, g2, -⟩
        · exact Or.inl ⟨rfl, by rw [h1]; rfl⟩
        · omega
        · omega
      · refine Or.inr ⟨h3, ?_⟩
        cases hc : isC e with
        | none => rfl
        | some c =>
          have := isC_some hc
          rw [h1] at this
          have z := congrArg List.getLast? this
          rw [List.getLast?_append] at z
          have z := Option.some.inj z
          exact absurd (congrArg Prod.fst z) h3
section C84
variable {X : CX} {d : Nat} {K : Nat → Nat} {I : Nat → Nat → Int32} {J : Nat → Nat → Int64} {R : Nat → Nat → Option Nat} {A : Nat → Nat → Int32} {B : Nat → Nat → Option Nat} {Ln : Nat → Nat} {n sl : Nat}
set_option maxRecDepth 100000 in
set_option maxHeartbeats 4000000 in
theorem hc_64 {q s x y o : Nat} {s1 s2 ie : EX} {st : SP} {I0 : Nat → Nat → Int32} {J0 : Nat → Nat → Int64} (hq : K q = 2) (hs : R 128 q = some s) (hie : ExpR K I R 16 s ie) (h1 : ExpR K I R 16 x s1) (h2 : ExpR K I R 16 y s2) (ho : o = 7 ∨ o = 8) (hR : RgI I0 J0 q st I J) {w4 w5 : Option LV} : Ev X mX2_hear (d + 17) 64 [some (rV (some q)), some (iV (bZ (decide (o = 8)))), some (rV (some x)), some (rV (some y)), w4, w5] [] (K, I, J, R, A, B, Ln, n, sl) (fun r_ G' => r_ = none ∧ ∃ I' J', G' = (K, I', J', R, A, B, Ln, n, sl) ∧ RgI I0 J0 q (cnj2 ie o s1 s2 st) I' J') := by
  obtain ⟨ox, vx, kx, ix, lx, jx, cx⟩ := h1.cst
  have ky := h2.kind
  have ks := hie.kind
  have sc := cs_isConst (X := X) (d := d + 16) (J := J) (R := R) (A := A) (B := B) (Ln := Ln) (n := n) (sl := sl) kx ix lx
  have sa := cs_areSame (X := X) (d := d) (J := J) (A := A) (B := B) (Ln := Ln) (n := n) (sl := sl) h2 hie
  unfold cnj2
  rcases cx with ⟨hx3, hxc⟩ | ⟨hx3, hxc⟩
  · rw [decide_eq_true hx3] at sc
    rw [hxc]
    by_cases he : s2 = ie
    · rw [decide_eq_true he] at sa
      simp only [if_pos he]
      obtain rfl | rfl := ho
      · have hb := hR.bound (a := vx.toInt64 + 1) (b := J 130 q) (a' := vx.toInt64 + 1) (b' := 2147483647) rfl (by rw [hR.1.2.2]; unfold mnL; rw [if_neg Int64.lt_irrefl, if_neg hR.2.2.2.2])
        simp only [show ¬ (7 : Nat) = 8 by decide, if_false]
        refine ev_aload_n dX2_hear_64 rfl ?_
        refine ev_callV dX2_hear_65 okX1_isConst inX1_isConst seX1_isConst mlX2_46 kx (by decide) rfl [] rfl rfl (Nat.le_of_ble_eq_true rfl) (Nat.le_of_ble_eq_true rfl) (sc) (fun r_ G_ h_ => ?_)
        obtain ⟨rfl, rfl⟩ := h_
        try dsimp only [Option.toList, List.cons_append, List.nil_append]
        refine ev_if_eq 119 dX2_hear_68 (by decide) (fun c68 => absurd c68 (by decide)) (fun c68 => ?_)
        refine ev_aload_n dX2_hear_71 rfl ?_
        refine ev_aload_n dX2_hear_72 rfl ?_
        refine ev_getR dX2_hear_73 fX2_22 hq hs ?_
        refine ev_callS dX2_hear_76 okX1_areSame stX1_areSame mlX2_50 [rV _, rV _] rfl rfl (Nat.le_of_ble_eq_true rfl) (Nat.le_of_ble_eq_true rfl) (sa) (fun r_ G_ h_ => ?_)
        obtain ⟨rfl, rfl⟩ := h_
        try dsimp only [Option.toList, List.cons_append, List.nil_append]
        refine ev_if_eq 119 dX2_hear_79 (by decide) (fun c79 => absurd c79 (by decide)) (fun c79 => ?_)
        refine ev_aload_n dX2_hear_82 rfl ?_
        refine ev_getIv dX2_hear_83 fX2_54 kx jx ?_
        refine ev_i2l dX2_hear_86 ?_
        refine ev_lstore _ dX2_hear_87 (by decide) rfl ?_
        refine ev_aload_n dX2_hear_89 rfl ?_
        refine ev_iload_n dX2_hear_90 rfl ?_
        refine ev_if_eq 99 dX2_hear_91 (by decide) (fun c91 => ?_) (fun c91 => absurd c91 (fun z => z rfl))
        refine ev_lload dX2_hear_99 rfl ?_
        refine ev_lconst 1 dX2_hear_101 (by decide) ?_
        refine ev_ladd dX2_hear_102 ?_
        refine ev_iload_n dX2_hear_103 rfl ?_
        refine ev_if_eq 112 dX2_hear_104 (by decide) (fun c104 => ?_) (fun c104 => absurd c104 (fun z => z rfl))
        refine ev_aload_n dX2_hear_112 rfl ?_
        refine ev_getJ dX2_hear_113 fX2_19 hq ?_
        refine ev_callV dX2_hear_116 okX2_narrow inX2_narrow seX2_narrow mlX2_57 hq (by decide) rfl [lV _, lV _] rfl rfl (Nat.le_of_ble_eq_true rfl) (Nat.le_of_ble_eq_true rfl) (cs_narrow hq) (fun r_ G_ h_ => ?_)
        obtain ⟨rfl, rfl⟩ := h_
        try dsimp only [Option.toList, List.cons_append, List.nil_append]
        refine ev_return dX2_hear_119 rfl ?_
        exact ⟨rfl, _, _, rfl, hb⟩
      · have hb := hR.bound (a := vx.toInt64) (b := vx.toInt64) (a' := vx.toInt64) (b' := vx.toInt64) rfl rfl
        simp only [if_true]
        refine ev_aload_n dX2_hear_64 rfl ?_
        refine ev_callV dX2_hear_65 okX1_isConst inX1_isConst seX1_isConst mlX2_46 kx (by decide) rfl [] rfl rfl (Nat.le_of_ble_eq_true rfl) (Nat.le_of_ble_eq_true rfl) (sc) (fun r_ G_ h_ => ?_)
        obtain ⟨rfl, rfl⟩ := h_
        try dsimp only [Option.toList, List.cons_append, List.nil_append]
        refine ev_if_eq 119 dX2_hear_68 (by decide) (fun c68 => absurd c68 (by decide)) (fun c68 => ?_)
        refine ev_aload_n dX2_hear_71 rfl ?_
        refine ev_aload_n dX2_hear_72 rfl ?_
        refine ev_getR dX2_hear_73 fX2_22 hq hs ?_
        refine ev_callS dX2_hear_76 okX1_areSame stX1_areSame mlX2_50 [rV _, rV _] rfl rfl (Nat.le_of_ble_eq_true rfl) (Nat.le_of_ble_eq_true rfl) (sa) (fun r_ G_ h_ => ?_)
        obtain ⟨rfl, rfl⟩ := h_
        try dsimp only [Option.toList, List.cons_append, List.nil_append]
        refine ev_if_eq 119 dX2_hear_79 (by decide) (fun c79 => absurd c79 (by decide)) (fun c79 => ?_)
        refine ev_aload_n dX2_hear_82 rfl ?_
        refine ev_getIv dX2_hear_83 fX2_54 kx jx ?_
        refine ev_i2l dX2_hear_86 ?_
        refine ev_lstore _ dX2_hear_87 (by decide) rfl ?_
        refine ev_aload_n dX2_hear_89 rfl ?_
        refine ev_iload_n dX2_hear_90 rfl ?_
        refine ev_if_eq 99 dX2_hear_91 (by decide) (fun c91 => absurd c91 (by decide)) (fun c91 => ?_)
        refine ev_lload dX2_hear_94 rfl ?_
        refine ev_goto 103 dX2_hear_96 (by decide) ?_
        refine ev_iload_n dX2_hear_103 rfl ?_
        refine ev_if_eq 112 dX2_hear_104 (by decide) (fun c104 => absurd c104 (by decide)) (fun c104 => ?_)
        refine ev_lload dX2_hear_107 rfl ?_
        refine ev_goto 116 dX2_hear_109 (by decide) ?_
        refine ev_callV dX2_hear_116 okX2_narrow inX2_narrow seX2_narrow mlX2_57 hq (by decide) rfl [lV _, lV _] rfl rfl (Nat.le_of_ble_eq_true rfl) (Nat.le_of_ble_eq_true rfl) (cs_narrow hq) (fun r_ G_ h_ => ?_)
        obtain ⟨rfl, rfl⟩ := h_
        try dsimp only [Option.toList, List.cons_append, List.nil_append]
        refine ev_return dX2_hear_119 rfl ?_
        exact ⟨rfl, _, _, rfl, hb⟩
    · rw [decide_eq_false he] at sa
      simp only [if_neg he]
      refine ev_aload_n dX2_hear_64 rfl ?_
      refine ev_callV dX2_hear_65 okX1_isConst inX1_isConst seX1_isConst mlX2_46 kx (by decide) rfl [] rfl rfl (Nat.le_of_ble_eq_true rfl) (Nat.le_of_ble_eq_true rfl) (sc) (fun r_ G_ h_ => ?_)
      obtain ⟨rfl, rfl⟩ := h_
      try dsimp only [Option.toList, List.cons_append, List.nil_append]
      refine ev_if_eq 119 dX2_hear_68 (by decide) (fun c68 => absurd c68 (by decide)) (fun c68 => ?_)
      refine ev_aload_n dX2_hear_71 rfl ?_
      refine ev_aload_n dX2_hear_72 rfl ?_
      refine ev_getR dX2_hear_73 fX2_22 hq hs ?_
      refine ev_callS dX2_hear_76 okX1_areSame stX1_areSame mlX2_50 [rV _, rV _] rfl rfl (Nat.le_of_ble_eq_true rfl) (Nat.le_of_ble_eq_true rfl) (sa) (fun r_ G_ h_ => ?_)
      obtain ⟨rfl, rfl⟩ := h_
      try dsimp only [Option.toList, List.cons_append, List.nil_append]
      refine ev_if_eq 119 dX2_hear_79 (by decide) (fun c79 => ?_) (fun c79 => absurd c79 (fun z => z rfl))
      refine ev_return dX2_hear_119 rfl ?_
      exact ⟨rfl, _, _, rfl, hR⟩
  · rw [decide_eq_false hx3] at sc
    rw [hxc]
    refine ev_aload_n dX2_hear_64 rfl ?_
    refine ev_callV dX2_hear_65 okX1_isConst inX1_isConst seX1_isConst mlX2_46 kx (by decide) rfl [] rfl rfl (Nat.le_of_ble_eq_true rfl) (Nat.le_of_ble_eq_true rfl) (sc) (fun r_ G_ h_ => ?_)
    obtain ⟨rfl, rfl⟩ := h_
    try dsimp only [Option.toList, List.cons_append, List.nil_append]
    refine ev_if_eq 119 dX2_hear_68 (by decide) (fun c68 => ?_) (fun c68 => absurd c68 (fun z => z rfl))
    refine ev_return dX2_hear_119 rfl ?_
    exact ⟨rfl, _, _, rfl, hR⟩
theorem RgI.expr {q : Nat} {st : SP} {I0 : Nat → Nat → Int32} {J0 : Nat → Nat → Int64} (hq : K q = 2) (hR : RgI I0 J0 q st I J) {f i : Nat} {e : EX} : ExpR K I R f i e ↔ ExpR K I0 R f i e := by
  have hz : ∀ i, K i = 1 → ∀ f, I f i = I0 f i := fun i hi f => hR.2.1 f i (fun z => by rw [z.1, hq] at hi; omega)
  exact ⟨fun h => h.congr (fun i hi => ⟨hi, fun f => (hz i hi f).symm, fun _ => rfl⟩), fun h => h.congr (fun i hi => ⟨hi, hz i hi, fun _ => rfl⟩)⟩
theorem cs_hearCmp {q s x y o : Nat} {s1 s2 ie : EX} {st : SP} {I0 : Nat → Nat → Int32} {J0 : Nat → Nat → Int64} (hq : K q = 2) (hs : R 128 q = some s) (hie : ExpR K I R 16 s ie) (h1 : ExpR K I R 16 x s1) (h2 : ExpR K I R 16 y s2) (ho : o = 7 ∨ o = 8) (hR : RgI I0 J0 q st I J) : EvM X mX2_hear (d + 17) [rV (some q), iV (bZ (decide (o = 8))), rV (some x), rV (some y)] (K, I, J, R, A, B, Ln, n, sl) (fun r_ G' => r_ = none ∧ ∃ I' J', G' = (K, I', J', R, A, B, Ln, n, sl) ∧ RgI I0 J0 q (cnj2 ie o s1 s2 (cnj1 ie o s1 s2 st)) I' J') := by
  obtain ⟨oy, vy, ky, iy, ly, jy, cy⟩ := h2.cst
  have kx := h1.kind
  have ks := hie.kind
  have sc := cs_isConst (X := X) (d := d + 16) (J := J) (R := R) (A := A) (B := B) (Ln := Ln) (n := n) (sl := sl) ky iy ly
  have sa := cs_areSame (X := X) (d := d) (J := J) (A := A) (B := B) (Ln := Ln) (n := n) (sl := sl) h1 hie
  have kont : ∀ (I' : Nat → Nat → Int32) (J' : Nat → Nat → Int64) (w4 w5 : Option LV), RgI I0 J0 q (cnj1 ie o s1 s2 st) I' J' → Ev X mX2_hear (d + 17) 64 [some (rV (some q)), some (iV (bZ (decide (o = 8)))), some (rV (some x)), some (rV (some y)), w4, w5] [] (K, I', J', R, A, B, Ln, n, sl) (fun r_ G' => r_ = none ∧ ∃ I' J', G' = (K, I', J', R, A, B, Ln, n, sl) ∧ RgI I0 J0 q (cnj2 ie o s1 s2 (cnj1 ie o s1 s2 st)) I' J') := by
    intro I' J' w4 w5 h'
    have ex : ∀ {f i : Nat} {e : EX}, ExpR K I R f i e → ExpR K I' R f i e := fun h => (h'.expr hq).mpr ((hR.expr hq).mp h)
    exact hc_64 hq hs (ex hie) (ex h1) (ex h2) ho h'
  show Ev X mX2_hear (d + 17) 0 [some (rV (some q)), some (iV (bZ (decide (o = 8)))), some (rV (some x)), some (rV (some y)), none, none] [] (K, I, J, R, A, B, Ln, n, sl) _
  rcases cy with ⟨hy3, hyc⟩ | ⟨hy3, hyc⟩
  · rw [decide_eq_true hy3] at sc
    by_cases he : s1 = ie
    · rw [decide_eq_true he] at sa
      obtain rfl | rfl := ho
      · have hb := hR.bound (a := J 129 q) (b := vy.toInt64 - 1) (a' := -2147483648) (b' := vy.toInt64 - 1) (by rw [hR.1.2.1]; unfold mxL; rw [if_neg Int64.lt_irrefl, if_neg hR.2.2.2.1]) rfl
        have e1 : cnj1 ie 7 s1 s2 st = bnd (-2147483648) (vy.toInt64 - 1) st := by unfold cnj1; rw [hyc]; simp only [if_pos he]; rfl
        rw [← e1] at hb
        refine ev_aload_n dX2_hear_0 rfl ?_
        refine ev_ifnull 8 dX2_hear_1 (by decide) (fun c1 => by cases c1) (fun x c1 => ?_)
        refine ev_aload_n dX2_hear_4 rfl ?_
        refine ev_ifnonnull 9 dX2_hear_5 (by decide) (fun x c5 => ?_) (fun c5 => by cases c5)
        refine ev_aload_n dX2_hear_9 rfl ?_
        refine ev_callV dX2_hear_10 okX1_isConst inX1_isConst seX1_isConst mlX2_46 ky (by decide) rfl [] rfl rfl (Nat.le_of_ble_eq_true rfl) (Nat.le_of_ble_eq_true rfl) (sc) (fun r_ G_ h_ => ?_)
        obtain ⟨rfl, rfl⟩ := h_
        try dsimp only [Option.toList, List.cons_append, List.nil_append]
        refine ev_if_eq 64 dX2_hear_13 (by decide) (fun c13 => absurd c13 (by decide)) (fun c13 => ?_)
        refine ev_aload_n dX2_hear_16 rfl ?_
        refine ev_aload_n dX2_hear_17 rfl ?_
        refine ev_getR dX2_hear_18 fX2_22 hq hs ?_
        refine ev_callS dX2_hear_21 okX1_areSame stX1_areSame mlX2_50 [rV _, rV _] rfl rfl (Nat.le_of_ble_eq_true rfl) (Nat.le_of_ble_eq_true rfl) (sa) (fun r_ G_ h_ => ?_)
        obtain ⟨rfl, rfl⟩ := h_
        try dsimp only [Option.toList, List.cons_append, List.nil_append]
        refine ev_if_eq 64 dX2_hear_24 (by decide) (fun c24 => absurd c24 (by decide)) (fun c24 => ?_)
        refine ev_aload_n dX2_hear_27 rfl ?_
        refine ev_getIv dX2_hear_28 fX2_54 ky jy ?_
        refine ev_i2l dX2_hear_31 ?_
        refine ev_lstore _ dX2_hear_32 (by decide) rfl ?_
        refine ev_aload_n dX2_hear_34 rfl ?_
        refine ev_iload_n dX2_hear_35 rfl ?_
        refine ev_if_eq 44 dX2_hear_36 (by decide) (fun c36 => ?_) (fun c36 => absurd c36 (fun z => z rfl))
        refine ev_aload_n dX2_hear_44 rfl ?_
        refine ev_getJ dX2_hear_45 fX2_11 hq ?_
        refine ev_iload_n dX2_hear_48 rfl ?_
        refine ev_if_eq 57 dX2_hear_49 (by decide) (fun c49 => ?_) (fun c49 => absurd c49 (fun z => z rfl))
        refine ev_lload dX2_hear_57 rfl ?_
        refine ev_lconst 1 dX2_hear_59 (by decide) ?_
        refine ev_lsub dX2_hear_60 ?_
        refine ev_callV dX2_hear_61 okX2_narrow inX2_narrow seX2_narrow mlX2_57 hq (by decide) rfl [lV _, lV _] rfl rfl (Nat.le_of_ble_eq_true rfl) (Nat.le_of_ble_eq_true rfl) (cs_narrow hq) (fun r_ G_ h_ => ?_)
        obtain ⟨rfl, rfl⟩ := h_
        try dsimp only [Option.toList, List.cons_append, List.nil_append]
        exact kont _ _ _ _ hb
      · have hb := hR.bound (a := vy.toInt64) (b := vy.toInt64) (a' := vy.toInt64) (b' := vy.toInt64) rfl rfl
        have e1 : cnj1 ie 8 s1 s2 st = bnd vy.toInt64 vy.toInt64 st := by unfold cnj1; rw [hyc]; simp only [if_pos he]; rfl
        rw [← e1] at hb
        refine ev_aload_n dX2_hear_0 rfl ?_
        refine ev_ifnull 8 dX2_hear_1 (by decide) (fun c1 => by cases c1) (fun x c1 => ?_)
        refine ev_aload_n dX2_hear_4 rfl ?_
        refine ev_ifnonnull 9 dX2_hear_5 (by decide) (fun x c5 => ?_) (fun c5 => by cases c5)
        refine ev_aload_n dX2_hear_9 rfl ?_
        refine ev_callV dX2_hear_10 okX1_isConst inX1_isConst seX1_isConst mlX2_46 ky (by decide) rfl [] rfl rfl (Nat.le_of_ble_eq_true rfl) (Nat.le_of_ble_eq_true rfl) (sc) (fun r_ G_ h_ => ?_)
        obtain ⟨rfl, rfl⟩ := h_
        try dsimp only [Option.toList, List.cons_append, List.nil_append]
        refine ev_if_eq 64 dX2_hear_13 (by decide) (fun c13 => absurd c13 (by decide)) (fun c13 => ?_)
        refine ev_aload_n dX2_hear_16 rfl ?_
        refine ev_aload_n dX2_hear_17 rfl ?_
        refine ev_getR dX2_hear_18 fX2_22 hq hs ?_
        refine ev_callS dX2_hear_21 okX1_areSame stX1_areSame mlX2_50 [rV _, rV _] rfl rfl (Nat.le_of_ble_eq_true rfl) (Nat.le_of_ble_eq_true rfl) (sa) (fun r_ G_ h_ => ?_)
        obtain ⟨rfl, rfl⟩ := h_
        try dsimp only [Option.toList, List.cons_append, List.nil_append]
        refine ev_if_eq 64 dX2_hear_24 (by decide) (fun c24 => absurd c24 (by decide)) (fun c24 => ?_)
        refine ev_aload_n dX2_hear_27 rfl ?_
        refine ev_getIv dX2_hear_28 fX2_54 ky jy ?_
        refine ev_i2l dX2_hear_31 ?_
        refine ev_lstore _ dX2_hear_32 (by decide) rfl ?_
        refine ev_aload_n dX2_hear_34 rfl ?_
        refine ev_iload_n dX2_hear_35 rfl ?_
        refine ev_if_eq 44 dX2_hear_36 (by decide) (fun c36 => absurd c36 (by decide)) (fun c36 => ?_)
        refine ev_lload dX2_hear_39 rfl ?_
        refine ev_goto 48 dX2_hear_41 (by decide) ?_
        refine ev_iload_n dX2_hear_48 rfl ?_
        refine ev_if_eq 57 dX2_hear_49 (by decide) (fun c49 => absurd c49 (by decide)) (fun c49 => ?_)
        refine ev_lload dX2_hear_52 rfl ?_
        refine ev_goto 61 dX2_hear_54 (by decide) ?_
        refine ev_callV dX2_hear_61 okX2_narrow inX2_narrow seX2_narrow mlX2_57 hq (by decide) rfl [lV _, lV _] rfl rfl (Nat.le_of_ble_eq_true rfl) (Nat.le_of_ble_eq_true rfl) (cs_narrow hq) (fun r_ G_ h_ => ?_)
        obtain ⟨rfl, rfl⟩ := h_
        try dsimp only [Option.toList, List.cons_append, List.nil_append]
        exact kont _ _ _ _ hb
    · rw [decide_eq_false he] at sa
      have e1 : cnj1 ie o s1 s2 st = st := by unfold cnj1; rw [hyc]; simp only [if_neg he]
      refine ev_aload_n dX2_hear_0 rfl ?_
      refine ev_ifnull 8 dX2_hear_1 (by decide) (fun c1 => by cases c1) (fun x c1 => ?_)
      refine ev_aload_n dX2_hear_4 rfl ?_
      refine ev_ifnonnull 9 dX2_hear_5 (by decide) (fun x c5 => ?_) (fun c5 => by cases c5)
      refine ev_aload_n dX2_hear_9 rfl ?_
      refine ev_callV dX2_hear_10 okX1_isConst inX1_isConst seX1_isConst mlX2_46 ky (by decide) rfl [] rfl rfl (Nat.le_of_ble_eq_true rfl) (Nat.le_of_ble_eq_true rfl) (sc) (fun r_ G_ h_ => ?_)
      obtain ⟨rfl, rfl⟩ := h_
      try dsimp only [Option.toList, List.cons_append, List.nil_append]
      refine ev_if_eq 64 dX2_hear_13 (by decide) (fun c13 => absurd c13 (by decide)) (fun c13 => ?_)
      refine ev_aload_n dX2_hear_16 rfl ?_
      refine ev_aload_n dX2_hear_17 rfl ?_
      refine ev_getR dX2_hear_18 fX2_22 hq hs ?_
      refine ev_callS dX2_hear_21 okX1_areSame stX1_areSame mlX2_50 [rV _, rV _] rfl rfl (Nat.le_of_ble_eq_true rfl) (Nat.le_of_ble_eq_true rfl) (sa) (fun r_ G_ h_ => ?_)
      obtain ⟨rfl, rfl⟩ := h_
      try dsimp only [Option.toList, List.cons_append, List.nil_append]
      refine ev_if_eq 64 dX2_hear_24 (by decide) (fun c24 => ?_) (fun c24 => absurd c24 (fun z => z rfl))
      exact kont _ _ _ _ (by rw [e1]; exact hR)
  · rw [decide_eq_false hy3] at sc
    have e1 : cnj1 ie o s1 s2 st = st := by unfold cnj1; rw [hyc]
    refine ev_aload_n dX2_hear_0 rfl ?_
    refine ev_ifnull 8 dX2_hear_1 (by decide) (fun c1 => by cases c1) (fun x c1 => ?_)
    refine ev_aload_n dX2_hear_4 rfl ?_
    refine ev_ifnonnull 9 dX2_hear_5 (by decide) (fun x c5 => ?_) (fun c5 => by cases c5)
    refine ev_aload_n dX2_hear_9 rfl ?_
    refine ev_callV dX2_hear_10 okX1_isConst inX1_isConst seX1_isConst mlX2_46 ky (by decide) rfl [] rfl rfl (Nat.le_of_ble_eq_true rfl) (Nat.le_of_ble_eq_true rfl) (sc) (fun r_ G_ h_ => ?_)
    obtain ⟨rfl, rfl⟩ := h_
    try dsimp only [Option.toList, List.cons_append, List.nil_append]
    refine ev_if_eq 64 dX2_hear_13 (by decide) (fun c13 => ?_) (fun c13 => absurd c13 (fun z => z rfl))
    exact kont _ _ _ _ (by rw [e1]; exact hR)
set_option maxRecDepth 100000 in
set_option maxHeartbeats 4000000 in
theorem cs_hear {q s : Nat} {ie : EX} {I0 : Nat → Nat → Int32} {J0 : Nat → Nat → Int64} (hq : K q = 2) (hs : R 128 q = some s) : ∀ {f i g : Nat} {e : EX} {st st' : SP} {I : Nat → Nat → Int32} {J : Nat → Nat → Int64}, f ≤ 16 → ExpR K I R 16 s ie → ExpR K I R f i e → HearR ie g e st st' → RgI I0 J0 q st I J → EvM X mX2_tellConjuncts (d + 18 + f) [rV (some i), rV (some q)] (K, I, J, R, A, B, Ln, n, sl) (fun r_ G' => r_ = none ∧ ∃ I' J', G' = (K, I', J', R, A, B, Ln, n, sl) ∧ RgI I0 J0 q st' I' J') := by
  intro f
  induction f with
  | zero => intro i g e st st' I J _ _ h; exact h.elim
  | succ f ih =>
    intro i g e st st' I J hf hie h hH hR
    have hcmp := fun {x y o : Nat} {s1 s2 : EX} (h1 : ExpR K I R 16 x s1) (h2 : ExpR K I R 16 y s2) (ho : o = 7 ∨ o = 8) => cs_hearCmp (X := X) (d := d + 1 + f) (A := A) (B := B) (Ln := Ln) (n := n) (sl := sl) hq hs hie h1 h2 ho hR
    rw [show d + 1 + f + 17 = d + 18 + f by omega] at hcmp
    obtain ⟨op, v, a, b, k1, k2, k3, k4, k5, k6⟩ := h
    show Ev X mX2_tellConjuncts (d + 18 + (f + 1)) 0 [some (rV (some i)), some (rV (some q))] [] (K, I, J, R, A, B, Ln, n, sl) _
    obtain ⟨g, rfl⟩ : ∃ k, g = k + 1 := ⟨g - 1, by cases g with | zero => exact hH.elim | succ k => rfl⟩
    have hlast : ∀ {p : EX} {o' : Nat} {v' : Int32}, e = p ++ [(o', v')] → a ++ b = p ∧ op = o' := fun {p o' v'} z => by
      rw [k1] at z
      have z1 := List.append_inj' z rfl
      cases z1.2
      exact ⟨z1.1, rfl⟩
    by_cases h9 : op = 9
    · subst h9
      rcases k6 with ⟨g1, -⟩ | ⟨g1, -⟩ | ⟨-, -, x, y, g3, g4, g5, g6, g7, g8⟩
      · omega
      · omega
      · obtain ⟨s1, m1, m2⟩ : ∃ s1, HearR ie g a st s1 ∧ HearR ie g b s1 st' := by
          rcases hH with ⟨c1, c2, w, e1, t1, t2, s1, m1, m2⟩ | ⟨c1, c2, o', w, ho, e1, t1, t2, -⟩ | ⟨p, o', w, e1, ho, -⟩
          · obtain ⟨z1, -⟩ := hlast e1
            obtain ⟨z2, z3⟩ := tree_uniq g6.tree t2 z1
            subst z2 z3
            exact ⟨s1, m1, m2⟩
          · have := (hlast e1).2; omega
          · have := (hlast e1).2; omega
        have ihA := ih (by omega) hie g5 m1 hR
        have ihB := fun {I' : Nat → Nat → Int32} {J' : Nat → Nat → Int64} (h' : RgI I0 J0 q s1 I' J') => ih (I := I') (J := J') (by omega) ((h'.expr hq).mpr ((hR.expr hq).mp hie)) ((h'.expr hq).mpr ((hR.expr hq).mp g6)) m2 h'
        refine ev_aload_n dX2_tellConjuncts_0 rfl ?_
        refine ev_ifnonnull 5 dX2_tellConjuncts_1 (by decide) (fun x c1 => ?_) (fun c1 => by cases c1)
        refine ev_aload_n dX2_tellConjuncts_5 rfl ?_
        refine ev_getIv dX2_tellConjuncts_6 fX2_26 k2 k3 ?_
        refine ev_bipushN 9 dX2_tellConjuncts_9 (by decide) ?_
        refine ev_icmp_neN 33 dX2_tellConjuncts_11 (by decide) (by omega) (by omega) (fun c11 => absurd c11 (fun z => z rfl)) (fun c11 => ?_)
        refine ev_aload_n dX2_tellConjuncts_14 rfl ?_
        refine ev_getR dX2_tellConjuncts_15 fX2_32 k2 g3 ?_
        refine ev_aload_n dX2_tellConjuncts_18 rfl ?_
        refine ev_callS dX2_tellConjuncts_19 okX2_tellConjuncts stX2_tellConjuncts mlX2_35 [rV _, rV _] rfl rfl (Nat.le_of_ble_eq_true rfl) (Nat.le_of_ble_eq_true rfl) (ihA) (fun r_ G_ h_ => ?_)
        obtain ⟨rfl, I', J', rfl, r1⟩ := h_
        try dsimp only [Option.toList, List.cons_append, List.nil_append]
        refine ev_aload_n dX2_tellConjuncts_22 rfl ?_
        refine ev_getR dX2_tellConjuncts_23 fX2_39 k2 g4 ?_
        refine ev_aload_n dX2_tellConjuncts_26 rfl ?_
        refine ev_callS dX2_tellConjuncts_27 okX2_tellConjuncts stX2_tellConjuncts mlX2_35 [rV _, rV _] rfl rfl (Nat.le_of_ble_eq_true rfl) (Nat.le_of_ble_eq_true rfl) (ihB r1) (fun r_ G_ h_ => ?_)
        obtain ⟨rfl, I2, J2, rfl, r2⟩ := h_
        try dsimp only [Option.toList, List.cons_append, List.nil_append]
        refine ev_goto 77 dX2_tellConjuncts_30 (by decide) ?_
        refine ev_return dX2_tellConjuncts_77 rfl ?_
        exact ⟨rfl, _, _, rfl, r2⟩
    · have h12 : op ≤ 12 := by rcases k6 with ⟨g1, -⟩ | ⟨g1, -⟩ | ⟨g1, g2, -⟩ <;> omega
      by_cases h78 : op = 7 ∨ op = 8
      · rcases k6 with ⟨g1, -⟩ | ⟨g1, -⟩ | ⟨-, -, x, y, g3, g4, g5, g6, g7, g8⟩
        · omega
        · omega
        · have est : st' = cnj2 ie op a b (cnj1 ie op a b st) := by
            rcases hH with ⟨c1, c2, w, e1, t1, t2, s1, m1, m2⟩ | ⟨c1, c2, o', w, ho, e1, t1, t2, m⟩ | ⟨p, o', w, e1, ho, -⟩
            · have := (hlast e1).2; omega
            · obtain ⟨z1, z0⟩ := hlast e1
              obtain ⟨z2, z3⟩ := tree_uniq g6.tree t2 z1
              subst z2 z3 z0
              exact m
            · have := (hlast e1).2; omega
          have sc := hcmp (g5.le (by omega)) (g6.le (by omega)) h78
          rw [← est] at sc
          obtain rfl | rfl := h78
          · skip
            refine ev_aload_n dX2_tellConjuncts_0 rfl ?_
            refine ev_ifnonnull 5 dX2_tellConjuncts_1 (by decide) (fun x c1 => ?_) (fun c1 => by cases c1)
            refine ev_aload_n dX2_tellConjuncts_5 rfl ?_
            refine ev_getIv dX2_tellConjuncts_6 fX2_26 k2 k3 ?_
            refine ev_bipushN 9 dX2_tellConjuncts_9 (by decide) ?_
            refine ev_icmp_neN 33 dX2_tellConjuncts_11 (by decide) (by omega) (by omega) (fun c11 => ?_) (fun c11 => absurd c11 (by decide))
            refine ev_aload_n dX2_tellConjuncts_33 rfl ?_
            refine ev_getIv dX2_tellConjuncts_34 fX2_26 k2 k3 ?_
            refine ev_bipushN 7 dX2_tellConjuncts_37 (by decide) ?_
            refine ev_icmp_eqN 51 dX2_tellConjuncts_39 (by decide) (by omega) (by omega) (fun c39 => ?_) (fun c39 => absurd rfl c39)
            refine ev_aload_n dX2_tellConjuncts_51 rfl ?_
            refine ev_aload_n dX2_tellConjuncts_52 rfl ?_
            refine ev_getIv dX2_tellConjuncts_53 fX2_26 k2 k3 ?_
            refine ev_bipushN 8 dX2_tellConjuncts_56 (by decide) ?_
            refine ev_icmp_neN 65 dX2_tellConjuncts_58 (by decide) (by omega) (by omega) (fun c58 => ?_) (fun c58 => absurd c58 (by decide))
            refine ev_iconstN 0 dX2_tellConjuncts_65 (by decide) ?_
            refine ev_aload_n dX2_tellConjuncts_66 rfl ?_
            refine ev_getR dX2_tellConjuncts_67 fX2_32 k2 g3 ?_
            refine ev_aload_n dX2_tellConjuncts_70 rfl ?_
            refine ev_getR dX2_tellConjuncts_71 fX2_39 k2 g4 ?_
            refine ev_callV dX2_tellConjuncts_74 okX2_hear inX2_hear seX2_hear mlX2_42 hq (by decide) rfl [iV _, rV _, rV _] rfl rfl (Nat.le_of_ble_eq_true rfl) (Nat.le_of_ble_eq_true rfl) (sc) (fun r_ G_ h_ => ?_)
            obtain ⟨rfl, I', J', rfl, r1⟩ := h_
            try dsimp only [Option.toList, List.cons_append, List.nil_append]
            refine ev_return dX2_tellConjuncts_77 rfl ?_
            exact ⟨rfl, _, _, rfl, r1⟩
          · skip
            refine ev_aload_n dX2_tellConjuncts_0 rfl ?_
            refine ev_ifnonnull 5 dX2_tellConjuncts_1 (by decide) (fun x c1 => ?_) (fun c1 => by cases c1)
            refine ev_aload_n dX2_tellConjuncts_5 rfl ?_
            refine ev_getIv dX2_tellConjuncts_6 fX2_26 k2 k3 ?_
            refine ev_bipushN 9 dX2_tellConjuncts_9 (by decide) ?_
            refine ev_icmp_neN 33 dX2_tellConjuncts_11 (by decide) (by omega) (by omega) (fun c11 => ?_) (fun c11 => absurd c11 (by decide))
            refine ev_aload_n dX2_tellConjuncts_33 rfl ?_
            refine ev_getIv dX2_tellConjuncts_34 fX2_26 k2 k3 ?_
            refine ev_bipushN 7 dX2_tellConjuncts_37 (by decide) ?_
            refine ev_icmp_eqN 51 dX2_tellConjuncts_39 (by decide) (by omega) (by omega) (fun c39 => absurd c39 (by decide)) (fun c39 => ?_)
            refine ev_aload_n dX2_tellConjuncts_42 rfl ?_
            refine ev_getIv dX2_tellConjuncts_43 fX2_26 k2 k3 ?_
            refine ev_bipushN 8 dX2_tellConjuncts_46 (by decide) ?_
            refine ev_icmp_neN 77 dX2_tellConjuncts_48 (by decide) (by omega) (by omega) (fun c48 => absurd c48 (fun z => z rfl)) (fun c48 => ?_)
            refine ev_aload_n dX2_tellConjuncts_51 rfl ?_
            refine ev_aload_n dX2_tellConjuncts_52 rfl ?_
            refine ev_getIv dX2_tellConjuncts_53 fX2_26 k2 k3 ?_
            refine ev_bipushN 8 dX2_tellConjuncts_56 (by decide) ?_
            refine ev_icmp_neN 65 dX2_tellConjuncts_58 (by decide) (by omega) (by omega) (fun c58 => absurd c58 (fun z => z rfl)) (fun c58 => ?_)
            refine ev_iconstN 1 dX2_tellConjuncts_61 (by decide) ?_
            refine ev_goto 66 dX2_tellConjuncts_62 (by decide) ?_
            refine ev_aload_n dX2_tellConjuncts_66 rfl ?_
            refine ev_getR dX2_tellConjuncts_67 fX2_32 k2 g3 ?_
            refine ev_aload_n dX2_tellConjuncts_70 rfl ?_
            refine ev_getR dX2_tellConjuncts_71 fX2_39 k2 g4 ?_
            refine ev_callV dX2_tellConjuncts_74 okX2_hear inX2_hear seX2_hear mlX2_42 hq (by decide) rfl [iV _, rV _, rV _] rfl rfl (Nat.le_of_ble_eq_true rfl) (Nat.le_of_ble_eq_true rfl) (sc) (fun r_ G_ h_ => ?_)
            obtain ⟨rfl, I', J', rfl, r1⟩ := h_
            try dsimp only [Option.toList, List.cons_append, List.nil_append]
            refine ev_return dX2_tellConjuncts_77 rfl ?_
            exact ⟨rfl, _, _, rfl, r1⟩
      · have est : st' = st := by
          rcases hH with ⟨c1, c2, w, e1, t1, t2, s1, m1, m2⟩ | ⟨c1, c2, o', w, ho, e1, t1, t2, m⟩ | ⟨p, o', w, e1, ho, m⟩
          · have := (hlast e1).2; omega
          · have := (hlast e1).2; omega
          · exact m
        subst est
        refine ev_aload_n dX2_tellConjuncts_0 rfl ?_
        refine ev_ifnonnull 5 dX2_tellConjuncts_1 (by decide) (fun x c1 => ?_) (fun c1 => by cases c1)
        refine ev_aload_n dX2_tellConjuncts_5 rfl ?_
        refine ev_getIv dX2_tellConjuncts_6 fX2_26 k2 k3 ?_
        refine ev_bipushN 9 dX2_tellConjuncts_9 (by decide) ?_
        refine ev_icmp_neN 33 dX2_tellConjuncts_11 (by decide) (by omega) (by omega) (fun c11 => ?_) (fun c11 => absurd c11 h9)
        refine ev_aload_n dX2_tellConjuncts_33 rfl ?_
        refine ev_getIv dX2_tellConjuncts_34 fX2_26 k2 k3 ?_
        refine ev_bipushN 7 dX2_tellConjuncts_37 (by decide) ?_
        refine ev_icmp_eqN 51 dX2_tellConjuncts_39 (by decide) (by omega) (by omega) (fun c39 => absurd c39 (by omega)) (fun c39 => ?_)
        refine ev_aload_n dX2_tellConjuncts_42 rfl ?_
        refine ev_getIv dX2_tellConjuncts_43 fX2_26 k2 k3 ?_
        refine ev_bipushN 8 dX2_tellConjuncts_46 (by decide) ?_
        refine ev_icmp_neN 77 dX2_tellConjuncts_48 (by decide) (by omega) (by omega) (fun c48 => ?_) (fun c48 => absurd c48 (by omega))
        refine ev_return dX2_tellConjuncts_77 rfl ?_
        exact ⟨rfl, _, _, rfl, hR⟩
end C84
