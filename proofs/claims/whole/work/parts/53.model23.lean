section M23
variable {X : CX} {d : Nat} {K : Nat → Nat} {I : Nat → Nat → Int32} {J : Nat → Nat → Int64} {R : Nat → Nat → Option Nat} {A : Nat → Nat → Int32} {B : Nat → Nat → Option Nat} {Ln : Nat → Nat} {n sl : Nat}
/-- the files, number and level -/
def FlA (A : Nat → Nat → Int32) (fl : List (Int32 × Int32)) : Prop := ∀ j p, fl[j]? = some p → A 23 j = p.1 ∧ A 24 j = p.2
theorem FlA.mid {A : Nat → Nat → Int32} {q r : List (Int32 × Int32)} {p : Int32 × Int32} (h : FlA A (q ++ p :: r)) : A 23 q.length = p.1 ∧ A 24 q.length = p.2 := h q.length p (by simp)
theorem FlA.congr {A A' : Nat → Nat → Int32} {fl : List (Int32 × Int32)} (h : FlA A fl) (h1 : A' 23 = A 23) (h2 : A' 24 = A 24) : FlA A' fl := fun j p hj => by rw [h1, h2]; exact h j p hj
theorem FlA.drop {A : Nat → Nat → Int32} {q r : List (Int32 × Int32)} {p : Int32 × Int32} (h : FlA A (q ++ p :: r)) : FlA (drA A q.length ((q ++ p :: r).length - 1)) (q ++ r) := by
  intro j x hj
  have hl : j < (q ++ r).length := (List.getElem?_eq_some_iff.mp hj).1
  rw [List.length_append] at hl
  unfold drA
  rw [List.length_append, List.length_cons]
  by_cases hq : j < q.length
  · rw [if_neg (by omega), if_neg (by omega)]
    rw [List.getElem?_append_left hq] at hj
    exact h j x (by rw [List.getElem?_append_left hq]; exact hj)
  · rw [if_pos ⟨Or.inl rfl, by omega, by omega⟩, if_pos ⟨Or.inr rfl, by omega, by omega⟩]
    rw [List.getElem?_append_right (by omega)] at hj
    refine h (j + 1) x ?_
    rw [List.getElem?_append_right (by omega), show j + 1 - q.length = (j - q.length) + 1 by omega]
    simpa using hj
theorem FlA.set {A : Nat → Nat → Int32} {q r : List (Int32 × Int32)} {p : Int32 × Int32} {v : Int32} (h : FlA A (q ++ p :: r)) : FlA (u2 A 23 q.length v) (q ++ (v, p.2) :: r) := by
  intro j x hj
  by_cases hq : j = q.length
  · subst hq
    simp at hj
    subst hj
    exact ⟨u2_self, by rw [u2_ne1 (by decide)]; exact h.mid.2⟩
  · rw [u2_ne2 hq, u2_ne1 (by decide)]
    refine h j x ?_
    by_cases hl : j < q.length
    · rw [List.getElem?_append_left hl] at hj ⊢
      exact hj
    · rw [List.getElem?_append_right (by omega)] at hj ⊢
      obtain ⟨k, hk⟩ : ∃ k, j - q.length = k + 1 := ⟨j - q.length - 1, by omega⟩
      rw [hk] at hj ⊢
      simpa using hj
theorem endN_congr {A A' : Nat → Nat → Int32} (h16 : A' 16 = A 16) (h17 : A' 17 = A 17) (h18 : A' 18 = A 18) (h19 : A' 19 = A 19) (h22 : A' 22 = A 22) {x : Int32} {b : Bool} : ∀ e, endN A' x b e = endN A x b e
  | 0 => rfl
  | e + 1 => by
    rw [endN.eq_2, endN.eq_2, endN_congr h16 h17 h18 h19 h22 e, h16, h17, h18, h19, h22]
theorem srtR_congr {bf bf' : Nat → Nat → Bool} {tk tk' : Nat → Bool} (hb : bf' = bf) : ∀ e, (∀ j, j < e → tk' j = tk j) → srtR bf' tk' e = srtR bf tk e
  | 0, _ => rfl
  | e + 1, h => by
    unfold srtR
    rw [h e (Nat.lt_succ_self e), srtR_congr hb e (fun j hj => h j (by omega)), hb]
theorem snoc_of {α : Type} {l : List α} {k : Nat} (h : l.length = k + 1) : ∃ q p, l = q ++ [p] ∧ q.length = k := by
  have hn : l ≠ [] := by intro z; subst z; cases h
  exact ⟨l.dropLast, l.getLast hn, (List.dropLast_concat_getLast hn).symm, by rw [List.length_dropLast]; omega⟩
/-- one less than a count -/
def dI (k : Nat) : Int32 := nI k + (-1)
theorem dI_s {k : Nat} : dI (k + 1) = nI k := pk_m1 k
theorem dI_0 : dI 0 = -1 := by decide
/-- the first (or last) entry of a file -/
def eN (A : Nat → Nat → Int32) (many : Nat) (b : Bool) (x : Int32) : Nat := (endN A x b many).getD 0
/-- whether a merge of the file src of level l takes that file in -/
def selF (A : Nat → Nat → Int32) (many : Nat) (l src : Int32) (p : Int32 × Int32) : Bool := decide (p.2 = l + 1) && mtB A (eN A many true src) (eN A many false src) (eN A many true p.1) (eN A many false p.1)
def mkF (A : Nat → Nat → Int32) (many : Nat) (l src : Int32) (p : Int32 × Int32) : Int32 × Int32 := if selF A many l src p = true then (-p.1, p.2) else p
/-- the third loop of 'compacts' in its midst -/
def C3I (A A' : Nat → Nat → Int32) (many : Nat) (l src : Int32) (pre post : List (Int32 × Int32)) : Prop := (∀ i, i ∉ [23, 33] → A' i = A i) ∧ FlA A' (pre ++ post.map (mkF A many l src)) ∧ ∀ e, e < many → A' 33 e = bZ (decide (A 22 e = src) || post.any (fun p => selF A many l src p && decide (A 22 e = p.1)))
/-- a file with entries -/
def HasE (A : Nat → Nat → Int32) (many : Nat) (x : Int32) : Prop := ∀ b, ∃ e, endN A x b many = some e
theorem HasE.get {A : Nat → Nat → Int32} {many : Nat} {x : Int32} (h : HasE A many x) (b : Bool) : endN A x b many = some (eN A many b x) := by
  obtain ⟨e, he⟩ := h b
  unfold eN
  rw [he]
  rfl
set_option maxRecDepth 100000 in
set_option maxHeartbeats 4000000 in
theorem lp_c4 {Q : Option LV → GH → Prop} (hM : MFix K R Ln) {many : Nat} (hm : I 582 11 = nI many) (hbm : many ≤ 520) {l src : Int32} {it : Nat} {fl : List (Int32 × Int32)} (hfl : fl.length ≤ 520) (hsrc : HasE A many src) (hne : ∀ p ∈ fl, HasE A many p.1) (kont : ∀ A' w4 w5 w6, C3I A A' many l src [] fl → Ev X mX9_compacts (d + 4) 179 [some (rV (some 11)), some (iV l), some (iV (nI it)), some (iV src), w4, w5, w6] [] (K, I, J, R, A', B, Ln, n, sl) Q) : ∀ (k : Nat) (pre post : List (Int32 × Int32)) (A' : Nat → Nat → Int32) (w5 w6 : Option LV), pre.length = k → fl = pre ++ post → C3I A A' many l src pre post → Ev X mX9_compacts (d + 4) 74 [some (rV (some 11)), some (iV l), some (iV (nI it)), some (iV src), some (iV (dI k)), w5, w6] [] (K, I, J, R, A', B, Ln, n, sl) Q := by
  intro k
  induction k with
  | zero =>
    intro pre post A' w5 w6 hl hf hI
    have hp : pre = [] := List.eq_nil_of_length_eq_zero hl
    subst hp
    have hpf : fl = post := hf
    subst hpf
    rw [dI_0]
    refine ev_iload dX9_compacts_74 rfl ?_
    refine ev_if_lt 179 dX9_compacts_76 (by decide) (fun c76 => ?_) (fun c76 => absurd (by decide) c76)
    exact kont A' _ _ _ hI
  | succ k ih =>
    intro pre post A' w5 w6 hl hf hI
    obtain ⟨q, p, rfl, hq⟩ := snoc_of hl
    obtain ⟨i1, i2, i3⟩ := hI
    have hf' : fl = q ++ p :: post := by rw [hf, List.append_assoc]; rfl
    have hkl : k < 520 := by
      have := congrArg List.length hf'
      simp at this
      omega
    have i2' : FlA A' (q ++ p :: post.map (mkF A many l src)) := by rw [List.append_assoc] at i2; exact i2
    have hmid := i2'.mid
    rw [hq] at hmid
    rw [dI_s]
    have k173 : ∀ (A'' : Nat → Nat → Int32) (w5 w6 : Option LV), C3I A A'' many l src q (p :: post) → Ev X mX9_compacts (d + 4) 173 [some (rV (some 11)), some (iV l), some (iV (nI it)), some (iV src), some (iV (nI (k))), w5, w6] [] (K, I, J, R, A'', B, Ln, n, sl) Q := by
      intro A'' w5 w6 hC
      refine ev_iincS dX9_compacts_173 rfl (by decide) rfl ?_
      refine ev_goto 74 dX9_compacts_176 (by decide) ?_
      exact ih q (p :: post) A'' _ _ hq hf' hC
    have hno : selF A many l src p = false → C3I A A' many l src q (p :: post) := by
      intro hs
      refine ⟨i1, ?_, fun e he => ?_⟩
      · rw [List.map_cons, show mkF A many l src p = p by unfold mkF; rw [hs]; rfl]
        exact i2'
      · rw [i3 e he, List.any_cons, hs]
        simp
    have hpm : p ∈ fl := by rw [hf']; simp
    have hmeet := sp_meet (X := X) (d := d) (I := I) (J := J) (A := A') (B := B) (n := n) (sl := sl) (x := src) (y := p.1) hM hm hbm
      ((endN_congr (i1 16 (by decide)) (i1 17 (by decide)) (i1 18 (by decide)) (i1 19 (by decide)) (i1 22 (by decide)) many).trans (hsrc.get true))
      ((endN_congr (i1 16 (by decide)) (i1 17 (by decide)) (i1 18 (by decide)) (i1 19 (by decide)) (i1 22 (by decide)) many).trans (hsrc.get false))
      ((endN_congr (i1 16 (by decide)) (i1 17 (by decide)) (i1 18 (by decide)) (i1 19 (by decide)) (i1 22 (by decide)) many).trans ((hne p hpm).get true))
      ((endN_congr (i1 16 (by decide)) (i1 17 (by decide)) (i1 18 (by decide)) (i1 19 (by decide)) (i1 22 (by decide)) many).trans ((hne p hpm).get false))
    have hmt : mtB A' (eN A many true src) (eN A many false src) (eN A many true p.1) (eN A many false p.1) = mtB A (eN A many true src) (eN A many false src) (eN A many true p.1) (eN A many false p.1) := by
      unfold mtB
      rw [i1 16 (by decide), i1 17 (by decide), i1 18 (by decide)]
    rw [hmt] at hmeet
    by_cases hlv : p.2 = l + 1
    · cases hmb : mtB A (eN A many true src) (eN A many false src) (eN A many true p.1) (eN A many false p.1) with
      | false =>
        rw [hmb] at hmeet
        have hs : selF A many l src p = false := by unfold selF; rw [hmb, Bool.and_false]
        refine ev_iload dX9_compacts_74 rfl ?_
        refine ev_if_ltN 179 dX9_compacts_76 (by decide) (by omega) ?_
        refine ev_aload_n dX9_compacts_79 rfl ?_
        refine ev_getR dX9_compacts_80 fX9_44 hM.m hM.R_number ?_
        refine ev_iload dX9_compacts_83 rfl ?_
        refine ev_ialdv dX9_compacts_85 hM.K_number hM.L_number (by decide) (by omega) hmid.1 ?_
        refine ev_istoreS dX9_compacts_86 (by decide) rfl ?_
        refine ev_aload_n dX9_compacts_88 rfl ?_
        refine ev_getR dX9_compacts_89 fX9_47 hM.m hM.R_level ?_
        refine ev_iload dX9_compacts_92 rfl ?_
        refine ev_ialdv dX9_compacts_94 hM.K_level hM.L_level (by decide) (by omega) hmid.2 ?_
        refine ev_iload_n dX9_compacts_95 rfl ?_
        refine ev_iconstN 1 dX9_compacts_96 (by decide) ?_
        refine ev_iadd (y := 1) dX9_compacts_97 ?_
        refine ev_icmp_ne 173 dX9_compacts_98 (by decide) (fun c98 => absurd hlv c98) (fun c98 => ?_)
        refine ev_aload_n dX9_compacts_101 rfl ?_
        refine ev_iload_n dX9_compacts_102 rfl ?_
        refine ev_iload dX9_compacts_103 rfl ?_
        refine ev_callV dX9_compacts_105 okX9_meet inX9_meet seX9_meet mlX9_191 hM.m (by decide) rfl [iV _, iV _] rfl rfl (Nat.le_of_ble_eq_true rfl) (Nat.le_of_ble_eq_true rfl) (hmeet) (fun r_ G_ h_ => ?_)
        obtain ⟨rfl, rfl⟩ := h_
        try dsimp only [Option.toList, List.cons_append, List.nil_append]
        refine ev_if_eq 173 dX9_compacts_108 (by decide) (fun c108 => ?_) (fun c108 => absurd rfl c108)
        exact k173 A' _ _ (hno hs)
      | true =>
        rw [hmb] at hmeet
        have hs : selF A many l src p = true := by unfold selF; rw [hmb, decide_eq_true hlv]; rfl
        have k163 : ∀ (w6 : Option LV), Ev X mX9_compacts (d + 4) 163 [some (rV (some 11)), some (iV l), some (iV (nI it)), some (iV src), some (iV (nI (k))), some (iV p.1), w6] [] (K, I, J, R, tkO A' p.1 many, B, Ln, n, sl) Q := by
          intro w6
          refine ev_aload_n dX9_compacts_163 rfl ?_
          refine ev_getR dX9_compacts_164 fX9_44 hM.m hM.R_number ?_
          refine ev_iload dX9_compacts_167 rfl ?_
          refine ev_iload dX9_compacts_169 rfl ?_
          refine ev_ineg dX9_compacts_171 ?_
          refine ev_iast dX9_compacts_172 hM.K_number hM.L_number (by decide) (by omega) ?_
          refine k173 _ _ _ ⟨fun i hi => ?_, ?_, fun e he => ?_⟩
          · simp only [List.mem_cons, List.not_mem_nil, or_false, not_or] at hi
            rw [u2_row' hi.1, tkO_ne hi.2]
            exact i1 i (by simp [hi])
          · rw [List.map_cons, show mkF A many l src p = (-p.1, p.2) by unfold mkF; rw [hs]; rfl, ← hq]
            exact (i2'.congr (tkO_ne (by decide)) (tkO_ne (by decide))).set
          · rw [u2_ne1 (by decide), tkO_at he, i1 22 (by decide), i3 e he, List.any_cons, hs]
            cases decide (A 22 e = src) <;> cases (post.any (fun p => selF A many l src p && decide (A 22 e = p.1))) <;> cases decide (A 22 e = p.1) <;> rfl
        have h114 := lp_c3 (X := X) (d := d + 4) (J := J) (A := A') (B := B) (n := n) (sl := sl) (l := l) (src := src) (x := p.1) (it := it) (f := k) hM hm hbm (k163 _) many 0 (by omega)
        rw [tkO_0] at h114
        refine ev_iload dX9_compacts_74 rfl ?_
        refine ev_if_ltN 179 dX9_compacts_76 (by decide) (by omega) ?_
        refine ev_aload_n dX9_compacts_79 rfl ?_
        refine ev_getR dX9_compacts_80 fX9_44 hM.m hM.R_number ?_
        refine ev_iload dX9_compacts_83 rfl ?_
        refine ev_ialdv dX9_compacts_85 hM.K_number hM.L_number (by decide) (by omega) hmid.1 ?_
        refine ev_istoreS dX9_compacts_86 (by decide) rfl ?_
        refine ev_aload_n dX9_compacts_88 rfl ?_
        refine ev_getR dX9_compacts_89 fX9_47 hM.m hM.R_level ?_
        refine ev_iload dX9_compacts_92 rfl ?_
        refine ev_ialdv dX9_compacts_94 hM.K_level hM.L_level (by decide) (by omega) hmid.2 ?_
        refine ev_iload_n dX9_compacts_95 rfl ?_
        refine ev_iconstN 1 dX9_compacts_96 (by decide) ?_
        refine ev_iadd (y := 1) dX9_compacts_97 ?_
        refine ev_icmp_ne 173 dX9_compacts_98 (by decide) (fun c98 => absurd hlv c98) (fun c98 => ?_)
        refine ev_aload_n dX9_compacts_101 rfl ?_
        refine ev_iload_n dX9_compacts_102 rfl ?_
        refine ev_iload dX9_compacts_103 rfl ?_
        refine ev_callV dX9_compacts_105 okX9_meet inX9_meet seX9_meet mlX9_191 hM.m (by decide) rfl [iV _, iV _] rfl rfl (Nat.le_of_ble_eq_true rfl) (Nat.le_of_ble_eq_true rfl) (hmeet) (fun r_ G_ h_ => ?_)
        obtain ⟨rfl, rfl⟩ := h_
        try dsimp only [Option.toList, List.cons_append, List.nil_append]
        refine ev_if_eq 173 dX9_compacts_108 (by decide) (fun c108 => absurd c108 (by decide)) (fun c108 => ?_)
        refine ev_iconstN 0 dX9_compacts_111 (by decide) ?_
        refine ev_istoreS dX9_compacts_112 (by decide) rfl ?_
        exact h114
    · have hs : selF A many l src p = false := by unfold selF; rw [decide_eq_false hlv, Bool.false_and]
      refine ev_iload dX9_compacts_74 rfl ?_
      refine ev_if_ltN 179 dX9_compacts_76 (by decide) (by omega) ?_
      refine ev_aload_n dX9_compacts_79 rfl ?_
      refine ev_getR dX9_compacts_80 fX9_44 hM.m hM.R_number ?_
      refine ev_iload dX9_compacts_83 rfl ?_
      refine ev_ialdv dX9_compacts_85 hM.K_number hM.L_number (by decide) (by omega) hmid.1 ?_
      refine ev_istoreS dX9_compacts_86 (by decide) rfl ?_
      refine ev_aload_n dX9_compacts_88 rfl ?_
      refine ev_getR dX9_compacts_89 fX9_47 hM.m hM.R_level ?_
      refine ev_iload dX9_compacts_92 rfl ?_
      refine ev_ialdv dX9_compacts_94 hM.K_level hM.L_level (by decide) (by omega) hmid.2 ?_
      refine ev_iload_n dX9_compacts_95 rfl ?_
      refine ev_iconstN 1 dX9_compacts_96 (by decide) ?_
      refine ev_iadd (y := 1) dX9_compacts_97 ?_
      refine ev_icmp_ne 173 dX9_compacts_98 (by decide) (fun c98 => ?_) (fun c98 => absurd c98 hlv)
      exact k173 A' _ _ (hno hs)
end M23
