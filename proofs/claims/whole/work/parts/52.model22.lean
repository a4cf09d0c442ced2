section M22
variable {X : CX} {d : Nat} {K : Nat → Nat} {I : Nat → Nat → Int32} {J : Nat → Nat → Int64} {R : Nat → Nat → Option Nat} {A : Nat → Nat → Int32} {B : Nat → Nat → Option Nat} {Ln : Nat → Nat} {n sl : Nat}
def tkA (A : Nat → Nat → Int32) (src : Int32) (e : Nat) : Nat → Nat → Int32 := fun i j => if i = 33 ∧ j < e then bZ (decide (A 22 j = src)) else A i j
def tkO (A : Nat → Nat → Int32) (x : Int32) (e : Nat) : Nat → Nat → Int32 := fun i j => if i = 33 ∧ j < e then bZ (decide (¬ A 33 j = 0) || decide (A 22 j = x)) else A i j
theorem tkA_0 {A : Nat → Nat → Int32} {src : Int32} : tkA A src 0 = A := by
  funext i j
  unfold tkA
  rw [if_neg (by omega)]
theorem tkO_0 {A : Nat → Nat → Int32} {src : Int32} : tkO A src 0 = A := by
  funext i j
  unfold tkO
  rw [if_neg (by omega)]
theorem tkA_22 {A : Nat → Nat → Int32} {src : Int32} {e j : Nat} : tkA A src e 22 j = A 22 j := by
  unfold tkA
  rw [if_neg (by omega)]
theorem tkO_22 {A : Nat → Nat → Int32} {src : Int32} {e j : Nat} : tkO A src e 22 j = A 22 j := by
  unfold tkO
  rw [if_neg (by omega)]
theorem tkO_33 {A : Nat → Nat → Int32} {src : Int32} {e : Nat} : tkO A src e 33 e = A 33 e := by
  unfold tkO
  rw [if_neg (by omega)]
theorem tkA_s {A : Nat → Nat → Int32} {src v : Int32} {e : Nat} (h : v = bZ (decide (A 22 e = src))) : u2 (tkA A src e) 33 e v = tkA A src (e + 1) := by
  subst h
  funext i j
  unfold tkA u2
  by_cases h1 : i = 33 ∧ j = e
  · obtain ⟨rfl, rfl⟩ := h1
    simp
  · rw [if_neg h1]
    dsimp only
    by_cases h2 : i = 33 ∧ j < e
    · rw [if_pos h2, if_pos ⟨h2.1, by omega⟩]
    · rw [if_neg h2, if_neg (by omega)]
theorem tkO_s {A : Nat → Nat → Int32} {x v : Int32} {e : Nat} (h : v = bZ (decide (¬ A 33 e = 0) || decide (A 22 e = x))) : u2 (tkO A x e) 33 e v = tkO A x (e + 1) := by
  subst h
  funext i j
  unfold tkO u2
  by_cases h1 : i = 33 ∧ j = e
  · obtain ⟨rfl, rfl⟩ := h1
    simp
  · rw [if_neg h1]
    dsimp only
    by_cases h2 : i = 33 ∧ j < e
    · rw [if_pos h2, if_pos ⟨h2.1, by omega⟩]
    · rw [if_neg h2, if_neg (by omega)]
theorem tkA_ne {A : Nat → Nat → Int32} {src : Int32} {e i : Nat} (h : i ≠ 33) : tkA A src e i = A i := by
  funext j
  unfold tkA
  rw [if_neg (fun z => h z.1)]
theorem tkO_ne {A : Nat → Nat → Int32} {src : Int32} {e i : Nat} (h : i ≠ 33) : tkO A src e i = A i := by
  funext j
  unfold tkO
  rw [if_neg (fun z => h z.1)]
theorem tkA_33 {A : Nat → Nat → Int32} {src : Int32} {e j : Nat} (h : j < e) : tkA A src e 33 j = bZ (decide (A 22 j = src)) := if_pos ⟨rfl, h⟩
theorem tkO_at {A : Nat → Nat → Int32} {src : Int32} {e j : Nat} (h : j < e) : tkO A src e 33 j = bZ (decide (¬ A 33 j = 0) || decide (A 22 j = src)) := if_pos ⟨rfl, h⟩
set_option maxRecDepth 100000 in
set_option maxHeartbeats 4000000 in
theorem lp_c1 {Q : Option LV → GH → Prop} (hM : MFix K R Ln) {l : Int32} {it : Nat} {w3 w4 w5 w6 : Option LV} (hi : it < 520) (h1 : A 24 it = l) (h2 : ∀ j, j < it → ¬ A 24 j = l) (kont : Ev X mX9_compacts d 18 [some (rV (some 11)), some (iV l), some (iV (nI it)), w3, w4, w5, w6] [] (K, I, J, R, A, B, Ln, n, sl) Q) : ∀ (g e : Nat), e + g = it → Ev X mX9_compacts d 2 [some (rV (some 11)), some (iV l), some (iV (nI (e))), w3, w4, w5, w6] [] (K, I, J, R, A, B, Ln, n, sl) Q := by
  intro g
  induction g with
  | zero =>
    intro e he
    have e2 : e = it := by omega
    subst e2
    refine ev_aload_n dX9_compacts_2 rfl ?_
    refine ev_getR dX9_compacts_3 fX9_47 hM.m hM.R_level ?_
    refine ev_iload_n dX9_compacts_6 rfl ?_
    refine ev_iald dX9_compacts_7 hM.K_level hM.L_level (by decide) (by omega) ?_
    refine ev_iload_n dX9_compacts_8 rfl ?_
    refine ev_icmp_eq 18 dX9_compacts_9 (by decide) (fun c9 => ?_) (fun c9 => absurd h1 c9)
    exact kont
  | succ g ih =>
    intro e he
    refine ev_aload_n dX9_compacts_2 rfl ?_
    refine ev_getR dX9_compacts_3 fX9_47 hM.m hM.R_level ?_
    refine ev_iload_n dX9_compacts_6 rfl ?_
    refine ev_iald dX9_compacts_7 hM.K_level hM.L_level (by decide) (by omega) ?_
    refine ev_iload_n dX9_compacts_8 rfl ?_
    refine ev_icmp_eq 18 dX9_compacts_9 (by decide) (fun c9 => absurd c9 (h2 e (by omega))) (fun c9 => ?_)
    refine ev_iincNS (b := 1) dX9_compacts_12 rfl (by decide) (by decide) rfl ?_
    refine ev_goto 2 dX9_compacts_15 (by decide) ?_
    exact ih (e + 1) (by omega)
set_option maxRecDepth 100000 in
set_option maxHeartbeats 4000000 in
theorem lp_c2 {Q : Option LV → GH → Prop} (hM : MFix K R Ln) {many : Nat} (hm : I 582 11 = nI many) (hbm : many ≤ 520) {l src : Int32} {it : Nat} {w5 w6 : Option LV} (kont : Ev X mX9_compacts d 66 [some (rV (some 11)), some (iV l), some (iV (nI it)), some (iV src), some (iV (nI (many))), w5, w6] [] (K, I, J, R, tkA A src many, B, Ln, n, sl) Q) : ∀ (g e : Nat), e + g = many → Ev X mX9_compacts d 28 [some (rV (some 11)), some (iV l), some (iV (nI it)), some (iV src), some (iV (nI (e))), w5, w6] [] (K, I, J, R, tkA A src e, B, Ln, n, sl) Q := by
  intro g
  induction g with
  | zero =>
    intro e he
    have e2 : e = many := by omega
    subst e2
    refine ev_iload dX9_compacts_28 rfl ?_
    refine ev_aload_n dX9_compacts_30 rfl ?_
    refine ev_getIv dX9_compacts_31 fX9_106 hM.m hm ?_
    refine ev_icmp_geN 66 dX9_compacts_34 (by decide) (by omega) (by omega) (fun c34 => ?_) (fun c34 => absurd c34 (by omega))
    exact kont
  | succ g ih =>
    intro e he
    have k60 : ∀ A', A' = tkA A src (e + 1) → Ev X mX9_compacts d 60 [some (rV (some 11)), some (iV l), some (iV (nI it)), some (iV src), some (iV (nI (e))), w5, w6] [] (K, I, J, R, A', B, Ln, n, sl) Q := by
      intro A' hA
      subst hA
      refine ev_iincNS (b := 1) dX9_compacts_60 rfl (by decide) (by decide) rfl ?_
      refine ev_goto 28 dX9_compacts_63 (by decide) ?_
      exact ih (e + 1) (by omega)
    refine ev_iload dX9_compacts_28 rfl ?_
    refine ev_aload_n dX9_compacts_30 rfl ?_
    refine ev_getIv dX9_compacts_31 fX9_106 hM.m hm ?_
    refine ev_icmp_geN 66 dX9_compacts_34 (by decide) (by omega) (by omega) (fun c34 => absurd c34 (by omega)) (fun c34 => ?_)
    refine ev_aload_n dX9_compacts_37 rfl ?_
    refine ev_getR dX9_compacts_38 fX9_78 hM.m hM.R_taken ?_
    refine ev_iload dX9_compacts_41 rfl ?_
    refine ev_aload_n dX9_compacts_43 rfl ?_
    refine ev_getR dX9_compacts_44 fX9_41 hM.m hM.R_file ?_
    refine ev_iload dX9_compacts_47 rfl ?_
    refine ev_ialdv dX9_compacts_49 hM.K_file hM.L_file (by decide) (by omega) tkA_22 ?_
    refine ev_iload_n dX9_compacts_50 rfl ?_
    refine ev_icmp_ne 58 dX9_compacts_51 (by decide) (fun c51 => ?_) (fun c51 => ?_)
    · refine ev_iconstN 0 dX9_compacts_58 (by decide) ?_
      refine ev_zast dX9_compacts_59 hM.K_taken hM.L_taken (by decide) (by omega) (by first | exact Or.inl rfl | exact Or.inr rfl) ?_
      exact k60 _ (tkA_s (by first | (rw [decide_eq_true c51]; rfl) | (rw [decide_eq_false c51]; rfl)))
    · refine ev_iconstN 1 dX9_compacts_54 (by decide) ?_
      refine ev_goto 59 dX9_compacts_55 (by decide) ?_
      refine ev_zast dX9_compacts_59 hM.K_taken hM.L_taken (by decide) (by omega) (by first | exact Or.inl rfl | exact Or.inr rfl) ?_
      exact k60 _ (tkA_s (by first | (rw [decide_eq_true c51]; rfl) | (rw [decide_eq_false c51]; rfl)))
set_option maxRecDepth 100000 in
set_option maxHeartbeats 4000000 in
theorem lp_c3 {Q : Option LV → GH → Prop} (hM : MFix K R Ln) {many : Nat} (hm : I 582 11 = nI many) (hbm : many ≤ 520) {l src x : Int32} {it f : Nat} (kont : Ev X mX9_compacts d 163 [some (rV (some 11)), some (iV l), some (iV (nI it)), some (iV src), some (iV (nI (f))), some (iV x), some (iV (nI (many)))] [] (K, I, J, R, tkO A x many, B, Ln, n, sl) Q) : ∀ (g e : Nat), e + g = many → Ev X mX9_compacts d 114 [some (rV (some 11)), some (iV l), some (iV (nI it)), some (iV src), some (iV (nI (f))), some (iV x), some (iV (nI (e)))] [] (K, I, J, R, tkO A x e, B, Ln, n, sl) Q := by
  intro g
  induction g with
  | zero =>
    intro e he
    have e2 : e = many := by omega
    subst e2
    refine ev_iload dX9_compacts_114 rfl ?_
    refine ev_aload_n dX9_compacts_116 rfl ?_
    refine ev_getIv dX9_compacts_117 fX9_106 hM.m hm ?_
    refine ev_icmp_geN 163 dX9_compacts_120 (by decide) (by omega) (by omega) (fun c120 => ?_) (fun c120 => absurd c120 (by omega))
    exact kont
  | succ g ih =>
    intro e he
    have k157 : ∀ A', A' = tkO A x (e + 1) → Ev X mX9_compacts d 157 [some (rV (some 11)), some (iV l), some (iV (nI it)), some (iV src), some (iV (nI (f))), some (iV x), some (iV (nI (e)))] [] (K, I, J, R, A', B, Ln, n, sl) Q := by
      intro A' hA
      subst hA
      refine ev_iincNS (b := 1) dX9_compacts_157 rfl (by decide) (by decide) rfl ?_
      refine ev_goto 114 dX9_compacts_160 (by decide) ?_
      exact ih (e + 1) (by omega)
    refine ev_iload dX9_compacts_114 rfl ?_
    refine ev_aload_n dX9_compacts_116 rfl ?_
    refine ev_getIv dX9_compacts_117 fX9_106 hM.m hm ?_
    refine ev_icmp_geN 163 dX9_compacts_120 (by decide) (by omega) (by omega) (fun c120 => absurd c120 (by omega)) (fun c120 => ?_)
    refine ev_aload_n dX9_compacts_123 rfl ?_
    refine ev_getR dX9_compacts_124 fX9_78 hM.m hM.R_taken ?_
    refine ev_iload dX9_compacts_127 rfl ?_
    refine ev_aload_n dX9_compacts_129 rfl ?_
    refine ev_getR dX9_compacts_130 fX9_78 hM.m hM.R_taken ?_
    refine ev_iload dX9_compacts_133 rfl ?_
    refine ev_zaldv dX9_compacts_135 hM.K_taken hM.L_taken (by decide) (by omega) tkO_33 ?_
    refine ev_if_ne 151 dX9_compacts_136 (by decide) (fun c136 => ?_) (fun c136 => ?_)
    · refine ev_iconstN 1 dX9_compacts_151 (by decide) ?_
      refine ev_goto 156 dX9_compacts_152 (by decide) ?_
      refine ev_zast dX9_compacts_156 hM.K_taken hM.L_taken (by decide) (by omega) (by first | exact Or.inl rfl | exact Or.inr rfl) ?_
      exact k157 _ (tkO_s (by first | (rw [decide_eq_true c136]; rfl) | (rw [decide_eq_true c148, Bool.or_true]; rfl) | (rw [decide_eq_false (fun z : ¬ A 33 e = 0 => z c136), decide_eq_false c148]; rfl)))
    · refine ev_aload_n dX9_compacts_139 rfl ?_
      refine ev_getR dX9_compacts_140 fX9_41 hM.m hM.R_file ?_
      refine ev_iload dX9_compacts_143 rfl ?_
      refine ev_ialdv dX9_compacts_145 hM.K_file hM.L_file (by decide) (by omega) tkO_22 ?_
      refine ev_iload dX9_compacts_146 rfl ?_
      refine ev_icmp_ne 155 dX9_compacts_148 (by decide) (fun c148 => ?_) (fun c148 => ?_)
      · refine ev_iconstN 0 dX9_compacts_155 (by decide) ?_
        refine ev_zast dX9_compacts_156 hM.K_taken hM.L_taken (by decide) (by omega) (by first | exact Or.inl rfl | exact Or.inr rfl) ?_
        exact k157 _ (tkO_s (by first | (rw [decide_eq_true c136]; rfl) | (rw [decide_eq_true c148, Bool.or_true]; rfl) | (rw [decide_eq_false (fun z : ¬ A 33 e = 0 => z c136), decide_eq_false c148]; rfl)))
      · refine ev_iconstN 1 dX9_compacts_151 (by decide) ?_
        refine ev_goto 156 dX9_compacts_152 (by decide) ?_
        refine ev_zast dX9_compacts_156 hM.K_taken hM.L_taken (by decide) (by omega) (by first | exact Or.inl rfl | exact Or.inr rfl) ?_
        exact k157 _ (tkO_s (by first | (rw [decide_eq_true c136]; rfl) | (rw [decide_eq_true c148, Bool.or_true]; rfl) | (rw [decide_eq_false (fun z : ¬ A 33 e = 0 => z c136), decide_eq_false c148]; rfl)))
end M22
