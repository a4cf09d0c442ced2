/-- whether the merge of the file o takes the file g in; fi and la are first and last entries -/
def mtC (J : Nat → Nat → Int64) (fi la : Nat → Nat) (g o : Nat) : Bool := decide (¬ J 3 (la g) < J 3 (fi o) ∧ ¬ J 3 (la o) < J 3 (fi g))
def selB (I : Nat → Nat → Int32) (J : Nat → Nat → Int64) (fi la : Nat → Nat) (o g : Nat) : Bool := decide (g = o) || (decide (I 321 g = I 321 o + nI 1) && mtC J fi la g o)
/-- the ends of the files -/
def EdR (K : Nat → Nat) (R : Nat → Nat → Option Nat) (fi la : Nat → Nat) (fs : List Nat) : Prop := ∀ g ∈ fs, R 322 g = some (fi g) ∧ R 323 g = some (la g) ∧ K (fi g) = 0 ∧ K (la g) = 0 ∧ 34 ≤ g
def RtI (I0 I : Nat → Nat → Int32) (S : List Nat) : Prop := ∀ f i, ¬ (i = 9 ∧ (f = 640 ∨ f = 642)) → I f i = if f = 325 ∧ i ∈ S then 1 else I0 f i
section C77
variable {X : CX} {d : Nat} {K : Nat → Nat} {I : Nat → Nat → Int32} {J : Nat → Nat → Int64} {R : Nat → Nat → Option Nat} {A : Nat → Nat → Int32} {B : Nat → Nat → Option Nat} {Ln : Nat → Nat} {n sl : Nat}
set_option maxRecDepth 100000 in
set_option maxHeartbeats 4000000 in
theorem lp_rt {Q : Option LV → GH → Prop} (hC : CFix K R Ln) {I0 : Nat → Nat → Int32} {B0 : Nat → Nat → Option Nat} {a m o : Nat} {fs : List Nat} {fi la : Nat → Nat} (hd : EdR K R fi la fs) (ho : o ∈ fs) (hKf : ∀ g ∈ fs, K g = 5)
    (hq : ∀ I' B', AlR K I' R B' Ln n a m (fs.filter (fun g => !selB I0 J fi la o g)) → RtI I0 I' (fs.filter (selB I0 J fi la o)) → (∀ i, i ≠ a → B' i = B0 i) → Q none (K, I', J, R, A, B', Ln, n, sl)) : ∀ (k : Nat) (pre mid : List Nat) (I : Nat → Nat → Int32) (B : Nat → Nat → Option Nat) (w3 : Option LV), pre.length = k → fs = pre ++ mid → AlR K I R B Ln n a m (pre ++ mid.filter (fun g => !selB I0 J fi la o g)) → RtI I0 I (mid.filter (selB I0 J fi la o)) → (∀ i, i ≠ a → B i = B0 i) → Ev X mX6_retire (d + 3) 10 [some (rV (some 7)), some (rV (some o)), some (iV (dI k)), w3] [] (K, I, J, R, A, B, Ln, n, sl) Q := by
  intro k
  induction k with
  | zero =>
    intro pre mid I B w3 hk hfs hA hI hB
    have e1 : pre = [] := List.length_eq_zero_iff.mp hk
    subst e1
    rw [List.nil_append] at hfs hA
    subst hfs
    have hq := hq I B hA hI hB
    rw [dI_0]
    refine ev_iload_n dX6_retire_10 rfl ?_
    refine ev_if_lt 72 dX6_retire_11 (by decide) (fun c11 => ?_) (fun c11 => absurd (by decide) c11)
    refine ev_return dX6_retire_72 rfl ?_
    exact hq
  | succ k ih =>
    intro pre mid I B w3 hk hfs hA hI hB
    obtain ⟨pr, g, rfl⟩ : ∃ pr g, pre = pr ++ [g] := ⟨pre.dropLast, pre.getLast (by intro z; rw [z] at hk; cases hk), (List.dropLast_concat_getLast _).symm⟩
    have hk' : pr.length = k := by rw [List.length_append] at hk; simpa using hk
    subst hk'
    have hgm : g ∈ fs := by rw [hfs]; simp
    have hKg := hKf g hgm
    have hKo := hKf o ho
    obtain ⟨d1, d2, d3, d4, d5⟩ := hd g hgm
    obtain ⟨o1, o2, o3, o4, o5⟩ := hd o ho
    have h8 := hA.2.2.2.1
    have h9 := hA.2.2.2.2.1
    rw [List.append_assoc, List.singleton_append] at hA
    have hlt : pr.length < (pr ++ g :: mid.filter (fun g => !selB I0 J fi la o g)).length := by rw [List.length_append, List.length_cons]; omega
    have hlt8 : pr.length < 2147483648 := by rw [List.length_append, List.length_append] at h8; omega
    have hat : (pr ++ g :: mid.filter (fun g => !selB I0 J fi la o g))[pr.length]'hlt = g := (List.getElem?_eq_some_iff.mp mid_at).2
    have sg := cs_get (X := X) (d := d) (J := J) (A := A) (sl := sl) hC.K_al hA hlt
    rw [hat] at sg
    have sm := cs_meets (X := X) (d := d + 2) (I := I) (J := J) (A := A) (B := B) (Ln := Ln) (n := n) (sl := sl) hKg hKo d1 d2 o1 o2 d3 d4 o3 o4
    have hIg : I 321 g = I0 321 g := by rw [hI 321 g (by omega), if_neg (by omega)]
    have hIo : I 321 o = I0 321 o := by rw [hI 321 o (by omega), if_neg (by omega)]
    have hfs2 : fs = pr ++ g :: mid := by rw [hfs]; simp
    rw [dI_s]
    have kno : selB I0 J fi la o g = false → ∀ w3, Ev X mX6_retire (d + 3) 10 [some (rV (some 7)), some (rV (some o)), some (iV (dI pr.length)), w3] [] (K, I, J, R, A, B, Ln, n, sl) Q := by
      intro hs w3
      refine ih pr (g :: mid) I B w3 rfl hfs2 ?_ ?_ hB
      · rw [List.filter_cons_of_pos (by rw [hs]; rfl)]; exact hA
      · rw [List.filter_cons_of_neg (by rw [hs]; decide)]; exact hI
    have kyes : selB I0 J fi la o g = true → Ev X mX6_retire (d + 3) 52 [some (rV (some 7)), some (rV (some o)), some (iV (nI pr.length)), some (rV (some g))] [] (K, I, J, R, A, B, Ln, n, sl) Q := by
      intro hs
      have sr := cs_alRemove (X := X) (d := d) (J := J) (A := A) (sl := sl) (I := u2 I 325 g 1) hC.K_al (hA.frI (u2_ne1 (by decide))) hlt
      have her : (pr ++ g :: mid.filter (fun g => !selB I0 J fi la o g)).eraseIdx pr.length = pr ++ mid.filter (fun g => !selB I0 J fi la o g) := by
        rw [List.eraseIdx_append_of_length_le (Nat.le_refl _), Nat.sub_self]; rfl
      rw [her] at sr
      have fin : ∀ I' B', AlR K I' R B' Ln n a m (pr ++ mid.filter (fun g => !selB I0 J fi la o g)) → (∀ f i, ¬ (i = 9 ∧ (f = 640 ∨ f = 642)) → I' f i = u2 I 325 g 1 f i) → (∀ i, i ≠ a → B' i = B i) → ∀ w3, Ev X mX6_retire (d + 3) 10 [some (rV (some 7)), some (rV (some o)), some (iV (dI pr.length)), w3] [] (K, I', J, R, A, B', Ln, n, sl) Q := by
        intro I' B' q1 q2 q3 w3
        refine ih pr (g :: mid) I' B' w3 rfl hfs2 ?_ ?_ (fun i hi => (q3 i hi).trans (hB i hi))
        · rw [List.filter_cons_of_neg (by rw [hs]; decide)]; exact q1
        · rw [List.filter_cons_of_pos hs]
          intro f i hi
          rw [q2 f i hi]
          unfold u2
          by_cases h1 : f = 325 ∧ i = g
          · rw [if_pos h1, if_pos ⟨h1.1, by rw [h1.2]; exact List.mem_cons_self⟩]
          · rw [if_neg h1, hI f i hi]
            by_cases h2 : f = 325 ∧ i ∈ mid.filter (selB I0 J fi la o)
            · rw [if_pos h2, if_pos ⟨h2.1, List.mem_cons_of_mem _ h2.2⟩]
            · rw [if_neg h2, if_neg]
              rintro ⟨z1, z2⟩
              rcases List.mem_cons.mp z2 with z | z
              · exact h1 ⟨z1, z⟩
              · exact h2 ⟨z1, z⟩
      refine ev_aload_n dX6_retire_52 rfl ?_
      refine ev_iconstN 1 dX6_retire_53 (by decide) ?_
      refine ev_putI dX6_retire_54 fX6_122 (Or.inl rfl) (by first | exact Or.inl rfl | exact Or.inr (Or.inl rfl) | exact Or.inr (Or.inr rfl)) hKg ?_
      refine ev_aload_n dX6_retire_57 rfl ?_
      refine ev_getR dX6_retire_58 fX6_20 hC.K_st hC.R_al ?_
      refine ev_iload_n dX6_retire_61 rfl ?_
      refine ev_callV dX6_retire_62 okJx4a65c_remove_915e3 inJx4a65c_remove_915e3 seJx4a65c_remove_915e3 mlX6_126 hC.K_al (by decide) rfl [iV _] rfl rfl (Nat.le_of_ble_eq_true rfl) (Nat.le_of_ble_eq_true rfl) (sr) (fun r_ G_ h_ => ?_)
      obtain ⟨rfl, I', B', q1, q2, q3, rfl⟩ := h_
      try dsimp only [Option.toList, List.cons_append, List.nil_append]
      refine ev_pop dX6_retire_65 rfl ?_
      refine ev_iincS dX6_retire_66 rfl (by decide) rfl ?_
      refine ev_goto 10 dX6_retire_69 (by decide) ?_
      exact fin I' B' q1 q2 q3 _
    by_cases hgo : g = o
    · have hs : selB I0 J fi la o g = true := by unfold selB; rw [decide_eq_true hgo]; rfl
      refine ev_iload_n dX6_retire_10 rfl ?_
      refine ev_if_ltN 72 dX6_retire_11 (by decide) (by omega) ?_
      refine ev_aload_n dX6_retire_14 rfl ?_
      refine ev_getR dX6_retire_15 fX6_20 hC.K_st hC.R_al ?_
      refine ev_iload_n dX6_retire_18 rfl ?_
      refine ev_callV dX6_retire_19 okJx4a65c_get_915e3 inJx4a65c_get_915e3 seJx4a65c_get_915e3 mlX6_95 hC.K_al (by decide) rfl [iV _] rfl rfl (Nat.le_of_ble_eq_true rfl) (Nat.le_of_ble_eq_true rfl) (sg) (fun r_ G_ h_ => ?_)
      obtain ⟨rfl, rfl⟩ := h_
      try dsimp only [Option.toList, List.cons_append, List.nil_append]
      refine ev_cast (q := 5) dX6_retire_22 clX6_76 (by decide) hKg ?_
      refine ev_astore_nS dX6_retire_25 (by decide) rfl ?_
      refine ev_aload_n dX6_retire_26 rfl ?_
      refine ev_aload_n dX6_retire_27 rfl ?_
      refine ev_acmp_eq 52 dX6_retire_28 (by decide) (Or.inr (by omega)) (Or.inr (by omega)) (fun c28 => ?_) (fun c28 => absurd (by rw [hgo]) c28)
      exact kyes hs
    · have hgo' : ¬ some g = some o := fun z => hgo (Option.some.inj z)
      by_cases hlv : I0 321 g = I0 321 o + nI 1
      · have hlv' : I 321 g = I 321 o + nI 1 := by rw [hIg, hIo]; exact hlv
        cases hmt : mtC J fi la g o with
        | true =>
          have hs : selB I0 J fi la o g = true := by unfold selB; rw [decide_eq_true hlv, hmt, Bool.and_true, Bool.or_true]
          rw [show decide (¬ J 3 (la g) < J 3 (fi o) ∧ ¬ J 3 (la o) < J 3 (fi g)) = true from hmt] at sm
          refine ev_iload_n dX6_retire_10 rfl ?_
          refine ev_if_ltN 72 dX6_retire_11 (by decide) (by omega) ?_
          refine ev_aload_n dX6_retire_14 rfl ?_
          refine ev_getR dX6_retire_15 fX6_20 hC.K_st hC.R_al ?_
          refine ev_iload_n dX6_retire_18 rfl ?_
          refine ev_callV dX6_retire_19 okJx4a65c_get_915e3 inJx4a65c_get_915e3 seJx4a65c_get_915e3 mlX6_95 hC.K_al (by decide) rfl [iV _] rfl rfl (Nat.le_of_ble_eq_true rfl) (Nat.le_of_ble_eq_true rfl) (sg) (fun r_ G_ h_ => ?_)
          obtain ⟨rfl, rfl⟩ := h_
          try dsimp only [Option.toList, List.cons_append, List.nil_append]
          refine ev_cast (q := 5) dX6_retire_22 clX6_76 (by decide) hKg ?_
          refine ev_astore_nS dX6_retire_25 (by decide) rfl ?_
          refine ev_aload_n dX6_retire_26 rfl ?_
          refine ev_aload_n dX6_retire_27 rfl ?_
          refine ev_acmp_eq 52 dX6_retire_28 (by decide) (Or.inr (by omega)) (Or.inr (by omega)) (fun c28 => absurd c28 hgo') (fun c28 => ?_)
          refine ev_aload_n dX6_retire_31 rfl ?_
          refine ev_getI dX6_retire_32 fX6_99 hKg ?_
          refine ev_aload_n dX6_retire_35 rfl ?_
          refine ev_getI dX6_retire_36 fX6_99 hKo ?_
          refine ev_iconstN 1 dX6_retire_39 (by decide) ?_
          refine ev_iadd (y := 1) dX6_retire_40 ?_
          refine ev_icmp_ne 66 dX6_retire_41 (by decide) (fun c41 => absurd hlv' c41) (fun c41 => ?_)
          refine ev_aload_n dX6_retire_44 rfl ?_
          refine ev_aload_n dX6_retire_45 rfl ?_
          refine ev_callV dX6_retire_46 okX5_meets inX5_meets seX5_meets mlX6_118 hKg (by decide) rfl [rV _] rfl rfl (Nat.le_of_ble_eq_true rfl) (Nat.le_of_ble_eq_true rfl) (sm) (fun r_ G_ h_ => ?_)
          obtain ⟨rfl, rfl⟩ := h_
          try dsimp only [Option.toList, List.cons_append, List.nil_append]
          refine ev_if_eq 66 dX6_retire_49 (by decide) (fun c49 => absurd c49 (by decide)) (fun c49 => ?_)
          exact kyes hs
        | false =>
          have hs : selB I0 J fi la o g = false := by unfold selB; rw [decide_eq_false hgo, hmt, Bool.and_false]; rfl
          rw [show decide (¬ J 3 (la g) < J 3 (fi o) ∧ ¬ J 3 (la o) < J 3 (fi g)) = false from hmt] at sm
          refine ev_iload_n dX6_retire_10 rfl ?_
          refine ev_if_ltN 72 dX6_retire_11 (by decide) (by omega) ?_
          refine ev_aload_n dX6_retire_14 rfl ?_
          refine ev_getR dX6_retire_15 fX6_20 hC.K_st hC.R_al ?_
          refine ev_iload_n dX6_retire_18 rfl ?_
          refine ev_callV dX6_retire_19 okJx4a65c_get_915e3 inJx4a65c_get_915e3 seJx4a65c_get_915e3 mlX6_95 hC.K_al (by decide) rfl [iV _] rfl rfl (Nat.le_of_ble_eq_true rfl) (Nat.le_of_ble_eq_true rfl) (sg) (fun r_ G_ h_ => ?_)
          obtain ⟨rfl, rfl⟩ := h_
          try dsimp only [Option.toList, List.cons_append, List.nil_append]
          refine ev_cast (q := 5) dX6_retire_22 clX6_76 (by decide) hKg ?_
          refine ev_astore_nS dX6_retire_25 (by decide) rfl ?_
          refine ev_aload_n dX6_retire_26 rfl ?_
          refine ev_aload_n dX6_retire_27 rfl ?_
          refine ev_acmp_eq 52 dX6_retire_28 (by decide) (Or.inr (by omega)) (Or.inr (by omega)) (fun c28 => absurd c28 hgo') (fun c28 => ?_)
          refine ev_aload_n dX6_retire_31 rfl ?_
          refine ev_getI dX6_retire_32 fX6_99 hKg ?_
          refine ev_aload_n dX6_retire_35 rfl ?_
          refine ev_getI dX6_retire_36 fX6_99 hKo ?_
          refine ev_iconstN 1 dX6_retire_39 (by decide) ?_
          refine ev_iadd (y := 1) dX6_retire_40 ?_
          refine ev_icmp_ne 66 dX6_retire_41 (by decide) (fun c41 => absurd hlv' c41) (fun c41 => ?_)
          refine ev_aload_n dX6_retire_44 rfl ?_
          refine ev_aload_n dX6_retire_45 rfl ?_
          refine ev_callV dX6_retire_46 okX5_meets inX5_meets seX5_meets mlX6_118 hKg (by decide) rfl [rV _] rfl rfl (Nat.le_of_ble_eq_true rfl) (Nat.le_of_ble_eq_true rfl) (sm) (fun r_ G_ h_ => ?_)
          obtain ⟨rfl, rfl⟩ := h_
          try dsimp only [Option.toList, List.cons_append, List.nil_append]
          refine ev_if_eq 66 dX6_retire_49 (by decide) (fun c49 => ?_) (fun c49 => absurd c49 (fun z => z rfl))
          refine ev_iincS dX6_retire_66 rfl (by decide) rfl ?_
          refine ev_goto 10 dX6_retire_69 (by decide) ?_
          exact kno hs _
      · have hlv' : ¬ I 321 g = I 321 o + nI 1 := by rw [hIg, hIo]; exact hlv
        have hs : selB I0 J fi la o g = false := by unfold selB; rw [decide_eq_false hgo, decide_eq_false hlv]; rfl
        refine ev_iload_n dX6_retire_10 rfl ?_
        refine ev_if_ltN 72 dX6_retire_11 (by decide) (by omega) ?_
        refine ev_aload_n dX6_retire_14 rfl ?_
        refine ev_getR dX6_retire_15 fX6_20 hC.K_st hC.R_al ?_
        refine ev_iload_n dX6_retire_18 rfl ?_
        refine ev_callV dX6_retire_19 okJx4a65c_get_915e3 inJx4a65c_get_915e3 seJx4a65c_get_915e3 mlX6_95 hC.K_al (by decide) rfl [iV _] rfl rfl (Nat.le_of_ble_eq_true rfl) (Nat.le_of_ble_eq_true rfl) (sg) (fun r_ G_ h_ => ?_)
        obtain ⟨rfl, rfl⟩ := h_
        try dsimp only [Option.toList, List.cons_append, List.nil_append]
        refine ev_cast (q := 5) dX6_retire_22 clX6_76 (by decide) hKg ?_
        refine ev_astore_nS dX6_retire_25 (by decide) rfl ?_
        refine ev_aload_n dX6_retire_26 rfl ?_
        refine ev_aload_n dX6_retire_27 rfl ?_
        refine ev_acmp_eq 52 dX6_retire_28 (by decide) (Or.inr (by omega)) (Or.inr (by omega)) (fun c28 => absurd c28 hgo') (fun c28 => ?_)
        refine ev_aload_n dX6_retire_31 rfl ?_
        refine ev_getI dX6_retire_32 fX6_99 hKg ?_
        refine ev_aload_n dX6_retire_35 rfl ?_
        refine ev_getI dX6_retire_36 fX6_99 hKo ?_
        refine ev_iconstN 1 dX6_retire_39 (by decide) ?_
        refine ev_iadd (y := 1) dX6_retire_40 ?_
        refine ev_icmp_ne 66 dX6_retire_41 (by decide) (fun c41 => ?_) (fun c41 => absurd c41 hlv')
        refine ev_iincS dX6_retire_66 rfl (by decide) rfl ?_
        refine ev_goto 10 dX6_retire_69 (by decide) ?_
        exact kno hs _
theorem cs_retire (hC : CFix K R Ln) {a m o : Nat} {fs : List Nat} {fi la : Nat → Nat} (h : AlR K I R B Ln n a m fs) (hd : EdR K R fi la fs) (ho : o ∈ fs) : EvM X mX6_retire (d + 3) [rV (some 7), rV (some o)] (K, I, J, R, A, B, Ln, n, sl) (fun r G' => r = none ∧ ∃ I' B', AlR K I' R B' Ln n a m (fs.filter (fun g => !selB I J fi la o g)) ∧ RtI I I' (fs.filter (selB I J fi la o)) ∧ (∀ i, i ≠ a → B' i = B i) ∧ G' = (K, I', J, R, A, B', Ln, n, sl)) := by
  have h1 : 0 < fs.length := List.length_pos_of_mem ho
  have hKf : ∀ g ∈ fs, K g = 5 := fun g hg => by
    obtain ⟨j, hj, rfl⟩ := List.getElem_of_mem hg
    exact (h.arr hj).2.2.2
  have e1 : dI fs.length = nI (fs.length - 1) := by
    obtain ⟨k, hk⟩ : ∃ k, fs.length = k + 1 := ⟨fs.length - 1, by omega⟩
    rw [hk, dI_s]; rfl
  have go := lp_rt (X := X) (d := d) (J := J) (A := A) (sl := sl) (Q := fun r G' => r = none ∧ ∃ I' B', AlR K I' R B' Ln n a m (fs.filter (fun g => !selB I J fi la o g)) ∧ RtI I I' (fs.filter (selB I J fi la o)) ∧ (∀ i, i ≠ a → B' i = B i) ∧ G' = (K, I', J, R, A, B', Ln, n, sl)) hC hd ho hKf (fun I' B' q1 q2 q3 => ⟨rfl, I', B', q1, q2, q3, rfl⟩) fs.length fs [] I B none rfl (by simp) (by simpa using h) (fun f i _ => by simp) (fun _ _ => rfl)
  rw [e1] at go
  show Ev X mX6_retire (d + 3) 0 [some (rV (some 7)), some (rV (some o)), none, none] [] (K, I, J, R, A, B, Ln, n, sl) _
  refine ev_aload_n dX6_retire_0 rfl ?_
  refine ev_getR dX6_retire_1 fX6_20 hC.K_st hC.R_al ?_
  refine ev_callV dX6_retire_4 okJx4a65c_size_8abf5 inJx4a65c_size_8abf5 seJx4a65c_size_8abf5 mlX6_91 hC.K_al (by decide) rfl [] rfl rfl (Nat.le_of_ble_eq_true rfl) (Nat.le_of_ble_eq_true rfl) (cs_size hC.K_al h) (fun r_ G_ h_ => ?_)
  obtain ⟨rfl, rfl⟩ := h_
  try dsimp only [Option.toList, List.cons_append, List.nil_append]
  refine ev_iconstN 1 dX6_retire_7 (by decide) ?_
  refine ev_isubN dX6_retire_8 (by omega) ?_
  refine ev_istore_nS dX6_retire_9 (by decide) rfl ?_
  exact go
end C77
