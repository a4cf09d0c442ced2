section M13
variable {X : CX} {d : Nat} {K : Nat → Nat} {I : Nat → Nat → Int32} {J : Nat → Nat → Int64} {R : Nat → Nat → Option Nat} {A : Nat → Nat → Int32} {B : Nat → Nat → Option Nat} {Ln : Nat → Nat} {n sl : Nat}
/-- what the conjuncts of a query say, by its parts; f: how deep -/
def HearR (ie : EX) : Nat → EX → SP → SP → Prop
  | 0, _, _, _ => False
  | f + 1, c, st, st' => (∃ c1 c2 v, c = c1 ++ c2 ++ [(9, v)] ∧ TreeE c1 ∧ TreeE c2 ∧ ∃ s1, HearR ie f c1 st s1 ∧ HearR ie f c2 s1 st') ∨ (∃ s1 s2 o v, (o = 7 ∨ o = 8) ∧ c = s1 ++ s2 ++ [(o, v)] ∧ TreeE s1 ∧ TreeE s2 ∧ st' = cnj2 ie o s1 s2 (cnj1 ie o s1 s2 st)) ∨ (∃ p o v, c = p ++ [(o, v)] ∧ ¬ (o = 7 ∨ o = 8 ∨ o = 9) ∧ st' = st)
theorem HearR.mono {ie : EX} : ∀ {f : Nat} {c : EX} {st st' : SP}, HearR ie f c st st' → HearR ie (f + 1) c st st'
  | 0, _, _, _, h => h.elim
  | f + 1, c, st, st', h => by
    rcases h with ⟨c1, c2, v, e, t1, t2, s1, h1, h2⟩ | h | h
    · exact Or.inl ⟨c1, c2, v, e, t1, t2, s1, h1.mono, h2.mono⟩
    · exact Or.inr (Or.inl h)
    · exact Or.inr (Or.inr h)
theorem HearR.le {ie : EX} {f g : Nat} {c : EX} {st st' : SP} (h : HearR ie f c st st') (hfg : f ≤ g) : HearR ie g c st st' := by
  induction hfg with
  | refl => exact h
  | step _ ih => exact ih.mono
def Hear (ie c : EX) (st st' : SP) : Prop := ∃ f, HearR ie f c st st'
theorem Hear.and {ie c1 c2 : EX} {v : Int32} {st s1 st' : SP} (t1 : TreeE c1) (t2 : TreeE c2) (h1 : Hear ie c1 st s1) (h2 : Hear ie c2 s1 st') : Hear ie (c1 ++ c2 ++ [(9, v)]) st st' := by
  obtain ⟨f, h1⟩ := h1
  obtain ⟨g, h2⟩ := h2
  exact ⟨max f g + 1, Or.inl ⟨c1, c2, v, rfl, t1, t2, s1, h1.le (Nat.le_max_left f g), h2.le (Nat.le_max_right f g)⟩⟩
theorem Hear.cmp {ie s1 s2 : EX} {o : Nat} {v : Int32} {st : SP} (ho : o = 7 ∨ o = 8) (t1 : TreeE s1) (t2 : TreeE s2) : Hear ie (s1 ++ s2 ++ [(o, v)]) st (cnj2 ie o s1 s2 (cnj1 ie o s1 s2 st)) := ⟨1, Or.inr (Or.inl ⟨s1, s2, o, v, ho, rfl, t1, t2, rfl⟩)⟩
theorem Hear.other {ie p : EX} {o : Nat} {v : Int32} {st : SP} (ho : ¬ (o = 7 ∨ o = 8 ∨ o = 9)) : Hear ie (p ++ [(o, v)]) st st := ⟨1, Or.inr (Or.inr ⟨p, o, v, rfl, ho, rfl⟩)⟩
def PendR (ie : EX) : List (EX × EX) → SP → SP → Prop
  | [], st, st' => st' = st
  | q :: P, st, st' => ∃ s1, Hear ie q.2 st s1 ∧ PendR ie P s1 st'
def endP (q : EX × EX) : Int32 := nI (q.1.length + q.2.length - 1)
def PendOk (ex : EX) (P : List (EX × EX)) : Prop := ∀ q ∈ P, TreeE q.2 ∧ ∃ suf, ex = q.1 ++ q.2 ++ suf
def lenP : List (EX × EX) → Nat
  | [] => 0
  | q :: P => q.2.length + lenP P
theorem lenP_ge {ex : EX} : ∀ {P : List (EX × EX)}, PendOk ex P → P.length ≤ lenP P
  | [], _ => Nat.le_refl 0
  | q :: P, h => by
    have h1 := lenP_ge (P := P) (fun z hz => h z (List.mem_cons_of_mem _ hz))
    have h2 : 0 < q.2.length := List.length_pos_iff.mpr (tree_ne (h q List.mem_cons_self).1)
    show P.length + 1 ≤ q.2.length + lenP P
    omega
theorem ExA.same {A A1 : Nat → Nat → Int32} {x : Nat} {ex : EX} (h : ExA A x ex) (hA : ∀ i, i ≠ 30 → A1 i = A i) : ExA A1 x ex := by
  obtain ⟨h1, h2, h3⟩ := h
  refine ⟨by rw [hA 12 (by decide)]; exact h1, h2, fun k on hk => ?_⟩
  rw [hA 13 (by decide), hA 14 (by decide)]
  exact h3 k on hk
set_option maxRecDepth 100000 in
set_option maxHeartbeats 4000000 in
theorem lp_conjs {Q : Option LV → GH → Prop} (hM : MFix K R Ln) {x i : Nat} {ex ie : EX} (hx : x < 11) (hi : i < 3) (hE : ExA A x ex) (hI : ExA A (8 + i) ie) (hIe : TreeE ie) {I0 : Nat → Nat → Int32} {J0 : Nat → Nat → Int64} : ∀ (f : Nat) (P : List (EX × EX)) (A' : Nat → Nat → Int32) (I : Nat → Nat → Int32) (J : Nat → Nat → Int64) (st : SP) (w4 : Option LV), lenP P ≤ f → f ≤ 15 → PendOk ex P → (∀ i, i ≠ 30 → A' i = A i) → StkA A' (P.map endP) → Cj I0 J0 I J st → (∀ st' I1 J1 A1, PendR ie P st st' → Cj I0 J0 I1 J1 st' → (∀ i, i ≠ 30 → A1 i = A i) → Q none (K, I1, J1, R, A1, B, Ln, n, sl)) → Ev X mX9_conjuncts (d + 3) 35 [some (rV (some 11)), some (iV (nI x)), some (iV (nI i)), some (iV (nI (P.length))), w4] [] (K, I, J, R, A', B, Ln, n, sl) Q := by
  have h15 := hE.2.1
  intro f
  induction f with
  | zero =>
    intro P A' I J st w4 hl hf hP hA hs hc hq
    cases P with
    | nil =>
      show Ev X mX9_conjuncts (d + 3) 35 [some (rV (some 11)), some (iV (nI x)), some (iV (nI i)), some (iV (nI (0))), w4] [] (K, I, J, R, A', B, Ln, n, sl) Q
      refine ev_iload_n dX9_conjuncts_35 rfl ?_
      refine ev_if_leN 113 dX9_conjuncts_36 (by decide) (by omega) (fun c36 => ?_) (fun c36 => absurd c36 (by decide))
      refine ev_return dX9_conjuncts_113 rfl ?_
      exact hq st I J A' rfl hc hA
    | cons q P =>
      have := lenP_ge hP
      simp at this
      omega
  | succ f ih =>
    intro P A' I J st w4 hl hf hP hA hs hc hq
    cases P with
    | nil =>
      show Ev X mX9_conjuncts (d + 3) 35 [some (rV (some 11)), some (iV (nI x)), some (iV (nI i)), some (iV (nI (0))), w4] [] (K, I, J, R, A', B, Ln, n, sl) Q
      refine ev_iload_n dX9_conjuncts_35 rfl ?_
      refine ev_if_leN 113 dX9_conjuncts_36 (by decide) (by omega) (fun c36 => ?_) (fun c36 => absurd c36 (by decide))
      refine ev_return dX9_conjuncts_113 rfl ?_
      exact hq st I J A' rfl hc hA
    | cons q P =>
      obtain ⟨pre, c⟩ := q
      have hge := lenP_ge hP
      simp only [List.length_cons] at hge
      obtain ⟨ht, suf, hex⟩ := hP (pre, c) List.mem_cons_self
      dsimp only at ht hex
      obtain ⟨q, on, hqc, h12, hnm, hcs⟩ := tree_cases ht
      obtain ⟨o, v⟩ := on
      dsimp only at h12 hnm hcs
      subst hqc
      have hlx : ex.length = pre.length + (q.length + 1) + suf.length := by rw [hex]; simp; omega
      have hlp : lenP ((pre, q ++ [(o, v)]) :: P) = q.length + 1 + lenP P := by show (q ++ [(o, v)]).length + lenP P = _; simp
      have hPok : PendOk ex P := fun z hz => hP z (List.mem_cons_of_mem _ hz)
      have hE' := hE.same hA
      have hI' := hI.same hA
      have g := hE'.2.2 (pre.length + q.length) (o, v) (by rw [hex]; simp)
      have htop : A' 30 P.length = nI (pre.length + q.length) := by
        have := hs.top
        rw [List.length_map] at this
        rw [this]
        show nI (pre.length + (q ++ [(o, v)]).length - 1) = _
        rw [List.length_append, List.length_singleton]
        exact congrArg nI (by omega)
      have hsp := hs.pop
      show Ev X mX9_conjuncts (d + 3) 35 [some (rV (some 11)), some (iV (nI x)), some (iV (nI i)), some (iV (nI (P.length + 1))), w4] [] (K, I, J, R, A', B, Ln, n, sl) Q
      by_cases h9 : o = 9
      · subst h9
        rcases hcs with ⟨hz, -⟩ | ⟨hz, -⟩ | ⟨-, c1, c2, rfl, t1, t2⟩
        · exact absurd hz (by decide)
        · exact absurd hz (by decide)
        · have l1 : 0 < c1.length := List.length_pos_iff.mpr (tree_ne t1)
          have l2 : 0 < c2.length := List.length_pos_iff.mpr (tree_ne t2)
          rw [List.length_append] at hlx hlp g htop
          have hE2 : ExA (u2 A' 30 P.length (nI (pre.length + (c1.length + c2.length) - 1))) x ex := hE.same (fun i hi => (u2_row' hi).trans (hA i hi))
          have hfrom := sp_from (X := X) (d := d + 1) (I := I) (J := J) (B := B) (n := n) (sl := sl) (pre := pre ++ c1) (sub := c2) (suf := [(9, v)] ++ suf) (nd := pre.length + (c1.length + c2.length) - 1) hM hx hE2 (by rw [hex]; simp) t2 (by rw [List.length_append]; omega)
          rw [List.length_append] at hfrom
          have hst2 : StkA (u2 (u2 A' 30 P.length (nI (pre.length + (c1.length + c2.length) - 1))) 30 (P.length + 1) (nI (pre.length + c1.length - 1))) (((pre, c1) :: (pre ++ c1, c2) :: P).map endP) := by
            have e1 : endP (pre ++ c1, c2) = nI (pre.length + (c1.length + c2.length) - 1) := by
              show nI ((pre ++ c1).length + c2.length - 1) = _
              rw [List.length_append, Nat.add_assoc]
            have e2 : endP (pre, c1) = nI (pre.length + c1.length - 1) := rfl
            have := (hsp.push (endP (pre ++ c1, c2))).push (endP (pre, c1))
            rw [e1, e2, List.length_cons, List.length_map] at this
            show StkA _ (endP (pre, c1) :: endP (pre ++ c1, c2) :: P.map endP)
            rw [e1, e2]
            exact this
          refine ev_iload_n dX9_conjuncts_35 rfl ?_
          refine ev_if_leN 113 dX9_conjuncts_36 (by decide) (by omega) (fun c36 => absurd c36 (by omega)) (fun c36 => ?_)
          refine ev_iincM _ dX9_conjuncts_39 rfl (by decide) (by decide) rfl ?_
          refine ev_aload_n dX9_conjuncts_42 rfl ?_
          refine ev_getR dX9_conjuncts_43 fX9_65 hM.m hM.R_numbers ?_
          refine ev_iload_n dX9_conjuncts_46 rfl ?_
          refine ev_ialdv dX9_conjuncts_47 hM.K_numbers hM.L_numbers (by decide) (by omega) htop ?_
          refine ev_istore _ dX9_conjuncts_48 (by decide) rfl ?_
          refine ev_aload_n dX9_conjuncts_50 rfl ?_
          refine ev_getR dX9_conjuncts_51 fX9_13 hM.m hM.R_op ?_
          refine ev_bipushN 15 dX9_conjuncts_54 (by decide) ?_
          refine ev_iload_n dX9_conjuncts_56 rfl ?_
          refine ev_imulN dX9_conjuncts_57 ?_
          refine ev_iload dX9_conjuncts_58 rfl ?_
          refine ev_iaddN dX9_conjuncts_60 ?_
          refine ev_ialdv dX9_conjuncts_61 hM.K_op hM.L_op (by decide) (by omega) g.1 ?_
          refine ev_bipushN 9 dX9_conjuncts_62 (by decide) ?_
          refine ev_icmp_neN 102 dX9_conjuncts_64 (by decide) (by omega) (by omega) (fun c64 => absurd c64 (fun z => z rfl)) (fun c64 => ?_)
          refine ev_aload_n dX9_conjuncts_67 rfl ?_
          refine ev_getR dX9_conjuncts_68 fX9_65 hM.m hM.R_numbers ?_
          refine ev_iload_n dX9_conjuncts_71 rfl ?_
          refine ev_iload dX9_conjuncts_72 rfl ?_
          refine ev_iconstN 1 dX9_conjuncts_74 (by decide) ?_
          refine ev_isubN dX9_conjuncts_75 (by omega) ?_
          refine ev_iast dX9_conjuncts_76 hM.K_numbers hM.L_numbers (by decide) (by omega) ?_
          refine ev_aload_n dX9_conjuncts_77 rfl ?_
          refine ev_getR dX9_conjuncts_78 fX9_65 hM.m hM.R_numbers ?_
          refine ev_iload_n dX9_conjuncts_81 rfl ?_
          refine ev_iconstN 1 dX9_conjuncts_82 (by decide) ?_
          refine ev_iaddN dX9_conjuncts_83 ?_
          refine ev_aload_n dX9_conjuncts_84 rfl ?_
          refine ev_iload_n dX9_conjuncts_85 rfl ?_
          refine ev_iload dX9_conjuncts_86 rfl ?_
          refine ev_iconstN 1 dX9_conjuncts_88 (by decide) ?_
          refine ev_isubN dX9_conjuncts_89 (by omega) ?_
          refine ev_callV dX9_conjuncts_90 okX9_from inX9_from seX9_from mlX9_220 hM.m (by decide) rfl [iV _, iV _] rfl rfl (Nat.le_of_ble_eq_true rfl) (Nat.le_of_ble_eq_true rfl) (hfrom) (fun r_ G_ h_ => ?_)
          obtain ⟨rfl, rfl⟩ := h_
          try dsimp only [Option.toList, List.cons_append, List.nil_append]
          refine ev_iconstN 1 dX9_conjuncts_93 (by decide) ?_
          refine ev_isubN dX9_conjuncts_94 (by omega) ?_
          refine ev_iast dX9_conjuncts_95 hM.K_numbers hM.L_numbers (by decide) (by omega) ?_
          refine ev_iincN (b := 2) _ dX9_conjuncts_96 rfl (by decide) (by decide) rfl ?_
          refine ev_goto 110 dX9_conjuncts_99 (by decide) ?_
          refine ev_goto 35 dX9_conjuncts_110 (by decide) ?_
          exact ih ((pre, c1) :: (pre ++ c1, c2) :: P) _ I J st _ (by show c1.length + (c2.length + lenP P) ≤ f; omega) (by omega) (fun z hz => by rcases List.mem_cons.mp hz with rfl | hz; exact ⟨t1, c2 ++ [(9, v)] ++ suf, by rw [hex]; simp⟩; rcases List.mem_cons.mp hz with rfl | hz; exact ⟨t2, [(9, v)] ++ suf, by rw [hex]; simp⟩; exact hPok z hz) (fun i hi => (u2_row' hi).trans ((u2_row' hi).trans (hA i hi))) hst2 hc (fun st' I1 J1 A1 hp h1 h2 => hq st' I1 J1 A1 (by obtain ⟨s1, a1, s2, a2, a3⟩ := hp; exact ⟨s2, a1.and t1 t2 a2, a3⟩) h1 h2)
      · by_cases h78 : o = 7 ∨ o = 8
        · obtain ⟨s1, s2, rfl, t1, t2⟩ : ∃ s1 s2, q = s1 ++ s2 ∧ TreeE s1 ∧ TreeE s2 := by
            rcases hcs with ⟨hz, -⟩ | ⟨hz, -⟩ | ⟨-, c1, c2, e, t1, t2⟩
            · rcases h78 with rfl | rfl <;> exact absurd hz (by decide)
            · rcases h78 with rfl | rfl <;> exact absurd hz (by decide)
            · exact ⟨c1, c2, e, t1, t2⟩
          have hcj := sp_conj (X := X) (d := d) (B := B) (n := n) (sl := sl) (b := pre.length + (s1 ++ s2).length) (o := o) (ex := ex) (pre := pre) (s1 := s1) (s2 := s2) (suf := suf) (v := v) hM hx hi h78 hE' hI' hIe (by rw [hex]; simp) t1 t2 (by rw [List.length_append]; omega) hc
          refine ev_iload_n dX9_conjuncts_35 rfl ?_
          refine ev_if_leN 113 dX9_conjuncts_36 (by decide) (by omega) (fun c36 => absurd c36 (by omega)) (fun c36 => ?_)
          refine ev_iincM _ dX9_conjuncts_39 rfl (by decide) (by decide) rfl ?_
          refine ev_aload_n dX9_conjuncts_42 rfl ?_
          refine ev_getR dX9_conjuncts_43 fX9_65 hM.m hM.R_numbers ?_
          refine ev_iload_n dX9_conjuncts_46 rfl ?_
          refine ev_ialdv dX9_conjuncts_47 hM.K_numbers hM.L_numbers (by decide) (by omega) htop ?_
          refine ev_istore _ dX9_conjuncts_48 (by decide) rfl ?_
          refine ev_aload_n dX9_conjuncts_50 rfl ?_
          refine ev_getR dX9_conjuncts_51 fX9_13 hM.m hM.R_op ?_
          refine ev_bipushN 15 dX9_conjuncts_54 (by decide) ?_
          refine ev_iload_n dX9_conjuncts_56 rfl ?_
          refine ev_imulN dX9_conjuncts_57 ?_
          refine ev_iload dX9_conjuncts_58 rfl ?_
          refine ev_iaddN dX9_conjuncts_60 ?_
          refine ev_ialdv dX9_conjuncts_61 hM.K_op hM.L_op (by decide) (by omega) g.1 ?_
          refine ev_bipushN 9 dX9_conjuncts_62 (by decide) ?_
          refine ev_icmp_neN 102 dX9_conjuncts_64 (by decide) (by omega) (by omega) (fun c64 => ?_) (fun c64 => absurd c64 h9)
          refine ev_aload_n dX9_conjuncts_102 rfl ?_
          refine ev_iload_n dX9_conjuncts_103 rfl ?_
          refine ev_iload dX9_conjuncts_104 rfl ?_
          refine ev_iload_n dX9_conjuncts_106 rfl ?_
          refine ev_callV dX9_conjuncts_107 okX9_conjunct inX9_conjunct seX9_conjunct mlX9_235 hM.m (by decide) rfl [iV _, iV _, iV _] rfl rfl (Nat.le_of_ble_eq_true rfl) (Nat.le_of_ble_eq_true rfl) (hcj) (fun r_ G_ h_ => ?_)
          obtain ⟨rfl, I1, J1, rfl, hc1⟩ := h_
          try dsimp only [Option.toList, List.cons_append, List.nil_append]
          refine ev_goto 35 dX9_conjuncts_110 (by decide) ?_
          exact ih P _ I1 J1 _ _ (by omega) (by omega) hPok hA hsp hc1 (fun st' I2 J2 A2 hp h1 h2 => hq st' I2 J2 A2 ⟨_, Hear.cmp h78 t1 t2, hp⟩ h1 h2)
        · have hcj := sp_conj_other (X := X) (d := d + 2) (I := I) (J := J) (B := B) (n := n) (sl := sl) (b := pre.length + q.length) (o := o) (ex := ex) (v := v) hM hx hi hE' (by rw [hex]; simp) h78 h12
          refine ev_iload_n dX9_conjuncts_35 rfl ?_
          refine ev_if_leN 113 dX9_conjuncts_36 (by decide) (by omega) (fun c36 => absurd c36 (by omega)) (fun c36 => ?_)
          refine ev_iincM _ dX9_conjuncts_39 rfl (by decide) (by decide) rfl ?_
          refine ev_aload_n dX9_conjuncts_42 rfl ?_
          refine ev_getR dX9_conjuncts_43 fX9_65 hM.m hM.R_numbers ?_
          refine ev_iload_n dX9_conjuncts_46 rfl ?_
          refine ev_ialdv dX9_conjuncts_47 hM.K_numbers hM.L_numbers (by decide) (by omega) htop ?_
          refine ev_istore _ dX9_conjuncts_48 (by decide) rfl ?_
          refine ev_aload_n dX9_conjuncts_50 rfl ?_
          refine ev_getR dX9_conjuncts_51 fX9_13 hM.m hM.R_op ?_
          refine ev_bipushN 15 dX9_conjuncts_54 (by decide) ?_
          refine ev_iload_n dX9_conjuncts_56 rfl ?_
          refine ev_imulN dX9_conjuncts_57 ?_
          refine ev_iload dX9_conjuncts_58 rfl ?_
          refine ev_iaddN dX9_conjuncts_60 ?_
          refine ev_ialdv dX9_conjuncts_61 hM.K_op hM.L_op (by decide) (by omega) g.1 ?_
          refine ev_bipushN 9 dX9_conjuncts_62 (by decide) ?_
          refine ev_icmp_neN 102 dX9_conjuncts_64 (by decide) (by omega) (by omega) (fun c64 => ?_) (fun c64 => absurd c64 h9)
          refine ev_aload_n dX9_conjuncts_102 rfl ?_
          refine ev_iload_n dX9_conjuncts_103 rfl ?_
          refine ev_iload dX9_conjuncts_104 rfl ?_
          refine ev_iload_n dX9_conjuncts_106 rfl ?_
          refine ev_callV dX9_conjuncts_107 okX9_conjunct inX9_conjunct seX9_conjunct mlX9_235 hM.m (by decide) rfl [iV _, iV _, iV _] rfl rfl (Nat.le_of_ble_eq_true rfl) (Nat.le_of_ble_eq_true rfl) (hcj) (fun r_ G_ h_ => ?_)
          obtain ⟨rfl, rfl⟩ := h_
          try dsimp only [Option.toList, List.cons_append, List.nil_append]
          refine ev_goto 35 dX9_conjuncts_110 (by decide) ?_
          exact ih P _ I J _ _ (by omega) (by omega) hPok hA hsp hc (fun st' I2 J2 A2 hp h1 h2 => hq st' I2 J2 A2 ⟨_, Hear.other (by omega), hp⟩ h1 h2)
end M13
