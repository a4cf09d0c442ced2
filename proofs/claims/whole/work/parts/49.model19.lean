section M19
variable {X : CX} {d : Nat} {K : Nat → Nat} {I : Nat → Nat → Int32} {J : Nat → Nat → Int64} {R : Nat → Nat → Option Nat} {A : Nat → Nat → Int32} {B : Nat → Nat → Option Nat} {Ln : Nat → Nat} {n sl : Nat}
/-- what a merge does to the entries of a row in order: their new files (or -1), how many files, how many go -/
def mgF (pl : Nat → Nat → Int32) (sp lv : Nat → Int32) (h : Int32) (two : Bool) (md : Nat) : List Nat → Option Nat → Bool → Option Nat → Nat → Nat → List (Nat × Int32) × Nat × Nat
  | [], _, _, _, _, c => ([], c, 0)
  | e :: r, pv, ps, fm, ins, c =>
    if (((pv.any (fun a => decide (pl a e = 0)) && ps) || (decide (sp e ≤ h) && decide (lv e = 0) && two)) = true) then
      ((e, -1) :: (mgF pl sp lv h two md r (some e) ((pv.any (fun a => decide (pl a e = 0)) && ps) || decide (sp e ≤ h)) fm ins c).1, (mgF pl sp lv h two md r (some e) ((pv.any (fun a => decide (pl a e = 0)) && ps) || decide (sp e ≤ h)) fm ins c).2.1, (mgF pl sp lv h two md r (some e) ((pv.any (fun a => decide (pl a e = 0)) && ps) || decide (sp e ≤ h)) fm ins c).2.2 + 1)
    else if (fm.all (fun a => decide (12 ≤ ins) && decide (¬ pl a e = 0)) = true) then
      ((e, nI (md + (c + 1))) :: (mgF pl sp lv h two md r (some e) ((pv.any (fun a => decide (pl a e = 0)) && ps) || decide (sp e ≤ h)) (some e) 1 (c + 1)).1, (mgF pl sp lv h two md r (some e) ((pv.any (fun a => decide (pl a e = 0)) && ps) || decide (sp e ≤ h)) (some e) 1 (c + 1)).2)
    else
      ((e, nI (md + c)) :: (mgF pl sp lv h two md r (some e) ((pv.any (fun a => decide (pl a e = 0)) && ps) || decide (sp e ≤ h)) (some e) (ins + 1) c).1, (mgF pl sp lv h two md r (some e) ((pv.any (fun a => decide (pl a e = 0)) && ps) || decide (sp e ≤ h)) (some e) (ins + 1) c).2)
/-- the heap in the midst of a merge: c new files, the assignments done -/
def MgH (I0 : Nat → Nat → Int32) (A0 I A : Nat → Nat → Int32) (fn md : Nat) (to : Int32) (asg : List (Nat × Int32)) (c : Nat) : Prop := (∀ i, i ∉ [22, 23, 24] → A i = A0 i) ∧ A 22 = asg.foldl (fun f p => va_up f p.1 p.2) (A0 22) ∧ (∀ j, j < fn → A 23 j = A0 23 j ∧ A 24 j = A0 24 j) ∧ (∀ i, i < c → A 23 (fn + i) = nI (md + (i + 1)) ∧ A 24 (fn + i) = to) ∧ I 593 11 = nI (md + c) ∧ I 590 11 = nI (fn + c) ∧ ∀ f i, ¬ (i = 11 ∧ (f = 593 ∨ f = 590)) → I f i = I0 f i
theorem MgH.put {I0 A0 I A : Nat → Nat → Int32} {fn md c e : Nat} {to v : Int32} {asg : List (Nat × Int32)} (h : MgH I0 A0 I A fn md to asg c) : MgH I0 A0 I (u2 A 22 e v) fn md to (asg ++ [(e, v)]) c := by
  obtain ⟨h1, h2, h3, h4, h5, h6, h7⟩ := h
  refine ⟨fun i hi => ?_, ?_, fun j hj => ?_, fun i hi => ?_, h5, h6, h7⟩
  · rw [u2_row' (fun z => hi (by rw [z]; decide))]
    exact h1 i hi
  · rw [u2_row, h2, List.foldl_append]
    rfl
  · rw [u2_ne1 (by decide), u2_ne1 (by decide)]
    exact h3 j hj
  · rw [u2_ne1 (by decide), u2_ne1 (by decide)]
    exact h4 i hi
theorem MgH.file {I0 A0 I A : Nat → Nat → Int32} {fn md c : Nat} {to : Int32} {asg : List (Nat × Int32)} (h : MgH I0 A0 I A fn md to asg c) : MgH I0 A0 (u2 (u2 I 593 11 (nI (md + c + 1))) 590 11 (nI (fn + c + 1))) (u2 (u2 A 23 (fn + c) (nI (md + c + 1))) 24 (fn + c) to) fn md to asg (c + 1) := by
  obtain ⟨h1, h2, h3, h4, h5, h6, h7⟩ := h
  refine ⟨fun i hi => ?_, ?_, fun j hj => ?_, fun i hi => ?_, ?_, u2_self, fun f i hf => ?_⟩
  · rw [u2_row' (fun z => hi (by rw [z]; decide)), u2_row' (fun z => hi (by rw [z]; decide))]
    exact h1 i hi
  · rw [u2_row' (by decide), u2_row' (by decide)]
    exact h2
  · rw [u2_ne1 (by decide), u2_ne2 (by omega), u2_ne2 (by omega), u2_ne1 (by decide)]
    exact h3 j hj
  · by_cases e : i = c
    · subst e
      rw [u2_ne1 (by decide), u2_self, u2_self]
      exact ⟨rfl, rfl⟩
    · rw [u2_ne1 (by decide), u2_ne2 (by omega), u2_ne2 (by omega), u2_ne1 (by decide)]
      exact h4 i (by omega)
  · rw [u2_ne1 (by decide), u2_self]
    rfl
  · rw [show ∀ g : Nat → Nat → Int32, u2 g 590 11 (nI (fn + c + 1)) f i = g f i from fun g => if_neg (fun z => hf ⟨z.2, Or.inr z.1⟩), show ∀ g : Nat → Nat → Int32, u2 g 593 11 (nI (md + c + 1)) f i = g f i from fun g => if_neg (fun z => hf ⟨z.2, Or.inl z.1⟩)]
    exact h7 f i hf
set_option maxRecDepth 100000 in
set_option maxHeartbeats 4000000 in
theorem mg_A {Q : Option LV → GH → Prop} (hM : MFix K R Ln) {to h : Int32} {out ins k e : Nat} {fm : Option Nat} {ps : Bool} {lr pre r : List Nat} (hO : OrdA A lr) (hk : lr.reverse = pre ++ e :: r) (hkl : pre.length = k) (hlt : ∀ y ∈ lr, y < 520) (hll : lr.length ≤ 520) {w8 w9 w10 : Option LV} (kont : Ev X mX9_merge (d + 1) 67 [some (rV (some 11)), some (iV to), some (iV h), some (iV (nI out)), some (iV (nI ins)), some (iV (oI fm)), some (iV (bZ ps)), some (iV (nI k)), some (iV (nI e)), some (iV (bZ (pre.getLast?.any (fun a => decide (plI (A 16) (A 17) (A 18) a e = 0))))), w10] [] (K, I, J, R, A, B, Ln, n, sl) Q) : Ev X mX9_merge (d + 1) 28 [some (rV (some 11)), some (iV to), some (iV h), some (iV (nI out)), some (iV (nI ins)), some (iV (oI fm)), some (iV (bZ ps)), some (iV (nI k)), w8, w9, w10] [] (K, I, J, R, A, B, Ln, n, sl) Q := by
  have he : e < 520 := hlt e (by rw [← List.mem_reverse, hk]; simp)
  have hrl : lr.reverse.length = pre.length + (r.length + 1) := by rw [hk]; simp
  rw [List.length_reverse] at hrl
  have hoe : A 32 k = nI e := hO k e (by rw [hk, List.getElem?_append_right (by omega), hkl, Nat.sub_self]; rfl)
  cases hp : pre.getLast? with
  | none =>
    have hpn : pre = [] := List.getLast?_eq_none_iff.mp hp
    subst hpn
    have hk0 : k = 0 := by rw [← hkl]; rfl
    rw [hp] at kont
    subst hk0
    change Ev X mX9_merge (d + 1) 67 [some (rV (some 11)), some (iV to), some (iV h), some (iV (nI out)), some (iV (nI ins)), some (iV (oI fm)), some (iV (bZ ps)), some (iV (nI 0)), some (iV (nI e)), some (iV (nI 0)), w10] [] (K, I, J, R, A, B, Ln, n, sl) Q at kont
    refine ev_aload_n dX9_merge_28 rfl ?_
    refine ev_getR dX9_merge_29 fX9_75 hM.m hM.R_order ?_
    refine ev_iload dX9_merge_32 rfl ?_
    refine ev_ialdv dX9_merge_34 hM.K_order hM.L_order (by decide) (by omega) hoe ?_
    refine ev_istoreS dX9_merge_35 (by decide) rfl ?_
    refine ev_iload dX9_merge_37 rfl ?_
    refine ev_if_leN 64 dX9_merge_39 (by decide) (by omega) (fun c39 => ?_) (fun c39 => absurd c39 (by decide))
    refine ev_iconstN 0 dX9_merge_64 (by decide) ?_
    refine ev_istoreS dX9_merge_65 (by decide) rfl ?_
    exact kont
  | some a =>
    obtain ⟨q, hq⟩ : ∃ q, pre = q ++ [a] := List.getLast?_eq_some_iff.mp hp
    have hql : q.length + 1 = k := by rw [← hkl, hq]; simp
    have ha : a < 520 := hlt a (by rw [← List.mem_reverse, hk, hq]; simp)
    have hoa : A 32 (k - 1) = nI a := hO (k - 1) a (by rw [hk, hq, List.append_assoc, List.getElem?_append_right (by omega), show k - 1 - q.length = 0 by omega]; rfl)
    rw [hp] at kont
    change Ev X mX9_merge (d + 1) 67 [some (rV (some 11)), some (iV to), some (iV h), some (iV (nI out)), some (iV (nI ins)), some (iV (oI fm)), some (iV (bZ ps)), some (iV (nI k)), some (iV (nI e)), some (iV (bZ (decide (plI (A 16) (A 17) (A 18) a e = 0)))), w10] [] (K, I, J, R, A, B, Ln, n, sl) Q at kont
    refine ev_aload_n dX9_merge_28 rfl ?_
    refine ev_getR dX9_merge_29 fX9_75 hM.m hM.R_order ?_
    refine ev_iload dX9_merge_32 rfl ?_
    refine ev_ialdv dX9_merge_34 hM.K_order hM.L_order (by decide) (by omega) hoe ?_
    refine ev_istoreS dX9_merge_35 (by decide) rfl ?_
    refine ev_iload dX9_merge_37 rfl ?_
    refine ev_if_leN 64 dX9_merge_39 (by decide) (by omega) (fun c39 => absurd c39 (by omega)) (fun c39 => ?_)
    refine ev_aload_n dX9_merge_42 rfl ?_
    refine ev_aload_n dX9_merge_43 rfl ?_
    refine ev_getR dX9_merge_44 fX9_75 hM.m hM.R_order ?_
    refine ev_iload dX9_merge_47 rfl ?_
    refine ev_iconstN 1 dX9_merge_49 (by decide) ?_
    refine ev_isubN dX9_merge_50 (by omega) ?_
    refine ev_ialdv dX9_merge_51 hM.K_order hM.L_order (by decide) (by omega) hoa ?_
    refine ev_iload dX9_merge_52 rfl ?_
    refine ev_callV dX9_merge_54 okX9_places inX9_places seX9_places mlX9_178 hM.m (by decide) rfl [iV _, iV _] rfl rfl (Nat.le_of_ble_eq_true rfl) (Nat.le_of_ble_eq_true rfl) (sp_places hM ha he) (fun r_ G_ h_ => ?_)
    obtain ⟨rfl, rfl⟩ := h_
    try dsimp only [Option.toList, List.cons_append, List.nil_append]
    refine ev_if_ne 64 dX9_merge_57 (by decide) (fun c57 => ?_) (fun c57 => ?_)
    · refine ev_iconstN 0 dX9_merge_64 (by decide) ?_
      refine ev_istoreS dX9_merge_65 (by decide) rfl ?_
      first | (rw [decide_eq_true c57] at kont; exact kont) | (rw [decide_eq_false c57] at kont; exact kont)
    · refine ev_iconstN 1 dX9_merge_60 (by decide) ?_
      refine ev_goto 65 dX9_merge_61 (by decide) ?_
      refine ev_istoreS dX9_merge_65 (by decide) rfl ?_
      first | (rw [decide_eq_true c57] at kont; exact kont) | (rw [decide_eq_false c57] at kont; exact kont)
set_option maxRecDepth 100000 in
set_option maxHeartbeats 4000000 in
theorem mg_B {Q : Option LV → GH → Prop} (hM : MFix K R Ln) {to h : Int32} {out ins k e : Nat} {fm : Option Nat} {ps sm : Bool} {w10 : Option LV} (kont : Ev X mX9_merge d 84 [some (rV (some 11)), some (iV to), some (iV h), some (iV (nI out)), some (iV (nI ins)), some (iV (oI fm)), some (iV (bZ (sm && ps))), some (iV (nI k)), some (iV (nI e)), some (iV (bZ sm)), w10] [] (K, I, J, R, A, B, Ln, n, sl) Q) : Ev X mX9_merge d 67 [some (rV (some 11)), some (iV to), some (iV h), some (iV (nI out)), some (iV (nI ins)), some (iV (oI fm)), some (iV (bZ ps)), some (iV (nI k)), some (iV (nI e)), some (iV (bZ sm)), w10] [] (K, I, J, R, A, B, Ln, n, sl) Q := by
  cases sm <;> cases ps
  · show Ev X mX9_merge d 67 [some (rV (some 11)), some (iV to), some (iV h), some (iV (nI out)), some (iV (nI ins)), some (iV (oI fm)), some (iV (nI 0)), some (iV (nI k)), some (iV (nI e)), some (iV (nI 0)), w10] [] (K, I, J, R, A, B, Ln, n, sl) Q
    refine ev_iload dX9_merge_67 rfl ?_
    refine ev_if_eqN 81 dX9_merge_69 (by decide) (by omega) (fun c69 => ?_) (fun c69 => absurd c69 (by decide))
    refine ev_iconstN 0 dX9_merge_81 (by decide) ?_
    refine ev_istoreS dX9_merge_82 (by decide) rfl ?_
    exact kont
  · show Ev X mX9_merge d 67 [some (rV (some 11)), some (iV to), some (iV h), some (iV (nI out)), some (iV (nI ins)), some (iV (oI fm)), some (iV (nI 1)), some (iV (nI k)), some (iV (nI e)), some (iV (nI 0)), w10] [] (K, I, J, R, A, B, Ln, n, sl) Q
    refine ev_iload dX9_merge_67 rfl ?_
    refine ev_if_eqN 81 dX9_merge_69 (by decide) (by omega) (fun c69 => ?_) (fun c69 => absurd c69 (by decide))
    refine ev_iconstN 0 dX9_merge_81 (by decide) ?_
    refine ev_istoreS dX9_merge_82 (by decide) rfl ?_
    exact kont
  · show Ev X mX9_merge d 67 [some (rV (some 11)), some (iV to), some (iV h), some (iV (nI out)), some (iV (nI ins)), some (iV (oI fm)), some (iV (nI 0)), some (iV (nI k)), some (iV (nI e)), some (iV (nI 1)), w10] [] (K, I, J, R, A, B, Ln, n, sl) Q
    refine ev_iload dX9_merge_67 rfl ?_
    refine ev_if_eqN 81 dX9_merge_69 (by decide) (by omega) (fun c69 => absurd c69 (by decide)) (fun c69 => ?_)
    refine ev_iload dX9_merge_72 rfl ?_
    refine ev_if_eqN 81 dX9_merge_74 (by decide) (by omega) (fun c74 => ?_) (fun c74 => absurd c74 (by decide))
    refine ev_iconstN 0 dX9_merge_81 (by decide) ?_
    refine ev_istoreS dX9_merge_82 (by decide) rfl ?_
    exact kont
  · show Ev X mX9_merge d 67 [some (rV (some 11)), some (iV to), some (iV h), some (iV (nI out)), some (iV (nI ins)), some (iV (oI fm)), some (iV (nI 1)), some (iV (nI k)), some (iV (nI e)), some (iV (nI 1)), w10] [] (K, I, J, R, A, B, Ln, n, sl) Q
    refine ev_iload dX9_merge_67 rfl ?_
    refine ev_if_eqN 81 dX9_merge_69 (by decide) (by omega) (fun c69 => absurd c69 (by decide)) (fun c69 => ?_)
    refine ev_iload dX9_merge_72 rfl ?_
    refine ev_if_eqN 81 dX9_merge_74 (by decide) (by omega) (fun c74 => absurd c74 (by decide)) (fun c74 => ?_)
    refine ev_iconstN 1 dX9_merge_77 (by decide) ?_
    refine ev_goto 82 dX9_merge_78 (by decide) ?_
    refine ev_istoreS dX9_merge_82 (by decide) rfl ?_
    exact kont
set_option maxRecDepth 100000 in
set_option maxHeartbeats 4000000 in
theorem mg_C {Q : Option LV → GH → Prop} (hM : MFix K R Ln) {to h : Int32} {out ins k e : Nat} {fm : Option Nat} {ps sm : Bool} (he : e < 520) {w10 : Option LV} (kont : Ev X mX9_merge d 122 [some (rV (some 11)), some (iV to), some (iV h), some (iV (nI out)), some (iV (nI ins)), some (iV (oI fm)), some (iV (bZ ps)), some (iV (nI k)), some (iV (nI e)), some (iV (bZ sm)), some (iV (bZ (ps || (decide (A 19 e ≤ h) && decide (A 20 e = 0) && decide (to = 2)))))] [] (K, I, J, R, A, B, Ln, n, sl) Q) : Ev X mX9_merge d 84 [some (rV (some 11)), some (iV to), some (iV h), some (iV (nI out)), some (iV (nI ins)), some (iV (oI fm)), some (iV (bZ ps)), some (iV (nI k)), some (iV (nI e)), some (iV (bZ sm)), w10] [] (K, I, J, R, A, B, Ln, n, sl) Q := by
  have k2 : ∀ z : Nat, nI z = bZ (ps || (decide (A 19 e ≤ h) && decide (A 20 e = 0) && decide (to = 2))) → Ev X mX9_merge d 122 [some (rV (some 11)), some (iV to), some (iV h), some (iV (nI out)), some (iV (nI ins)), some (iV (oI fm)), some (iV (bZ ps)), some (iV (nI k)), some (iV (nI e)), some (iV (bZ sm)), some (iV (nI z))] [] (K, I, J, R, A, B, Ln, n, sl) Q := fun z hz => by rw [hz]; exact kont
  cases ps
  · show Ev X mX9_merge d 84 [some (rV (some 11)), some (iV to), some (iV h), some (iV (nI out)), some (iV (nI ins)), some (iV (oI fm)), some (iV (nI 0)), some (iV (nI k)), some (iV (nI e)), some (iV (bZ sm)), w10] [] (K, I, J, R, A, B, Ln, n, sl) Q
    refine ev_iload dX9_merge_84 rfl ?_
    refine ev_if_neN 115 dX9_merge_86 (by decide) (by omega) (fun c86 => absurd c86 (by decide)) (fun c86 => ?_)
    refine ev_aload_n dX9_merge_89 rfl ?_
    refine ev_getR dX9_merge_90 fX9_32 hM.m hM.R_stamp ?_
    refine ev_iload dX9_merge_93 rfl ?_
    refine ev_iald dX9_merge_95 hM.K_stamp hM.L_stamp (by decide) (by omega) ?_
    refine ev_iload_n dX9_merge_96 rfl ?_
    refine ev_icmp_gt 119 dX9_merge_97 (by decide) (fun c97 => ?_) (fun c97 => ?_)
    · refine ev_iconstN 0 dX9_merge_119 (by decide) ?_
      refine ev_istoreS dX9_merge_120 (by decide) rfl ?_
      try have z97 := Int32.not_lt.mpr c97
      try have y97 := Int32.not_le.mp c97
      try have x97 := Int32.not_le.mpr c97
      try have v97 := Int32.not_lt.mp c97
      first | exact k2 0 (by simp [bZ, nI_0, *]) | exact k2 1 (by simp [bZ, nI_one, *])
    · refine ev_aload_n dX9_merge_100 rfl ?_
      refine ev_getR dX9_merge_101 fX9_35 hM.m hM.R_live ?_
      refine ev_iload dX9_merge_104 rfl ?_
      refine ev_zald dX9_merge_106 hM.K_live hM.L_live (by decide) (by omega) ?_
      refine ev_if_ne 119 dX9_merge_107 (by decide) (fun c107 => ?_) (fun c107 => ?_)
      · refine ev_iconstN 0 dX9_merge_119 (by decide) ?_
        refine ev_istoreS dX9_merge_120 (by decide) rfl ?_
        try have z97 := Int32.not_lt.mpr c97
        try have y97 := Int32.not_le.mp c97
        try have x97 := Int32.not_le.mpr c97
        try have v97 := Int32.not_lt.mp c97
        first | exact k2 0 (by simp [bZ, nI_0, *]) | exact k2 1 (by simp [bZ, nI_one, *])
      · refine ev_iload_n dX9_merge_110 rfl ?_
        refine ev_iconstN 2 dX9_merge_111 (by decide) ?_
        refine ev_icmp_ne (y := 2) 119 dX9_merge_112 (by decide) (fun c112 => ?_) (fun c112 => ?_)
        · refine ev_iconstN 0 dX9_merge_119 (by decide) ?_
          refine ev_istoreS dX9_merge_120 (by decide) rfl ?_
          try have z97 := Int32.not_lt.mpr c97
          try have y97 := Int32.not_le.mp c97
          try have x97 := Int32.not_le.mpr c97
          try have v97 := Int32.not_lt.mp c97
          first | exact k2 0 (by simp [bZ, nI_0, *]) | exact k2 1 (by simp [bZ, nI_one, *])
        · refine ev_iconstN 1 dX9_merge_115 (by decide) ?_
          refine ev_goto 120 dX9_merge_116 (by decide) ?_
          refine ev_istoreS dX9_merge_120 (by decide) rfl ?_
          try have z97 := Int32.not_lt.mpr c97
          try have y97 := Int32.not_le.mp c97
          try have x97 := Int32.not_le.mpr c97
          try have v97 := Int32.not_lt.mp c97
          first | exact k2 0 (by simp [bZ, nI_0, *]) | exact k2 1 (by simp [bZ, nI_one, *])
  · show Ev X mX9_merge d 84 [some (rV (some 11)), some (iV to), some (iV h), some (iV (nI out)), some (iV (nI ins)), some (iV (oI fm)), some (iV (nI 1)), some (iV (nI k)), some (iV (nI e)), some (iV (bZ sm)), w10] [] (K, I, J, R, A, B, Ln, n, sl) Q
    refine ev_iload dX9_merge_84 rfl ?_
    refine ev_if_neN 115 dX9_merge_86 (by decide) (by omega) (fun c86 => ?_) (fun c86 => absurd c86 (by decide))
    refine ev_iconstN 1 dX9_merge_115 (by decide) ?_
    refine ev_goto 120 dX9_merge_116 (by decide) ?_
    refine ev_istoreS dX9_merge_120 (by decide) rfl ?_
    exact k2 1 rfl
set_option maxRecDepth 100000 in
set_option maxHeartbeats 4000000 in
theorem mg_D {Q : Option LV → GH → Prop} (hM : MFix K R Ln) {to h : Int32} {out ins k e : Nat} {fm : Option Nat} {ps sm nd : Bool} (he : e < 520) (kont : Ev X mX9_merge d 145 [some (rV (some 11)), some (iV to), some (iV h), some (iV (nI out)), some (iV (nI ins)), some (iV (oI fm)), some (iV (bZ (ps || decide (A 19 e ≤ h)))), some (iV (nI k)), some (iV (nI e)), some (iV (bZ sm)), some (iV (bZ nd))] [] (K, I, J, R, A, B, Ln, n, sl) Q) : Ev X mX9_merge d 122 [some (rV (some 11)), some (iV to), some (iV h), some (iV (nI out)), some (iV (nI ins)), some (iV (oI fm)), some (iV (bZ ps)), some (iV (nI k)), some (iV (nI e)), some (iV (bZ sm)), some (iV (bZ nd))] [] (K, I, J, R, A, B, Ln, n, sl) Q := by
  have k2 : ∀ z : Nat, nI z = bZ (ps || decide (A 19 e ≤ h)) → Ev X mX9_merge d 145 [some (rV (some 11)), some (iV to), some (iV h), some (iV (nI out)), some (iV (nI ins)), some (iV (oI fm)), some (iV (nI z)), some (iV (nI k)), some (iV (nI e)), some (iV (bZ sm)), some (iV (bZ nd))] [] (K, I, J, R, A, B, Ln, n, sl) Q := fun z hz => by rw [hz]; exact kont
  cases ps
  · show Ev X mX9_merge d 122 [some (rV (some 11)), some (iV to), some (iV h), some (iV (nI out)), some (iV (nI ins)), some (iV (oI fm)), some (iV (nI 0)), some (iV (nI k)), some (iV (nI e)), some (iV (bZ sm)), some (iV (bZ nd))] [] (K, I, J, R, A, B, Ln, n, sl) Q
    refine ev_iload dX9_merge_122 rfl ?_
    refine ev_if_neN 138 dX9_merge_124 (by decide) (by omega) (fun c124 => absurd c124 (by decide)) (fun c124 => ?_)
    refine ev_aload_n dX9_merge_127 rfl ?_
    refine ev_getR dX9_merge_128 fX9_32 hM.m hM.R_stamp ?_
    refine ev_iload dX9_merge_131 rfl ?_
    refine ev_iald dX9_merge_133 hM.K_stamp hM.L_stamp (by decide) (by omega) ?_
    refine ev_iload_n dX9_merge_134 rfl ?_
    refine ev_icmp_gt 142 dX9_merge_135 (by decide) (fun c135 => ?_) (fun c135 => ?_)
    · refine ev_iconstN 0 dX9_merge_142 (by decide) ?_
      refine ev_istoreS dX9_merge_143 (by decide) rfl ?_
      try have z135 := Int32.not_lt.mpr c135
      try have y135 := Int32.not_le.mp c135
      try have x135 := Int32.not_le.mpr c135
      try have v135 := Int32.not_lt.mp c135
      first | exact k2 0 (by simp [bZ, nI_0, *]) | exact k2 1 (by simp [bZ, nI_one, *])
    · refine ev_iconstN 1 dX9_merge_138 (by decide) ?_
      refine ev_goto 143 dX9_merge_139 (by decide) ?_
      refine ev_istoreS dX9_merge_143 (by decide) rfl ?_
      try have z135 := Int32.not_lt.mpr c135
      try have y135 := Int32.not_le.mp c135
      try have x135 := Int32.not_le.mpr c135
      try have v135 := Int32.not_lt.mp c135
      first | exact k2 0 (by simp [bZ, nI_0, *]) | exact k2 1 (by simp [bZ, nI_one, *])
  · show Ev X mX9_merge d 122 [some (rV (some 11)), some (iV to), some (iV h), some (iV (nI out)), some (iV (nI ins)), some (iV (oI fm)), some (iV (nI 1)), some (iV (nI k)), some (iV (nI e)), some (iV (bZ sm)), some (iV (bZ nd))] [] (K, I, J, R, A, B, Ln, n, sl) Q
    refine ev_iload dX9_merge_122 rfl ?_
    refine ev_if_neN 138 dX9_merge_124 (by decide) (by omega) (fun c124 => ?_) (fun c124 => absurd c124 (by decide))
    refine ev_iconstN 1 dX9_merge_138 (by decide) ?_
    refine ev_goto 143 dX9_merge_139 (by decide) ?_
    refine ev_istoreS dX9_merge_143 (by decide) rfl ?_
    exact k2 1 rfl
end M19
