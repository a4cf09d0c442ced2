section M14
variable {X : CX} {d : Nat} {K : Nat → Nat} {I : Nat → Nat → Int32} {J : Nat → Nat → Int64} {R : Nat → Nat → Option Nat} {A : Nat → Nat → Int32} {B : Nat → Nat → Option Nat} {Ln : Nat → Nat} {n sl : Nat}
set_option maxRecDepth 100000 in
set_option maxHeartbeats 4000000 in
theorem sp_conjs (hM : MFix K R Ln) {x i : Nat} {ex ie : EX} (hx : x < 11) (hi : i < 3) (hE : ExA A x ex) (ht : TreeE ex) (hI : ExA A (8 + i) ie) (hIe : TreeE ie) : EvM X mX9_conjuncts (d + 3) [rV (some 11), iV (nI x), iV (nI i)] (K, I, J, R, A, B, Ln, n, sl) (fun r G' => r = none ∧ ∃ st' I1 J1 A1, G' = (K, I1, J1, R, A1, B, Ln, n, sl) ∧ Hear ie ex (false, -2147483648, 2147483647) st' ∧ Cj I J I1 J1 st' ∧ ∀ i, i ≠ 30 → A1 i = A i) := by
  have h15 := hE.2.1
  have l0 : 0 < ex.length := List.length_pos_iff.mpr (tree_ne ht)
  have hcj : Cj I J (u2 I 608 11 (nI 0)) (u2 (u2 J 609 11 (-2147483648)) 610 11 2147483647) (false, -2147483648, 2147483647) := by
    refine ⟨⟨u2_self, ?_, u2_self⟩, fun f i hf => if_neg (fun z => hf ⟨z.2, z.1⟩), fun f i hf => ?_⟩
    · rw [u2_ne1 (by decide), u2_self]
    · rw [show ∀ g : Nat → Nat → Int64, u2 g 610 11 2147483647 f i = g f i from fun g => if_neg (fun z => hf ⟨z.2, Or.inr z.1⟩)]
      exact if_neg (fun z => hf ⟨z.2, Or.inl z.1⟩)
  have hst : StkA (u2 A 30 0 (nI (ex.length - 1))) ([(([] : EX), ex)].map endP) := by
    have h0 : StkA A [] := fun j v h => by simp at h
    have := h0.push (endP ([], ex))
    have e1 : endP (([] : EX), ex) = nI (ex.length - 1) := by
      show nI (([] : EX).length + ex.length - 1) = _
      rw [List.length_nil, Nat.zero_add]
    rw [e1] at this
    show StkA _ [endP ([], ex)]
    rw [e1]
    exact this
  show Ev X mX9_conjuncts (d + 3) 0 [some (rV (some 11)), some (iV (nI x)), some (iV (nI i)), none, none] [] (K, I, J, R, A, B, Ln, n, sl) _
  refine ev_aload_n dX9_conjuncts_0 rfl ?_
  refine ev_iconstN 0 dX9_conjuncts_1 (by decide) ?_
  refine ev_putI dX9_conjuncts_2 fX9_209 (Or.inl rfl) (Or.inr (Or.inl rfl)) hM.m ?_
  refine ev_aload_n dX9_conjuncts_5 rfl ?_
  refine ev_ldc2 dX9_conjuncts_6 coX9_227 ?_
  refine ev_putJ dX9_conjuncts_9 fX9_213 (Or.inl rfl) hM.m ?_
  refine ev_aload_n dX9_conjuncts_12 rfl ?_
  refine ev_ldc2 dX9_conjuncts_13 coX9_233 ?_
  refine ev_putJ dX9_conjuncts_16 fX9_217 (Or.inl rfl) hM.m ?_
  refine ev_aload_n dX9_conjuncts_19 rfl ?_
  refine ev_getR dX9_conjuncts_20 fX9_65 hM.m hM.R_numbers ?_
  refine ev_iconstN 0 dX9_conjuncts_23 (by decide) ?_
  refine ev_aload_n dX9_conjuncts_24 rfl ?_
  refine ev_getR dX9_conjuncts_25 fX9_7 hM.m hM.R_nodes ?_
  refine ev_iload_n dX9_conjuncts_28 rfl ?_
  refine ev_ialdv dX9_conjuncts_29 hM.K_nodes hM.L_nodes (by decide) (by omega) hE.1 ?_
  refine ev_iconstN 1 dX9_conjuncts_30 (by decide) ?_
  refine ev_isubN dX9_conjuncts_31 (by omega) ?_
  refine ev_iast dX9_conjuncts_32 hM.K_numbers hM.L_numbers (by decide) (by omega) ?_
  refine ev_iconstN 1 dX9_conjuncts_33 (by decide) ?_
  refine ev_istore_n _ dX9_conjuncts_34 (by decide) rfl ?_
  exact lp_conjs (A := A) hM hx hi hE hI hIe 15 [([], ex)] _ _ _ _ _ (by show ex.length + 0 ≤ 15; omega) (Nat.le_refl 15) (fun z hz => by rcases List.mem_cons.mp hz with rfl | hz; exact ⟨ht, [], by simp⟩; cases hz) (fun i hi => u2_row' hi) hst hcj (fun st' I1 J1 A1 hp h1 h2 => ⟨rfl, st', I1, J1, A1, rfl, by obtain ⟨s1, a, b⟩ := hp; rw [show st' = s1 from b]; exact a, h1, h2⟩)
/-- the first e of 15 places of expression rows moved from place a to place b, in 'op' and 'with' -/
def cpX (A : Nat → Nat → Int32) (a b e : Nat) : Nat → Nat → Int32 := fun i j => if (i = 13 ∨ i = 14) ∧ b ≤ j ∧ j < b + e then A i (a + (j - b)) else A i j
theorem cpX_0 {A : Nat → Nat → Int32} {a b : Nat} : cpX A a b 0 = A := by
  funext i j
  unfold cpX
  rw [if_neg (by omega)]
theorem cpX_at {A : Nat → Nat → Int32} {a b e i : Nat} (h : a + e < b ∨ b + e ≤ a + e) : cpX A a b e i (a + e) = A i (a + e) := by
  unfold cpX
  rw [if_neg (by omega)]
theorem cpX_at2 {A : Nat → Nat → Int32} {a b e : Nat} {v : Int32} (h : a + e < b ∨ b + e ≤ a + e) : u2 (cpX A a b e) 13 (b + e) v 14 (a + e) = A 14 (a + e) := by
  rw [u2_ne1 (by decide)]
  exact cpX_at h
theorem cpX_s {A : Nat → Nat → Int32} {a b e : Nat} : u2 (u2 (cpX A a b e) 13 (b + e) (A 13 (a + e))) 14 (b + e) (A 14 (a + e)) = cpX A a b (e + 1) := by
  funext i j
  unfold cpX u2
  by_cases h1 : i = 14
  · subst h1
    by_cases h2 : j = b + e
    · subst h2; simp
    · simp [h2, show j < b + (e + 1) ↔ j < b + e by omega]
  · by_cases h3 : i = 13
    · subst h3
      by_cases h2 : j = b + e
      · subst h2; simp
      · simp [h2, show j < b + (e + 1) ↔ j < b + e by omega]
    · simp [h1, h3]
set_option maxRecDepth 100000 in
set_option maxHeartbeats 4000000 in
theorem lp_index {Q : Option LV → GH → Prop} (hM : MFix K R Ln) {p ix : Nat} (hp : p ≤ 8) (hp0 : 0 < p) (hix : ix < 3) (k : Ev X mX9_index d 105 [some (rV (some 11)), some (iV (nI (15 * (p - 1)))), some (iV (nI (15 * (8 + ix)))), some (iV (nI 15))] [] (K, I, J, R, cpX A (15 * (p - 1)) (15 * (8 + ix)) 15, B, Ln, n, sl) Q) : ∀ (g e : Nat), e + g = 15 → Ev X mX9_index d 61 [some (rV (some 11)), some (iV (nI (15 * (p - 1)))), some (iV (nI (15 * (8 + ix)))), some (iV (nI e))] [] (K, I, J, R, cpX A (15 * (p - 1)) (15 * (8 + ix)) e, B, Ln, n, sl) Q := by
  intro g
  induction g with
  | zero =>
    intro e he
    have e2 : e = 15 := by omega
    subst e2
    refine ev_iload_n dX9_index_61 rfl ?_
    refine ev_bipushN 15 dX9_index_62 (by decide) ?_
    refine ev_icmp_geN 105 dX9_index_64 (by decide) (by omega) (by omega) (fun c64 => ?_) (fun c64 => absurd c64 (by decide))
    exact k
  | succ g ih =>
    intro e he
    refine ev_iload_n dX9_index_61 rfl ?_
    refine ev_bipushN 15 dX9_index_62 (by decide) ?_
    refine ev_icmp_geN 105 dX9_index_64 (by decide) (by omega) (by omega) (fun c64 => absurd c64 (by omega)) (fun c64 => ?_)
    refine ev_aload_n dX9_index_67 rfl ?_
    refine ev_getR dX9_index_68 fX9_13 hM.m hM.R_op ?_
    refine ev_iload_n dX9_index_71 rfl ?_
    refine ev_iload_n dX9_index_72 rfl ?_
    refine ev_iaddN dX9_index_73 ?_
    refine ev_aload_n dX9_index_74 rfl ?_
    refine ev_getR dX9_index_75 fX9_13 hM.m hM.R_op ?_
    refine ev_iload_n dX9_index_78 rfl ?_
    refine ev_iload_n dX9_index_79 rfl ?_
    refine ev_iaddN dX9_index_80 ?_
    refine ev_ialdv dX9_index_81 hM.K_op hM.L_op (by decide) (by omega) (cpX_at (by omega)) ?_
    refine ev_iast dX9_index_82 hM.K_op hM.L_op (by decide) (by omega) ?_
    refine ev_aload_n dX9_index_83 rfl ?_
    refine ev_getR dX9_index_84 fX9_16 hM.m hM.R_with ?_
    refine ev_iload_n dX9_index_87 rfl ?_
    refine ev_iload_n dX9_index_88 rfl ?_
    refine ev_iaddN dX9_index_89 ?_
    refine ev_aload_n dX9_index_90 rfl ?_
    refine ev_getR dX9_index_91 fX9_16 hM.m hM.R_with ?_
    refine ev_iload_n dX9_index_94 rfl ?_
    refine ev_iload_n dX9_index_95 rfl ?_
    refine ev_iaddN dX9_index_96 ?_
    refine ev_ialdv dX9_index_97 hM.K_with hM.L_with (by decide) (by omega) (cpX_at2 (by omega)) ?_
    refine ev_iast dX9_index_98 hM.K_with hM.L_with (by decide) (by omega) ?_
    rw [cpX_s]
    refine ev_iincN (b := 1) _ dX9_index_99 rfl (by decide) (by decide) rfl ?_
    refine ev_goto 61 dX9_index_102 (by decide) ?_
    exact ih (e + 1) (by omega)
set_option maxRecDepth 100000 in
set_option maxHeartbeats 4000000 in
theorem sp_index_no (hM : MFix K R Ln) {p ix : Nat} (hp : I 576 11 = nI p) (hpb : p ≤ 8) (hi : I 577 11 = nI ix) (hib : ix ≤ 3) {la : Nat} (hla : I 594 11 = nI la) (hlb : la < 2147483648) (hno : p = 0 ∨ ¬ A 15 (p - 1) = 0 ∨ ix = 3 ∨ 0 < la) : EvM X mX9_index d [rV (some 11)] (K, I, J, R, A, B, Ln, n, sl) (fun r G' => r = some (iV (-1)) ∧ G' = (K, I, J, R, A, B, Ln, n, sl)) := by
  show Ev X mX9_index d 0 [some (rV (some 11)), none, none, none] [] (K, I, J, R, A, B, Ln, n, sl) _
  refine ev_aload_n dX9_index_0 rfl ?_
  refine ev_getIv dX9_index_1 fX9_85 hM.m hp ?_
  refine ev_if_eqN 36 dX9_index_4 (by decide) (by omega) (fun c4 => ?_) (fun c4 => ?_)
  · refine ev_iconst (-1) dX9_index_36 (by decide) ?_
    refine ev_ireturn dX9_index_37 rfl ?_
    exact ⟨rfl, rfl⟩
  · refine ev_aload_n dX9_index_7 rfl ?_
    refine ev_getR dX9_index_8 fX9_19 hM.m hM.R_bool ?_
    refine ev_aload_n dX9_index_11 rfl ?_
    refine ev_getIv dX9_index_12 fX9_85 hM.m hp ?_
    refine ev_iconstN 1 dX9_index_15 (by decide) ?_
    refine ev_isubN dX9_index_16 (by omega) ?_
    refine ev_zald dX9_index_17 hM.K_bool hM.L_bool (by decide) (by omega) ?_
    refine ev_if_ne 36 dX9_index_18 (by decide) (fun c18 => ?_) (fun c18 => ?_)
    · refine ev_iconst (-1) dX9_index_36 (by decide) ?_
      refine ev_ireturn dX9_index_37 rfl ?_
      exact ⟨rfl, rfl⟩
    · refine ev_aload_n dX9_index_21 rfl ?_
      refine ev_getIv dX9_index_22 fX9_100 hM.m hi ?_
      refine ev_iconstN 3 dX9_index_25 (by decide) ?_
      refine ev_icmp_eqN 36 dX9_index_26 (by decide) (by omega) (by omega) (fun c26 => ?_) (fun c26 => ?_)
      · refine ev_iconst (-1) dX9_index_36 (by decide) ?_
        refine ev_ireturn dX9_index_37 rfl ?_
        exact ⟨rfl, rfl⟩
      · refine ev_aload_n dX9_index_29 rfl ?_
        refine ev_getIv dX9_index_30 fX9_103 hM.m hla ?_
        refine ev_if_leN 38 dX9_index_33 (by decide) (by omega) (fun c33 => ?_) (fun c33 => ?_)
        · rcases hno with h | h | h | h
          · omega
          · exact absurd c18 h
          · omega
          · omega
        · refine ev_iconst (-1) dX9_index_36 (by decide) ?_
          refine ev_ireturn dX9_index_37 rfl ?_
          exact ⟨rfl, rfl⟩
set_option maxRecDepth 100000 in
set_option maxHeartbeats 4000000 in
theorem sp_index_yes (hM : MFix K R Ln) {p ix : Nat} (hp : I 576 11 = nI p) (hpb : p ≤ 8) (hi : I 577 11 = nI ix) (hib : ix ≤ 3) {la : Nat} (hla : I 594 11 = nI la) (hlb : la < 2147483648) (h0 : 0 < p) (hz : A 15 (p - 1) = 0) (h3 : ix < 3) (hl0 : la = 0) : EvM X mX9_index d [rV (some 11)] (K, I, J, R, A, B, Ln, n, sl) (fun r G' => r = some (iV (nI ix)) ∧ G' = (K, u2 (u2 I 576 11 (nI (p - 1))) 577 11 (nI (ix + 1)), J, R, u2 (cpX A (15 * (p - 1)) (15 * (8 + ix)) 15) 12 (8 + ix) (A 12 (p - 1)), B, Ln, n, sl)) := by
  show Ev X mX9_index d 0 [some (rV (some 11)), none, none, none] [] (K, I, J, R, A, B, Ln, n, sl) _
  have k105 : Ev X mX9_index d 105 [some (rV (some 11)), some (iV (nI (15 * (p - 1)))), some (iV (nI (15 * (8 + ix)))), some (iV (nI 15))] [] (K, I, J, R, cpX A (15 * (p - 1)) (15 * (8 + ix)) 15, B, Ln, n, sl) (fun r G' => r = some (iV (nI ix)) ∧ G' = (K, u2 (u2 I 576 11 (nI (p - 1))) 577 11 (nI (ix + 1)), J, R, u2 (cpX A (15 * (p - 1)) (15 * (8 + ix)) 15) 12 (8 + ix) (A 12 (p - 1)), B, Ln, n, sl)) := by
    refine ev_aload_n dX9_index_105 rfl ?_
    refine ev_getR dX9_index_106 fX9_7 hM.m hM.R_nodes ?_
    refine ev_bipushN 8 dX9_index_109 (by decide) ?_
    refine ev_aload_n dX9_index_111 rfl ?_
    refine ev_getIv dX9_index_112 fX9_100 hM.m hi ?_
    refine ev_iaddN dX9_index_115 ?_
    refine ev_aload_n dX9_index_116 rfl ?_
    refine ev_getR dX9_index_117 fX9_7 hM.m hM.R_nodes ?_
    refine ev_aload_n dX9_index_120 rfl ?_
    refine ev_getIv dX9_index_121 fX9_85 hM.m hp ?_
    refine ev_iconstN 1 dX9_index_124 (by decide) ?_
    refine ev_isubN dX9_index_125 (by omega) ?_
    refine ev_ialdv dX9_index_126 hM.K_nodes hM.L_nodes (by decide) (by omega) (show cpX A (15 * (p - 1)) (15 * (8 + ix)) 15 12 (p - 1) = A 12 (p - 1) from if_neg (by omega)) ?_
    refine ev_iast dX9_index_127 hM.K_nodes hM.L_nodes (by decide) (by omega) ?_
    refine ev_aload_n dX9_index_128 rfl ?_
    refine ev_dup dX9_index_129 rfl ?_
    refine ev_getIv dX9_index_130 fX9_85 hM.m hp ?_
    refine ev_iconstN 1 dX9_index_133 (by decide) ?_
    refine ev_isubN dX9_index_134 (by omega) ?_
    refine ev_putI dX9_index_135 fX9_85 (Or.inl rfl) (Or.inl rfl) hM.m ?_
    refine ev_aload_n dX9_index_138 rfl ?_
    refine ev_dup dX9_index_139 rfl ?_
    refine ev_getIv dX9_index_140 fX9_100 hM.m ((u2_ne1 (by decide)).trans hi) ?_
    refine ev_iconstN 1 dX9_index_143 (by decide) ?_
    refine ev_iaddN dX9_index_144 ?_
    refine ev_putI dX9_index_145 fX9_100 (Or.inl rfl) (Or.inl rfl) hM.m ?_
    refine ev_aload_n dX9_index_148 rfl ?_
    refine ev_getIv dX9_index_149 fX9_100 hM.m u2_self ?_
    refine ev_iconstN 1 dX9_index_152 (by decide) ?_
    refine ev_isubN dX9_index_153 (by omega) ?_
    refine ev_ireturn dX9_index_154 rfl ?_
    exact ⟨rfl, rfl⟩
  have hL := lp_index (X := X) (d := d) (I := I) (J := J) (B := B) (n := n) (sl := sl) hM hpb h0 h3 k105 15 0 (by omega)
  rw [cpX_0] at hL
  refine ev_aload_n dX9_index_0 rfl ?_
  refine ev_getIv dX9_index_1 fX9_85 hM.m hp ?_
  refine ev_if_eqN 36 dX9_index_4 (by decide) (by omega) (fun c4 => absurd c4 (by omega)) (fun c4 => ?_)
  refine ev_aload_n dX9_index_7 rfl ?_
  refine ev_getR dX9_index_8 fX9_19 hM.m hM.R_bool ?_
  refine ev_aload_n dX9_index_11 rfl ?_
  refine ev_getIv dX9_index_12 fX9_85 hM.m hp ?_
  refine ev_iconstN 1 dX9_index_15 (by decide) ?_
  refine ev_isubN dX9_index_16 (by omega) ?_
  refine ev_zald dX9_index_17 hM.K_bool hM.L_bool (by decide) (by omega) ?_
  refine ev_if_ne 36 dX9_index_18 (by decide) (fun c18 => absurd c18 (fun z => z hz)) (fun c18 => ?_)
  refine ev_aload_n dX9_index_21 rfl ?_
  refine ev_getIv dX9_index_22 fX9_100 hM.m hi ?_
  refine ev_iconstN 3 dX9_index_25 (by decide) ?_
  refine ev_icmp_eqN 36 dX9_index_26 (by decide) (by omega) (by omega) (fun c26 => absurd c26 (by omega)) (fun c26 => ?_)
  refine ev_aload_n dX9_index_29 rfl ?_
  refine ev_getIv dX9_index_30 fX9_103 hM.m hla ?_
  refine ev_if_leN 38 dX9_index_33 (by decide) (by omega) (fun c33 => ?_) (fun c33 => absurd c33 (by omega))
  refine ev_bipushN 15 dX9_index_38 (by decide) ?_
  refine ev_aload_n dX9_index_40 rfl ?_
  refine ev_getIv dX9_index_41 fX9_85 hM.m hp ?_
  refine ev_iconstN 1 dX9_index_44 (by decide) ?_
  refine ev_isubN dX9_index_45 (by omega) ?_
  refine ev_imulN dX9_index_46 ?_
  refine ev_istore_n _ dX9_index_47 (by decide) rfl ?_
  refine ev_bipushN 15 dX9_index_48 (by decide) ?_
  refine ev_bipushN 8 dX9_index_50 (by decide) ?_
  refine ev_aload_n dX9_index_52 rfl ?_
  refine ev_getIv dX9_index_53 fX9_100 hM.m hi ?_
  refine ev_iaddN dX9_index_56 ?_
  refine ev_imulN dX9_index_57 ?_
  refine ev_istore_n _ dX9_index_58 (by decide) rfl ?_
  refine ev_iconstN 0 dX9_index_59 (by decide) ?_
  refine ev_istore_n _ dX9_index_60 (by decide) rfl ?_
  exact hL
end M14
