section M11
variable {X : CX} {d : Nat} {K : Nat → Nat} {I : Nat → Nat → Int32} {J : Nat → Nat → Int64} {R : Nat → Nat → Option Nat} {A : Nat → Nat → Int32} {B : Nat → Nat → Option Nat} {Ln : Nat → Nat} {n sl : Nat}
set_option maxRecDepth 100000 in
set_option maxHeartbeats 4000000 in
theorem lp_same0 {Q : Option LV → GH → Prop} (hM : MFix K R Ln) {x i b k : Nat} {pre ie : EX} (hi : i < 3) (hk : k ≤ 16) (hI : ExA A (8 + i) ie) (hq : Q (some (iV (nI 0))) (K, I, J, R, A, B, Ln, n, sl)) : Ev X mX9_same d 32 [some (rV (some 11)), some (iV (nI x)), some (iV (nI pre.length)), some (iV (nI b)), some (iV (nI i)), some (iV (nI (8 + i))), some (iV (nI 0)), some (iV (nI (k)))] [] (K, I, J, R, A, B, Ln, n, sl) Q := by
  have h15 := hI.2.1
  refine ev_iload dX9_same_32 rfl ?_
  refine ev_aload_n dX9_same_34 rfl ?_
  refine ev_getR dX9_same_35 fX9_7 hM.m hM.R_nodes ?_
  refine ev_iload dX9_same_38 rfl ?_
  refine ev_ialdv dX9_same_40 hM.K_nodes hM.L_nodes (by decide) (by omega) hI.1 ?_
  refine ev_icmp_geN 122 dX9_same_41 (by decide) (by omega) (by omega) (fun c41 => ?_) (fun c41 => ?_)
  · refine ev_iload dX9_same_122 rfl ?_
    refine ev_zreturn dX9_same_124 rfl (by decide) ?_
    exact hq
  · refine ev_iload dX9_same_44 rfl ?_
    refine ev_if_eqN 122 dX9_same_46 (by decide) (by omega) (fun c46 => ?_) (fun c46 => absurd c46 (by decide))
    refine ev_iload dX9_same_122 rfl ?_
    refine ev_zreturn dX9_same_124 rfl (by decide) ?_
    exact hq
set_option maxRecDepth 100000 in
set_option maxHeartbeats 4000000 in
theorem lp_same {Q : Option LV → GH → Prop} (hM : MFix K R Ln) {x i b : Nat} {ex pre sub suf ie : EX} (hx : x < 11) (hi : i < 3) (hE : ExA A x ex) (hI : ExA A (8 + i) ie) (hex : ex = pre ++ sub ++ suf) (hm1 : ∀ on ∈ sub, on.1 ≤ 12) (hm2 : ∀ on ∈ ie, on.1 ≤ 12) (hl : sub.length = ie.length) (hq : Q (some (iV (bZ (decide (sub = ie))))) (K, I, J, R, A, B, Ln, n, sl)) : ∀ (f k : Nat), k + f = ie.length → sub.take k = ie.take k → Ev X mX9_same d 32 [some (rV (some 11)), some (iV (nI x)), some (iV (nI pre.length)), some (iV (nI b)), some (iV (nI i)), some (iV (nI (8 + i))), some (iV (nI 1)), some (iV (nI (k)))] [] (K, I, J, R, A, B, Ln, n, sl) Q := by
  have h15 := hI.2.1
  have h15e := hE.2.1
  have hlen : ex.length = pre.length + sub.length + suf.length := by rw [hex]; simp; omega
  intro f
  induction f with
  | zero =>
    intro k hk ht
    have e : k = ie.length := by omega
    subst e
    have heq : sub = ie := by
      rw [List.take_of_length_le (by omega), List.take_of_length_le (by omega)] at ht
      exact ht
    refine ev_iload dX9_same_32 rfl ?_
    refine ev_aload_n dX9_same_34 rfl ?_
    refine ev_getR dX9_same_35 fX9_7 hM.m hM.R_nodes ?_
    refine ev_iload dX9_same_38 rfl ?_
    refine ev_ialdv dX9_same_40 hM.K_nodes hM.L_nodes (by decide) (by omega) hI.1 ?_
    refine ev_icmp_geN 122 dX9_same_41 (by decide) (by omega) (by omega) (fun c41 => ?_) (fun c41 => absurd c41 (by omega))
    refine ev_iload dX9_same_122 rfl ?_
    refine ev_zreturn dX9_same_124 rfl (by decide) ?_
    rw [decide_eq_true heq] at hq; exact hq
  | succ f ih =>
    intro k hk ht
    obtain ⟨on1, h1⟩ : ∃ on, sub[k]? = some on := ⟨sub[k]'(by omega), List.getElem?_eq_getElem (by omega)⟩
    obtain ⟨on2, h2⟩ : ∃ on, ie[k]? = some on := ⟨ie[k]'(by omega), List.getElem?_eq_getElem (by omega)⟩
    have g1 := hE.2.2 (pre.length + k) on1 (by rw [hex, List.append_assoc, List.getElem?_append_right (by omega), Nat.add_sub_cancel_left, List.getElem?_append_left (by omega)]; exact h1)
    have g2 := hI.2.2 k on2 h2
    have b1 := hm1 on1 (List.mem_of_getElem? h1)
    have b2 := hm2 on2 (List.mem_of_getElem? h2)
    have no : ¬ on1 = on2 → bZ (decide (sub = ie)) = nI 0 := fun z => by
      rw [decide_eq_false (fun e => z (by rw [e, h2] at h1; exact (Option.some.inj h1).symm))]
      rfl
    refine ev_iload dX9_same_32 rfl ?_
    refine ev_aload_n dX9_same_34 rfl ?_
    refine ev_getR dX9_same_35 fX9_7 hM.m hM.R_nodes ?_
    refine ev_iload dX9_same_38 rfl ?_
    refine ev_ialdv dX9_same_40 hM.K_nodes hM.L_nodes (by decide) (by omega) hI.1 ?_
    refine ev_icmp_geN 122 dX9_same_41 (by decide) (by omega) (by omega) (fun c41 => absurd c41 (by omega)) (fun c41 => ?_)
    refine ev_iload dX9_same_44 rfl ?_
    refine ev_if_eqN 122 dX9_same_46 (by decide) (by omega) (fun c46 => absurd c46 (by decide)) (fun c46 => ?_)
    refine ev_aload_n dX9_same_49 rfl ?_
    refine ev_getR dX9_same_50 fX9_13 hM.m hM.R_op ?_
    refine ev_bipushN 15 dX9_same_53 (by decide) ?_
    refine ev_iload_n dX9_same_55 rfl ?_
    refine ev_imulN dX9_same_56 ?_
    refine ev_iload_n dX9_same_57 rfl ?_
    refine ev_iaddN dX9_same_58 ?_
    refine ev_iload dX9_same_59 rfl ?_
    refine ev_iaddN dX9_same_61 ?_
    refine ev_ialdv dX9_same_62 hM.K_op hM.L_op (by decide) (by omega) ((congrArg (A 13) (Nat.add_assoc _ _ _)).trans g1.1) ?_
    refine ev_aload_n dX9_same_63 rfl ?_
    refine ev_getR dX9_same_64 fX9_13 hM.m hM.R_op ?_
    refine ev_bipushN 15 dX9_same_67 (by decide) ?_
    refine ev_iload dX9_same_69 rfl ?_
    refine ev_imulN dX9_same_71 ?_
    refine ev_iload dX9_same_72 rfl ?_
    refine ev_iaddN dX9_same_74 ?_
    refine ev_ialdv dX9_same_75 hM.K_op hM.L_op (by decide) (by omega) g2.1 ?_
    refine ev_icmp_neN 113 dX9_same_76 (by decide) (by omega) (by omega) (fun c76 => ?_) (fun c76 => ?_)
    · refine ev_iconstN 0 dX9_same_113 (by decide) ?_
      refine ev_istore _ dX9_same_114 (by decide) rfl ?_
      refine ev_iincN (b := 1) _ dX9_same_116 rfl (by decide) (by decide) rfl ?_
      refine ev_goto 32 dX9_same_119 (by decide) ?_
      first | exact lp_same0 hM hi (by omega) hI (by rw [no (fun e => c76 (by rw [e]))] at hq; exact hq) | exact lp_same0 hM hi (by omega) hI (by rw [no (fun e => c106 (by rw [e]))] at hq; exact hq) | exact ih (k + 1) (by omega) (by rw [List.take_add_one, List.take_add_one, ht, h1, h2, show on1 = on2 from Prod.ext c76 c106])
    · refine ev_aload_n dX9_same_79 rfl ?_
      refine ev_getR dX9_same_80 fX9_16 hM.m hM.R_with ?_
      refine ev_bipushN 15 dX9_same_83 (by decide) ?_
      refine ev_iload_n dX9_same_85 rfl ?_
      refine ev_imulN dX9_same_86 ?_
      refine ev_iload_n dX9_same_87 rfl ?_
      refine ev_iaddN dX9_same_88 ?_
      refine ev_iload dX9_same_89 rfl ?_
      refine ev_iaddN dX9_same_91 ?_
      refine ev_ialdv dX9_same_92 hM.K_with hM.L_with (by decide) (by omega) ((congrArg (A 14) (Nat.add_assoc _ _ _)).trans g1.2) ?_
      refine ev_aload_n dX9_same_93 rfl ?_
      refine ev_getR dX9_same_94 fX9_16 hM.m hM.R_with ?_
      refine ev_bipushN 15 dX9_same_97 (by decide) ?_
      refine ev_iload dX9_same_99 rfl ?_
      refine ev_imulN dX9_same_101 ?_
      refine ev_iload dX9_same_102 rfl ?_
      refine ev_iaddN dX9_same_104 ?_
      refine ev_ialdv dX9_same_105 hM.K_with hM.L_with (by decide) (by omega) g2.2 ?_
      refine ev_icmp_ne 113 dX9_same_106 (by decide) (fun c106 => ?_) (fun c106 => ?_)
      · refine ev_iconstN 0 dX9_same_113 (by decide) ?_
        refine ev_istore _ dX9_same_114 (by decide) rfl ?_
        refine ev_iincN (b := 1) _ dX9_same_116 rfl (by decide) (by decide) rfl ?_
        refine ev_goto 32 dX9_same_119 (by decide) ?_
        first | exact lp_same0 hM hi (by omega) hI (by rw [no (fun e => c76 (by rw [e]))] at hq; exact hq) | exact lp_same0 hM hi (by omega) hI (by rw [no (fun e => c106 (by rw [e]))] at hq; exact hq) | exact ih (k + 1) (by omega) (by rw [List.take_add_one, List.take_add_one, ht, h1, h2, show on1 = on2 from Prod.ext c76 c106])
      · refine ev_iconstN 1 dX9_same_109 (by decide) ?_
        refine ev_goto 114 dX9_same_110 (by decide) ?_
        refine ev_istore _ dX9_same_114 (by decide) rfl ?_
        refine ev_iincN (b := 1) _ dX9_same_116 rfl (by decide) (by decide) rfl ?_
        refine ev_goto 32 dX9_same_119 (by decide) ?_
        first | exact lp_same0 hM hi (by omega) hI (by rw [no (fun e => c76 (by rw [e]))] at hq; exact hq) | exact lp_same0 hM hi (by omega) hI (by rw [no (fun e => c106 (by rw [e]))] at hq; exact hq) | exact ih (k + 1) (by omega) (by rw [List.take_add_one, List.take_add_one, ht, h1, h2, show on1 = on2 from Prod.ext c76 c106])
set_option maxRecDepth 100000 in
set_option maxHeartbeats 4000000 in
theorem sp_same (hM : MFix K R Ln) {x i b : Nat} {ex pre sub suf ie : EX} (hx : x < 11) (hi : i < 3) (hE : ExA A x ex) (hI : ExA A (8 + i) ie) (hex : ex = pre ++ sub ++ suf) (hm1 : ∀ on ∈ sub, on.1 ≤ 12) (hm2 : ∀ on ∈ ie, on.1 ≤ 12) (hb : b + 1 = pre.length + sub.length) (hs : sub ≠ []) : EvM X mX9_same d [rV (some 11), iV (nI x), iV (nI pre.length), iV (nI b), iV (nI i)] (K, I, J, R, A, B, Ln, n, sl) (fun r G' => r = some (iV (bZ (decide (sub = ie)))) ∧ G' = (K, I, J, R, A, B, Ln, n, sl)) := by
  have h15 := hI.2.1
  have h15e := hE.2.1
  have hlen : ex.length = pre.length + sub.length + suf.length := by rw [hex]; simp; omega
  have hsl : 0 < sub.length := List.length_pos_iff.mpr hs
  show Ev X mX9_same d 0 [some (rV (some 11)), some (iV (nI x)), some (iV (nI pre.length)), some (iV (nI b)), some (iV (nI i)), none, none, none] [] (K, I, J, R, A, B, Ln, n, sl) _
  refine ev_bipushN 8 dX9_same_0 (by decide) ?_
  refine ev_iload dX9_same_2 rfl ?_
  refine ev_iaddN dX9_same_4 ?_
  refine ev_istore _ dX9_same_5 (by decide) rfl ?_
  refine ev_iload_n dX9_same_7 rfl ?_
  refine ev_iload_n dX9_same_8 rfl ?_
  refine ev_isubN dX9_same_9 (by omega) ?_
  refine ev_iconstN 1 dX9_same_10 (by decide) ?_
  refine ev_iaddN dX9_same_11 ?_
  refine ev_aload_n dX9_same_12 rfl ?_
  refine ev_getR dX9_same_13 fX9_7 hM.m hM.R_nodes ?_
  refine ev_iload dX9_same_16 rfl ?_
  refine ev_ialdv dX9_same_18 hM.K_nodes hM.L_nodes (by decide) (by omega) hI.1 ?_
  refine ev_icmp_neN 26 dX9_same_19 (by decide) (by omega) (by omega) (fun c19 => ?_) (fun c19 => ?_)
  · refine ev_iconstN 0 dX9_same_26 (by decide) ?_
    refine ev_istore _ dX9_same_27 (by decide) rfl ?_
    refine ev_iconstN 0 dX9_same_29 (by decide) ?_
    refine ev_istore _ dX9_same_30 (by decide) rfl ?_
    first | exact lp_same hM hx hi hE hI hex hm1 hm2 (by omega) ⟨rfl, rfl⟩ ie.length 0 (by omega) rfl | exact lp_same0 hM hi (by omega) hI ⟨by rw [decide_eq_false (fun e => c19 (by have := congrArg List.length e; omega))]; rfl, rfl⟩
  · refine ev_iconstN 1 dX9_same_22 (by decide) ?_
    refine ev_goto 27 dX9_same_23 (by decide) ?_
    refine ev_istore _ dX9_same_27 (by decide) rfl ?_
    refine ev_iconstN 0 dX9_same_29 (by decide) ?_
    refine ev_istore _ dX9_same_30 (by decide) rfl ?_
    first | exact lp_same hM hx hi hE hI hex hm1 hm2 (by omega) ⟨rfl, rfl⟩ ie.length 0 (by omega) rfl | exact lp_same0 hM hi (by omega) hI ⟨by rw [decide_eq_false (fun e => c19 (by have := congrArg List.length e; omega))]; rfl, rfl⟩
end M11
