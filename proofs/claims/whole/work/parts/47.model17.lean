section M17
variable {X : CX} {d : Nat} {K : Nat → Nat} {I : Nat → Nat → Int32} {J : Nat → Nat → Int64} {R : Nat → Nat → Option Nat} {A : Nat → Nat → Int32} {B : Nat → Nat → Option Nat} {Ln : Nat → Nat} {n sl : Nat}
/-- the entries among the first e that stay -/
def keptL (A : Nat → Nat → Int32) (e : Nat) : List EE := ((List.range e).filter (fun j => decide (¬ A 22 j < 0))).map (entA A)
theorem keptL_len (A : Nat → Nat → Int32) (e : Nat) : (keptL A e).length ≤ e := by
  unfold keptL
  rw [List.length_map]
  exact Nat.le_trans (List.length_filter_le _ _) (by rw [List.length_range]; exact Nat.le_refl e)
theorem keptL_no {A : Nat → Nat → Int32} {e : Nat} (h : A 22 e < 0) : keptL A (e + 1) = keptL A e := by
  unfold keptL
  rw [List.range_succ, List.filter_append]
  simp [h]
theorem keptL_yes {A : Nat → Nat → Int32} {e : Nat} (h : ¬ A 22 e < 0) : keptL A (e + 1) = keptL A e ++ [entA A e] := by
  unfold keptL
  rw [List.range_succ, List.filter_append]
  simp only [List.filter_cons, List.filter_nil, h, not_false_eq_true, decide_true, if_true, List.map_append, List.map_cons, List.map_nil]
/-- the loop of 'clean' has looked at e entries -/
def ClI (A A' : Nat → Nat → Int32) (e : Nat) : Prop := (∀ i, i ∉ [16, 17, 18, 19, 20, 21, 22] → A' i = A i) ∧ (∀ j x, (keptL A e)[j]? = some x → entA A' j = x) ∧ ∀ j, e ≤ j → entA A' j = entA A j
set_option maxRecDepth 100000 in
set_option maxHeartbeats 4000000 in
theorem lp_clean {Q : Option LV → GH → Prop} (hM : MFix K R Ln) {many : Nat} (hm : I 582 11 = nI many) (hbm : many ≤ 520) (hlv : ∀ e, e < many → A 20 e = 0 ∨ A 20 e = 1) (hq : ∀ A', ClI A A' many → Q none (K, u2 I 582 11 (nI (keptL A many).length), J, R, A', B, Ln, n, sl)) : ∀ (g e : Nat) (A' : Nat → Nat → Int32) (w3 : Option LV), e + g = many → ClI A A' e → Ev X mX9_clean d 4 [some (rV (some 11)), some (iV (nI ((keptL A e).length))), some (iV (nI (e))), w3] [] (K, I, J, R, A', B, Ln, n, sl) Q := by
  intro g
  induction g with
  | zero =>
    intro e A' w3 he hI
    have e2 : e = many := by omega
    subst e2
    refine ev_iload_n dX9_clean_4 rfl ?_
    refine ev_aload_n dX9_clean_5 rfl ?_
    refine ev_getIv dX9_clean_6 fX9_106 hM.m hm ?_
    refine ev_icmp_geN 135 dX9_clean_9 (by decide) (by omega) (by omega) (fun c9 => ?_) (fun c9 => absurd c9 (by omega))
    refine ev_aload_n dX9_clean_135 rfl ?_
    refine ev_iload_n dX9_clean_136 rfl ?_
    refine ev_putI dX9_clean_137 fX9_106 (Or.inl rfl) (Or.inl rfl) hM.m ?_
    refine ev_return dX9_clean_140 rfl ?_
    exact hq A' hI
  | succ g ih =>
    intro e A' w3 he hI
    obtain ⟨i1, i2, i3⟩ := hI
    have hkl := keptL_len A e
    have hent := i3 e (Nat.le_refl e)
    have h16 : A' 16 e = A 16 e := congrArg (fun x : EE => x.1) hent
    have h17 : A' 17 e = A 17 e := congrArg (fun x : EE => x.2.1) hent
    have h18 : A' 18 e = A 18 e := congrArg (fun x : EE => x.2.2.1) hent
    have h19 : A' 19 e = A 19 e := congrArg (fun x : EE => x.2.2.2.1) hent
    have h20 : A' 20 e = A 20 e := congrArg (fun x : EE => x.2.2.2.2.1) hent
    have h22 : A' 22 e = A 22 e := congrArg (fun x : EE => x.2.2.2.2.2.1) hent
    have h210 : A' 21 (3 * e + 0) = A 21 (3 * e + 0) := congrArg (fun x : EE => x.2.2.2.2.2.2.1) hent
    have h211 : A' 21 (3 * e + 1) = A 21 (3 * e + 1) := congrArg (fun x : EE => x.2.2.2.2.2.2.2.1) hent
    have h212 : A' 21 (3 * e + 2) = A 21 (3 * e + 2) := congrArg (fun x : EE => x.2.2.2.2.2.2.2.2) hent
    generalize hkv : (keptL A e).length = kp at hkl
    by_cases hneg : A 22 e < 0
    · have hk2 : (keptL A (e + 1)).length = kp := by rw [keptL_no hneg]; exact hkv
      refine ev_iload_n dX9_clean_4 rfl ?_
      refine ev_aload_n dX9_clean_5 rfl ?_
      refine ev_getIv dX9_clean_6 fX9_106 hM.m hm ?_
      refine ev_icmp_geN 135 dX9_clean_9 (by decide) (by omega) (by omega) (fun c9 => absurd c9 (by omega)) (fun c9 => ?_)
      refine ev_aload_n dX9_clean_12 rfl ?_
      refine ev_getR dX9_clean_13 fX9_41 hM.m hM.R_file ?_
      refine ev_iload_n dX9_clean_16 rfl ?_
      refine ev_ialdv dX9_clean_17 hM.K_file hM.L_file (by decide) (by omega) h22 ?_
      refine ev_if_lt 129 dX9_clean_18 (by decide) (fun c18 => ?_) (fun c18 => absurd hneg c18)
      refine ev_iincNS (b := 1) dX9_clean_129 rfl (by decide) (by decide) rfl ?_
      refine ev_goto 4 dX9_clean_132 (by decide) ?_
      have h := ih (e + 1) A' w3 (by omega) ⟨i1, by rw [keptL_no hneg]; exact i2, fun j hj => i3 j (by omega)⟩
      rw [hk2] at h
      exact h
    · have hk2 : (keptL A (e + 1)).length = kp + 1 := by rw [keptL_yes hneg, List.length_append, hkv]; rfl
      refine ev_iload_n dX9_clean_4 rfl ?_
      refine ev_aload_n dX9_clean_5 rfl ?_
      refine ev_getIv dX9_clean_6 fX9_106 hM.m hm ?_
      refine ev_icmp_geN 135 dX9_clean_9 (by decide) (by omega) (by omega) (fun c9 => absurd c9 (by omega)) (fun c9 => ?_)
      refine ev_aload_n dX9_clean_12 rfl ?_
      refine ev_getR dX9_clean_13 fX9_41 hM.m hM.R_file ?_
      refine ev_iload_n dX9_clean_16 rfl ?_
      refine ev_ialdv dX9_clean_17 hM.K_file hM.L_file (by decide) (by omega) h22 ?_
      refine ev_if_lt 129 dX9_clean_18 (by decide) (fun c18 => absurd c18 hneg) (fun c18 => ?_)
      refine ev_aload_n dX9_clean_21 rfl ?_
      refine ev_getR dX9_clean_22 fX9_23 hM.m hM.R_space ?_
      refine ev_iload_n dX9_clean_25 rfl ?_
      refine ev_aload_n dX9_clean_26 rfl ?_
      refine ev_getR dX9_clean_27 fX9_23 hM.m hM.R_space ?_
      refine ev_iload_n dX9_clean_30 rfl ?_
      refine ev_ialdv dX9_clean_31 hM.K_space hM.L_space (by decide) (by omega) h16 ?_
      refine ev_iast dX9_clean_32 hM.K_space hM.L_space (by decide) (by omega) ?_
      refine ev_aload_n dX9_clean_33 rfl ?_
      refine ev_getR dX9_clean_34 fX9_26 hM.m hM.R_value ?_
      refine ev_iload_n dX9_clean_37 rfl ?_
      refine ev_aload_n dX9_clean_38 rfl ?_
      refine ev_getR dX9_clean_39 fX9_26 hM.m hM.R_value ?_
      refine ev_iload_n dX9_clean_42 rfl ?_
      refine ev_ialdv dX9_clean_43 hM.K_value hM.L_value (by decide) (by omega) (show _ = A 17 e by unfold u2; repeat rw [if_neg (by omega)]; exact h17) ?_
      refine ev_iast dX9_clean_44 hM.K_value hM.L_value (by decide) (by omega) ?_
      refine ev_aload_n dX9_clean_45 rfl ?_
      refine ev_getR dX9_clean_46 fX9_29 hM.m hM.R_key ?_
      refine ev_iload_n dX9_clean_49 rfl ?_
      refine ev_aload_n dX9_clean_50 rfl ?_
      refine ev_getR dX9_clean_51 fX9_29 hM.m hM.R_key ?_
      refine ev_iload_n dX9_clean_54 rfl ?_
      refine ev_ialdv dX9_clean_55 hM.K_key hM.L_key (by decide) (by omega) (show _ = A 18 e by unfold u2; repeat rw [if_neg (by omega)]; exact h18) ?_
      refine ev_iast dX9_clean_56 hM.K_key hM.L_key (by decide) (by omega) ?_
      refine ev_aload_n dX9_clean_57 rfl ?_
      refine ev_getR dX9_clean_58 fX9_32 hM.m hM.R_stamp ?_
      refine ev_iload_n dX9_clean_61 rfl ?_
      refine ev_aload_n dX9_clean_62 rfl ?_
      refine ev_getR dX9_clean_63 fX9_32 hM.m hM.R_stamp ?_
      refine ev_iload_n dX9_clean_66 rfl ?_
      refine ev_ialdv dX9_clean_67 hM.K_stamp hM.L_stamp (by decide) (by omega) (show _ = A 19 e by unfold u2; repeat rw [if_neg (by omega)]; exact h19) ?_
      refine ev_iast dX9_clean_68 hM.K_stamp hM.L_stamp (by decide) (by omega) ?_
      refine ev_aload_n dX9_clean_69 rfl ?_
      refine ev_getR dX9_clean_70 fX9_35 hM.m hM.R_live ?_
      refine ev_iload_n dX9_clean_73 rfl ?_
      refine ev_aload_n dX9_clean_74 rfl ?_
      refine ev_getR dX9_clean_75 fX9_35 hM.m hM.R_live ?_
      refine ev_iload_n dX9_clean_78 rfl ?_
      refine ev_zaldv dX9_clean_79 hM.K_live hM.L_live (by decide) (by omega) (show _ = A 20 e by unfold u2; repeat rw [if_neg (by omega)]; exact h20) ?_
      refine ev_zast dX9_clean_80 hM.K_live hM.L_live (by decide) (by omega) (hlv e (by omega)) ?_
      refine ev_aload_n dX9_clean_81 rfl ?_
      refine ev_getR dX9_clean_82 fX9_41 hM.m hM.R_file ?_
      refine ev_iload_n dX9_clean_85 rfl ?_
      refine ev_aload_n dX9_clean_86 rfl ?_
      refine ev_getR dX9_clean_87 fX9_41 hM.m hM.R_file ?_
      refine ev_iload_n dX9_clean_90 rfl ?_
      refine ev_ialdv dX9_clean_91 hM.K_file hM.L_file (by decide) (by omega) (show _ = A 22 e by unfold u2; repeat rw [if_neg (by omega)]; exact h22) ?_
      refine ev_iast dX9_clean_92 hM.K_file hM.L_file (by decide) (by omega) ?_
      refine ev_iconstN 0 dX9_clean_93 (by decide) ?_
      refine ev_istore_nS dX9_clean_94 (by decide) rfl ?_
      refine ev_iload_n dX9_clean_95 rfl ?_
      refine ev_iconstN 3 dX9_clean_96 (by decide) ?_
      refine ev_icmp_geN 126 dX9_clean_97 (by decide) (by omega) (by omega) (fun c97 => absurd c97 (by decide)) (fun c97 => ?_)
      refine ev_aload_n dX9_clean_100 rfl ?_
      refine ev_getR dX9_clean_101 fX9_38 hM.m hM.R_fields ?_
      refine ev_iconstN 3 dX9_clean_104 (by decide) ?_
      refine ev_iload_n dX9_clean_105 rfl ?_
      refine ev_imulN dX9_clean_106 ?_
      refine ev_iload_n dX9_clean_107 rfl ?_
      refine ev_iaddN dX9_clean_108 ?_
      refine ev_aload_n dX9_clean_109 rfl ?_
      refine ev_getR dX9_clean_110 fX9_38 hM.m hM.R_fields ?_
      refine ev_iconstN 3 dX9_clean_113 (by decide) ?_
      refine ev_iload_n dX9_clean_114 rfl ?_
      refine ev_imulN dX9_clean_115 ?_
      refine ev_iload_n dX9_clean_116 rfl ?_
      refine ev_iaddN dX9_clean_117 ?_
      refine ev_ialdv dX9_clean_118 hM.K_fields hM.L_fields (by decide) (by omega) ((u2_ne1 (by decide)).trans ((u2_ne1 (by decide)).trans ((u2_ne1 (by decide)).trans ((u2_ne1 (by decide)).trans ((u2_ne1 (by decide)).trans ((u2_ne1 (by decide)).trans (h210))))))) ?_
      refine ev_iast dX9_clean_119 hM.K_fields hM.L_fields (by decide) (by omega) ?_
      refine ev_iincNS (b := 1) dX9_clean_120 rfl (by decide) (by decide) rfl ?_
      refine ev_goto 95 dX9_clean_123 (by decide) ?_
      refine ev_iload_n dX9_clean_95 rfl ?_
      refine ev_iconstN 3 dX9_clean_96 (by decide) ?_
      refine ev_icmp_geN 126 dX9_clean_97 (by decide) (by omega) (by omega) (fun c97 => absurd c97 (by decide)) (fun c97 => ?_)
      refine ev_aload_n dX9_clean_100 rfl ?_
      refine ev_getR dX9_clean_101 fX9_38 hM.m hM.R_fields ?_
      refine ev_iconstN 3 dX9_clean_104 (by decide) ?_
      refine ev_iload_n dX9_clean_105 rfl ?_
      refine ev_imulN dX9_clean_106 ?_
      refine ev_iload_n dX9_clean_107 rfl ?_
      refine ev_iaddN dX9_clean_108 ?_
      refine ev_aload_n dX9_clean_109 rfl ?_
      refine ev_getR dX9_clean_110 fX9_38 hM.m hM.R_fields ?_
      refine ev_iconstN 3 dX9_clean_113 (by decide) ?_
      refine ev_iload_n dX9_clean_114 rfl ?_
      refine ev_imulN dX9_clean_115 ?_
      refine ev_iload_n dX9_clean_116 rfl ?_
      refine ev_iaddN dX9_clean_117 ?_
      refine ev_ialdv dX9_clean_118 hM.K_fields hM.L_fields (by decide) (by omega) ((u2_ne2 (by omega)).trans ((u2_ne1 (by decide)).trans ((u2_ne1 (by decide)).trans ((u2_ne1 (by decide)).trans ((u2_ne1 (by decide)).trans ((u2_ne1 (by decide)).trans ((u2_ne1 (by decide)).trans (h211)))))))) ?_
      refine ev_iast dX9_clean_119 hM.K_fields hM.L_fields (by decide) (by omega) ?_
      refine ev_iincNS (b := 1) dX9_clean_120 rfl (by decide) (by decide) rfl ?_
      refine ev_goto 95 dX9_clean_123 (by decide) ?_
      refine ev_iload_n dX9_clean_95 rfl ?_
      refine ev_iconstN 3 dX9_clean_96 (by decide) ?_
      refine ev_icmp_geN 126 dX9_clean_97 (by decide) (by omega) (by omega) (fun c97 => absurd c97 (by decide)) (fun c97 => ?_)
      refine ev_aload_n dX9_clean_100 rfl ?_
      refine ev_getR dX9_clean_101 fX9_38 hM.m hM.R_fields ?_
      refine ev_iconstN 3 dX9_clean_104 (by decide) ?_
      refine ev_iload_n dX9_clean_105 rfl ?_
      refine ev_imulN dX9_clean_106 ?_
      refine ev_iload_n dX9_clean_107 rfl ?_
      refine ev_iaddN dX9_clean_108 ?_
      refine ev_aload_n dX9_clean_109 rfl ?_
      refine ev_getR dX9_clean_110 fX9_38 hM.m hM.R_fields ?_
      refine ev_iconstN 3 dX9_clean_113 (by decide) ?_
      refine ev_iload_n dX9_clean_114 rfl ?_
      refine ev_imulN dX9_clean_115 ?_
      refine ev_iload_n dX9_clean_116 rfl ?_
      refine ev_iaddN dX9_clean_117 ?_
      refine ev_ialdv dX9_clean_118 hM.K_fields hM.L_fields (by decide) (by omega) ((u2_ne2 (by omega)).trans ((u2_ne2 (by omega)).trans ((u2_ne1 (by decide)).trans ((u2_ne1 (by decide)).trans ((u2_ne1 (by decide)).trans ((u2_ne1 (by decide)).trans ((u2_ne1 (by decide)).trans ((u2_ne1 (by decide)).trans (h212))))))))) ?_
      refine ev_iast dX9_clean_119 hM.K_fields hM.L_fields (by decide) (by omega) ?_
      refine ev_iincNS (b := 1) dX9_clean_120 rfl (by decide) (by decide) rfl ?_
      refine ev_goto 95 dX9_clean_123 (by decide) ?_
      refine ev_iload_n dX9_clean_95 rfl ?_
      refine ev_iconstN 3 dX9_clean_96 (by decide) ?_
      refine ev_icmp_geN 126 dX9_clean_97 (by decide) (by omega) (by omega) (fun c97 => ?_) (fun c97 => absurd c97 (by decide))
      generalize hF : u2 _ 21 (3 * kp + (0 + 1 + 1)) _ = F
      have r16 : ∀ j, F 16 j = if j = kp then A 16 e else A' 16 j := fun j => by rw [← hF]; simp [u2]
      have r17 : ∀ j, F 17 j = if j = kp then A 17 e else A' 17 j := fun j => by rw [← hF]; simp [u2]
      have r18 : ∀ j, F 18 j = if j = kp then A 18 e else A' 18 j := fun j => by rw [← hF]; simp [u2]
      have r19 : ∀ j, F 19 j = if j = kp then A 19 e else A' 19 j := fun j => by rw [← hF]; simp [u2]
      have r20 : ∀ j, F 20 j = if j = kp then A 20 e else A' 20 j := fun j => by rw [← hF]; simp [u2]
      have r22 : ∀ j, F 22 j = if j = kp then A 22 e else A' 22 j := fun j => by rw [← hF]; simp [u2]
      have r21 : ∀ j, F 21 j = if j = 3 * kp + 2 then A 21 (3 * e + 2) else if j = 3 * kp + 1 then A 21 (3 * e + 1) else if j = 3 * kp then A 21 (3 * e) else A' 21 j := fun j => by rw [← hF]; simp [u2]
      have hent2 : entA F kp = entA A e := by
        unfold entA
        rw [r16, r17, r18, r19, r20, r22, r21, r21, r21]
        have a1 : ¬ 3 * kp = 3 * kp + 2 := by omega
        have a2 : ¬ 3 * kp = 3 * kp + 1 := by omega
        have a3 : ¬ 3 * kp + 1 = 3 * kp + 2 := by omega
        simp [a1, a2, a3]
      have hent3 : ∀ j, j ≠ kp → entA F j = entA A' j := fun j hj => by
        unfold entA
        rw [r16, r17, r18, r19, r20, r22, r21, r21, r21]
        simp only [if_neg hj]
        repeat rw [if_neg (by omega)]
      have hcl : ClI A F (e + 1) := by
        refine ⟨fun i hi => ?_, fun j x hx => ?_, fun j hj => ?_⟩
        · rw [← i1 i hi, ← hF]
          simp only [List.mem_cons, List.not_mem_nil, or_false, not_or] at hi
          funext j
          simp [u2, hi]
        · rw [keptL_yes hneg] at hx
          by_cases hjk : j < kp
          · rw [List.getElem?_append_left (by omega)] at hx
            rw [hent3 j (by omega)]
            exact i2 j x hx
          · have hjl := (List.getElem?_eq_some_iff.mp hx).1
            rw [List.length_append, hkv] at hjl
            have ej : j = kp := by simp at hjl; omega
            subst ej
            rw [List.getElem?_append_right (by omega), hkv, Nat.sub_self] at hx
            rw [hent2]
            exact Option.some.inj hx
        · rw [hent3 j (by omega)]
          exact i3 j (by omega)
      refine ev_iincNS (b := 1) dX9_clean_126 rfl (by decide) (by decide) rfl ?_
      refine ev_iincNS (b := 1) dX9_clean_129 rfl (by decide) (by decide) rfl ?_
      refine ev_goto 4 dX9_clean_132 (by decide) ?_
      have h := fun w => ih (e + 1) F w (by omega) hcl
      rw [hk2] at h
      exact h _
set_option maxRecDepth 100000 in
set_option maxHeartbeats 4000000 in
theorem sp_clean (hM : MFix K R Ln) {many : Nat} (hm : I 582 11 = nI many) (hbm : many ≤ 520) (hlv : ∀ e, e < many → A 20 e = 0 ∨ A 20 e = 1) : EvM X mX9_clean d [rV (some 11)] (K, I, J, R, A, B, Ln, n, sl) (fun r G' => r = none ∧ ∃ A', G' = (K, u2 I 582 11 (nI (keptL A many).length), J, R, A', B, Ln, n, sl) ∧ ClI A A' many) := by
  show Ev X mX9_clean d 0 [some (rV (some 11)), none, none, none] [] (K, I, J, R, A, B, Ln, n, sl) _
  refine ev_iconstN 0 dX9_clean_0 (by decide) ?_
  refine ev_istore_nS dX9_clean_1 (by decide) rfl ?_
  refine ev_iconstN 0 dX9_clean_2 (by decide) ?_
  refine ev_istore_nS dX9_clean_3 (by decide) rfl ?_
  exact lp_clean hM hm hbm hlv (fun A' h => ⟨rfl, A', rfl, h⟩) many 0 A none (by omega) ⟨fun _ _ => rfl, fun j x h => by simp [keptL] at h, fun _ _ => rfl⟩
end M17
