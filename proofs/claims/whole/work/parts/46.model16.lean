section M16
variable {X : CX} {d : Nat} {K : Nat → Nat} {I : Nat → Nat → Int32} {J : Nat → Nat → Int64} {R : Nat → Nat → Option Nat} {A : Nat → Nat → Int32} {B : Nat → Nat → Option Nat} {Ln : Nat → Nat} {n sl : Nat}
set_option maxRecDepth 100000 in
set_option maxHeartbeats 4000000 in
theorem sp_say_a (hM : MFix K R Ln) {o v : Int32} (h : o < 0 ∨ 12 < o ∨ (o = 12 ∧ nmB v = 0)) : EvM X mX9_say (d + 1) [rV (some 11), iV o, iV v] (K, I, J, R, A, B, Ln, n, sl) (fun r G' => r = some (iV 0) ∧ G' = (K, I, J, R, A, B, Ln, n, sl)) := by
  show Ev X mX9_say (d + 1) 0 [some (rV (some 11)), some (iV o), some (iV v), none, none, none, none, none] [] (K, I, J, R, A, B, Ln, n, sl) _
  refine ev_iload_n dX9_say_0 rfl ?_
  refine ev_if_lt 34 dX9_say_1 (by decide) (fun c1 => ?_) (fun c1 => ?_)
  · refine ev_iconstN 0 dX9_say_34 (by decide) ?_
    refine ev_zreturn dX9_say_35 rfl (by decide) ?_
    exact ⟨rfl, rfl⟩
  · refine ev_iload_n dX9_say_4 rfl ?_
    refine ev_bipushN 12 dX9_say_5 (by decide) ?_
    refine ev_icmp_gt (y := 12) 34 dX9_say_7 (by decide) (fun c7 => ?_) (fun c7 => ?_)
    · refine ev_iconstN 0 dX9_say_34 (by decide) ?_
      refine ev_zreturn dX9_say_35 rfl (by decide) ?_
      exact ⟨rfl, rfl⟩
    · refine ev_iload_n dX9_say_10 rfl ?_
      refine ev_bipushN 12 dX9_say_11 (by decide) ?_
      refine ev_icmp_ne (y := 12) 23 dX9_say_13 (by decide) (fun c13 => ?_) (fun c13 => ?_)
      · exfalso
        rcases h with h | h | ⟨h1, h2⟩
        · exact c1 h
        · exact c7 h
        · first | exact c20 h2 | exact c13 h1
      · refine ev_iload_n dX9_say_16 rfl ?_
        refine ev_callS dX9_say_17 okX9_isName stX9_isName mlX9_81 [iV _] rfl rfl (Nat.le_of_ble_eq_true rfl) (Nat.le_of_ble_eq_true rfl) (sp_isName) (fun r_ G_ h_ => ?_)
        obtain ⟨rfl, rfl⟩ := h_
        try dsimp only [Option.toList, List.cons_append, List.nil_append]
        refine ev_if_eq 34 dX9_say_20 (by decide) (fun c20 => ?_) (fun c20 => ?_)
        · refine ev_iconstN 0 dX9_say_34 (by decide) ?_
          refine ev_zreturn dX9_say_35 rfl (by decide) ?_
          exact ⟨rfl, rfl⟩
        · exfalso
          rcases h with h | h | ⟨h1, h2⟩
          · exact c1 h
          · exact c7 h
          · first | exact c20 h2 | exact c13 h1
set_option maxRecDepth 100000 in
set_option maxHeartbeats 4000000 in
theorem sp_say_b (hM : MFix K R Ln) {m p : Nat} {v : Int32} (hm : m ≤ 12) (hnm : m = 12 → nmB v = 1) (hp : I 576 11 = nI p) (hp8 : p ≤ 8) (hlt : p < needM m) : EvM X mX9_say (d + 1) [rV (some 11), iV (nI m), iV v] (K, I, J, R, A, B, Ln, n, sl) (fun r G' => r = some (iV 0) ∧ G' = (K, I, J, R, A, B, Ln, n, sl)) := by
  have hn : needM m = needM m := rfl
  have hn2 := needM_le m
  show Ev X mX9_say (d + 1) 0 [some (rV (some 11)), some (iV (nI m)), some (iV v), none, none, none, none, none] [] (K, I, J, R, A, B, Ln, n, sl) _
  refine ev_iload_n dX9_say_0 rfl ?_
  refine ev_if_ltN 34 dX9_say_1 (by decide) (by omega) ?_
  refine ev_iload_n dX9_say_4 rfl ?_
  refine ev_bipushN 12 dX9_say_5 (by decide) ?_
  refine ev_icmp_gtN 34 dX9_say_7 (by decide) (by omega) (by omega) (fun c7 => absurd c7 (by omega)) (fun c7 => ?_)
  refine ev_iload_n dX9_say_10 rfl ?_
  refine ev_bipushN 12 dX9_say_11 (by decide) ?_
  refine ev_icmp_neN 23 dX9_say_13 (by decide) (by omega) (by omega) (fun c13 => ?_) (fun c13 => ?_)
  · refine ev_aload_n dX9_say_23 rfl ?_
    refine ev_getIv dX9_say_24 fX9_85 hM.m hp ?_
    refine ev_iload_n dX9_say_27 rfl ?_
    refine ev_callS dX9_say_28 okX9_needs stX9_needs mlX9_88 [iV _] rfl rfl (Nat.le_of_ble_eq_true rfl) (Nat.le_of_ble_eq_true rfl) (sp_needs) (fun r_ G_ h_ => ?_)
    obtain ⟨rfl, rfl⟩ := h_
    rw [needN_nI hm]
    try dsimp only [Option.toList, List.cons_append, List.nil_append]
    refine ev_icmp_geN 36 dX9_say_31 (by decide) (by omega) (by omega) (fun c31 => absurd c31 (by omega)) (fun c31 => ?_)
    refine ev_iconstN 0 dX9_say_34 (by decide) ?_
    refine ev_zreturn dX9_say_35 rfl (by decide) ?_
    exact ⟨rfl, rfl⟩
  · refine ev_iload_n dX9_say_16 rfl ?_
    refine ev_callS dX9_say_17 okX9_isName stX9_isName mlX9_81 [iV _] rfl rfl (Nat.le_of_ble_eq_true rfl) (Nat.le_of_ble_eq_true rfl) (sp_isName) (fun r_ G_ h_ => ?_)
    obtain ⟨rfl, rfl⟩ := h_
    rw [hnm (by omega)]
    try dsimp only [Option.toList, List.cons_append, List.nil_append]
    refine ev_if_eq 34 dX9_say_20 (by decide) (fun c20 => absurd c20 (by decide)) (fun c20 => ?_)
    refine ev_aload_n dX9_say_23 rfl ?_
    refine ev_getIv dX9_say_24 fX9_85 hM.m hp ?_
    refine ev_iload_n dX9_say_27 rfl ?_
    refine ev_callS dX9_say_28 okX9_needs stX9_needs mlX9_88 [iV _] rfl rfl (Nat.le_of_ble_eq_true rfl) (Nat.le_of_ble_eq_true rfl) (sp_needs) (fun r_ G_ h_ => ?_)
    obtain ⟨rfl, rfl⟩ := h_
    rw [needN_nI hm]
    try dsimp only [Option.toList, List.cons_append, List.nil_append]
    refine ev_icmp_geN 36 dX9_say_31 (by decide) (by omega) (by omega) (fun c31 => absurd c31 (by omega)) (fun c31 => ?_)
    refine ev_iconstN 0 dX9_say_34 (by decide) ?_
    refine ev_zreturn dX9_say_35 rfl (by decide) ?_
    exact ⟨rfl, rfl⟩
set_option maxRecDepth 100000 in
set_option maxHeartbeats 4000000 in
theorem sp_say_c (hM : MFix K R Ln) {m : Nat} {v : Int32} (hm : m ≤ 12) (hnm : m = 12 → nmB v = 1) (hn : needM m = 0) (hp : I 576 11 = nI 8) : EvM X mX9_say (d + 1) [rV (some 11), iV (nI m), iV v] (K, I, J, R, A, B, Ln, n, sl) (fun r G' => r = some (iV 0) ∧ G' = (K, I, J, R, A, B, Ln, n, sl)) := by
  have hm0 : m < 4 ∨ m = 12 := by
    unfold needM at hn
    split at hn
    · assumption
    · split at hn <;> cases hn
  show Ev X mX9_say (d + 1) 0 [some (rV (some 11)), some (iV (nI m)), some (iV v), none, none, none, none, none] [] (K, I, J, R, A, B, Ln, n, sl) _
  refine ev_iload_n dX9_say_0 rfl ?_
  refine ev_if_ltN 34 dX9_say_1 (by decide) (by omega) ?_
  refine ev_iload_n dX9_say_4 rfl ?_
  refine ev_bipushN 12 dX9_say_5 (by decide) ?_
  refine ev_icmp_gtN 34 dX9_say_7 (by decide) (by omega) (by omega) (fun c7 => absurd c7 (by omega)) (fun c7 => ?_)
  refine ev_iload_n dX9_say_10 rfl ?_
  refine ev_bipushN 12 dX9_say_11 (by decide) ?_
  refine ev_icmp_neN 23 dX9_say_13 (by decide) (by omega) (by omega) (fun c13 => ?_) (fun c13 => ?_)
  · refine ev_aload_n dX9_say_23 rfl ?_
    refine ev_getIv dX9_say_24 fX9_85 hM.m hp ?_
    refine ev_iload_n dX9_say_27 rfl ?_
    refine ev_callS dX9_say_28 okX9_needs stX9_needs mlX9_88 [iV _] rfl rfl (Nat.le_of_ble_eq_true rfl) (Nat.le_of_ble_eq_true rfl) (sp_needs) (fun r_ G_ h_ => ?_)
    obtain ⟨rfl, rfl⟩ := h_
    rw [needN_nI hm, hn]
    try dsimp only [Option.toList, List.cons_append, List.nil_append]
    refine ev_icmp_geN 36 dX9_say_31 (by decide) (by omega) (by omega) (fun c31 => ?_) (fun c31 => absurd c31 (by omega))
    refine ev_iload_n dX9_say_36 rfl ?_
    refine ev_bipushN 9 dX9_say_37 (by decide) ?_
    refine ev_icmp_ltN 52 dX9_say_39 (by decide) (by omega) (by omega) (fun c39 => ?_) (fun c39 => ?_)
    · refine ev_iconstN 0 dX9_say_52 (by decide) ?_
      refine ev_istore_nS dX9_say_53 (by decide) rfl ?_
      refine ev_iconstN 1 dX9_say_54 (by decide) ?_
      refine ev_istoreS dX9_say_55 (by decide) rfl ?_
      refine ev_aload_n dX9_say_57 rfl ?_
      refine ev_getIv dX9_say_58 fX9_85 hM.m hp ?_
      refine ev_iload_n dX9_say_61 rfl ?_
      refine ev_callS dX9_say_62 okX9_needs stX9_needs mlX9_88 [iV _] rfl rfl (Nat.le_of_ble_eq_true rfl) (Nat.le_of_ble_eq_true rfl) (sp_needs) (fun r_ G_ h_ => ?_)
      obtain ⟨rfl, rfl⟩ := h_
      rw [needN_nI hm, hn]
      try dsimp only [Option.toList, List.cons_append, List.nil_append]
      refine ev_isubN dX9_say_65 (by omega) ?_
      refine ev_istoreS dX9_say_66 (by decide) rfl ?_
      refine ev_iload dX9_say_68 rfl ?_
      refine ev_aload_n dX9_say_70 rfl ?_
      refine ev_getIv dX9_say_71 fX9_85 hM.m hp ?_
      refine ev_icmp_geN 108 dX9_say_74 (by decide) (by omega) (by omega) (fun c74 => ?_) (fun c74 => absurd c74 (by omega))
      refine ev_aload_n dX9_say_108 rfl ?_
      refine ev_getIv dX9_say_109 fX9_85 hM.m hp ?_
      refine ev_iload_n dX9_say_112 rfl ?_
      refine ev_callS dX9_say_113 okX9_needs stX9_needs mlX9_88 [iV _] rfl rfl (Nat.le_of_ble_eq_true rfl) (Nat.le_of_ble_eq_true rfl) (sp_needs) (fun r_ G_ h_ => ?_)
      obtain ⟨rfl, rfl⟩ := h_
      rw [needN_nI hm, hn]
      try dsimp only [Option.toList, List.cons_append, List.nil_append]
      refine ev_isubN dX9_say_116 (by omega) ?_
      refine ev_istoreS dX9_say_117 (by decide) rfl ?_
      refine ev_iload dX9_say_119 rfl ?_
      refine ev_bipushN 8 dX9_say_121 (by decide) ?_
      refine ev_icmp_eqN 133 dX9_say_123 (by decide) (by omega) (by omega) (fun c123 => ?_) (fun c123 => absurd c123 (by omega))
      refine ev_iconstN 0 dX9_say_133 (by decide) ?_
      refine ev_zreturn dX9_say_134 rfl (by decide) ?_
      exact ⟨rfl, rfl⟩
    · refine ev_iload_n dX9_say_42 rfl ?_
      refine ev_bipushN 11 dX9_say_43 (by decide) ?_
      refine ev_icmp_gtN 52 dX9_say_45 (by decide) (by omega) (by omega) (fun c45 => ?_) (fun c45 => absurd c45 (by omega))
      refine ev_iconstN 0 dX9_say_52 (by decide) ?_
      refine ev_istore_nS dX9_say_53 (by decide) rfl ?_
      refine ev_iconstN 1 dX9_say_54 (by decide) ?_
      refine ev_istoreS dX9_say_55 (by decide) rfl ?_
      refine ev_aload_n dX9_say_57 rfl ?_
      refine ev_getIv dX9_say_58 fX9_85 hM.m hp ?_
      refine ev_iload_n dX9_say_61 rfl ?_
      refine ev_callS dX9_say_62 okX9_needs stX9_needs mlX9_88 [iV _] rfl rfl (Nat.le_of_ble_eq_true rfl) (Nat.le_of_ble_eq_true rfl) (sp_needs) (fun r_ G_ h_ => ?_)
      obtain ⟨rfl, rfl⟩ := h_
      rw [needN_nI hm, hn]
      try dsimp only [Option.toList, List.cons_append, List.nil_append]
      refine ev_isubN dX9_say_65 (by omega) ?_
      refine ev_istoreS dX9_say_66 (by decide) rfl ?_
      refine ev_iload dX9_say_68 rfl ?_
      refine ev_aload_n dX9_say_70 rfl ?_
      refine ev_getIv dX9_say_71 fX9_85 hM.m hp ?_
      refine ev_icmp_geN 108 dX9_say_74 (by decide) (by omega) (by omega) (fun c74 => ?_) (fun c74 => absurd c74 (by omega))
      refine ev_aload_n dX9_say_108 rfl ?_
      refine ev_getIv dX9_say_109 fX9_85 hM.m hp ?_
      refine ev_iload_n dX9_say_112 rfl ?_
      refine ev_callS dX9_say_113 okX9_needs stX9_needs mlX9_88 [iV _] rfl rfl (Nat.le_of_ble_eq_true rfl) (Nat.le_of_ble_eq_true rfl) (sp_needs) (fun r_ G_ h_ => ?_)
      obtain ⟨rfl, rfl⟩ := h_
      rw [needN_nI hm, hn]
      try dsimp only [Option.toList, List.cons_append, List.nil_append]
      refine ev_isubN dX9_say_116 (by omega) ?_
      refine ev_istoreS dX9_say_117 (by decide) rfl ?_
      refine ev_iload dX9_say_119 rfl ?_
      refine ev_bipushN 8 dX9_say_121 (by decide) ?_
      refine ev_icmp_eqN 133 dX9_say_123 (by decide) (by omega) (by omega) (fun c123 => ?_) (fun c123 => absurd c123 (by omega))
      refine ev_iconstN 0 dX9_say_133 (by decide) ?_
      refine ev_zreturn dX9_say_134 rfl (by decide) ?_
      exact ⟨rfl, rfl⟩
  · refine ev_iload_n dX9_say_16 rfl ?_
    refine ev_callS dX9_say_17 okX9_isName stX9_isName mlX9_81 [iV _] rfl rfl (Nat.le_of_ble_eq_true rfl) (Nat.le_of_ble_eq_true rfl) (sp_isName) (fun r_ G_ h_ => ?_)
    obtain ⟨rfl, rfl⟩ := h_
    rw [hnm (by omega)]
    try dsimp only [Option.toList, List.cons_append, List.nil_append]
    refine ev_if_eq 34 dX9_say_20 (by decide) (fun c20 => absurd c20 (by decide)) (fun c20 => ?_)
    refine ev_aload_n dX9_say_23 rfl ?_
    refine ev_getIv dX9_say_24 fX9_85 hM.m hp ?_
    refine ev_iload_n dX9_say_27 rfl ?_
    refine ev_callS dX9_say_28 okX9_needs stX9_needs mlX9_88 [iV _] rfl rfl (Nat.le_of_ble_eq_true rfl) (Nat.le_of_ble_eq_true rfl) (sp_needs) (fun r_ G_ h_ => ?_)
    obtain ⟨rfl, rfl⟩ := h_
    rw [needN_nI hm, hn]
    try dsimp only [Option.toList, List.cons_append, List.nil_append]
    refine ev_icmp_geN 36 dX9_say_31 (by decide) (by omega) (by omega) (fun c31 => ?_) (fun c31 => absurd c31 (by omega))
    refine ev_iload_n dX9_say_36 rfl ?_
    refine ev_bipushN 9 dX9_say_37 (by decide) ?_
    refine ev_icmp_ltN 52 dX9_say_39 (by decide) (by omega) (by omega) (fun c39 => ?_) (fun c39 => ?_)
    · refine ev_iconstN 0 dX9_say_52 (by decide) ?_
      refine ev_istore_nS dX9_say_53 (by decide) rfl ?_
      refine ev_iconstN 1 dX9_say_54 (by decide) ?_
      refine ev_istoreS dX9_say_55 (by decide) rfl ?_
      refine ev_aload_n dX9_say_57 rfl ?_
      refine ev_getIv dX9_say_58 fX9_85 hM.m hp ?_
      refine ev_iload_n dX9_say_61 rfl ?_
      refine ev_callS dX9_say_62 okX9_needs stX9_needs mlX9_88 [iV _] rfl rfl (Nat.le_of_ble_eq_true rfl) (Nat.le_of_ble_eq_true rfl) (sp_needs) (fun r_ G_ h_ => ?_)
      obtain ⟨rfl, rfl⟩ := h_
      rw [needN_nI hm, hn]
      try dsimp only [Option.toList, List.cons_append, List.nil_append]
      refine ev_isubN dX9_say_65 (by omega) ?_
      refine ev_istoreS dX9_say_66 (by decide) rfl ?_
      refine ev_iload dX9_say_68 rfl ?_
      refine ev_aload_n dX9_say_70 rfl ?_
      refine ev_getIv dX9_say_71 fX9_85 hM.m hp ?_
      refine ev_icmp_geN 108 dX9_say_74 (by decide) (by omega) (by omega) (fun c74 => ?_) (fun c74 => absurd c74 (by omega))
      refine ev_aload_n dX9_say_108 rfl ?_
      refine ev_getIv dX9_say_109 fX9_85 hM.m hp ?_
      refine ev_iload_n dX9_say_112 rfl ?_
      refine ev_callS dX9_say_113 okX9_needs stX9_needs mlX9_88 [iV _] rfl rfl (Nat.le_of_ble_eq_true rfl) (Nat.le_of_ble_eq_true rfl) (sp_needs) (fun r_ G_ h_ => ?_)
      obtain ⟨rfl, rfl⟩ := h_
      rw [needN_nI hm, hn]
      try dsimp only [Option.toList, List.cons_append, List.nil_append]
      refine ev_isubN dX9_say_116 (by omega) ?_
      refine ev_istoreS dX9_say_117 (by decide) rfl ?_
      refine ev_iload dX9_say_119 rfl ?_
      refine ev_bipushN 8 dX9_say_121 (by decide) ?_
      refine ev_icmp_eqN 133 dX9_say_123 (by decide) (by omega) (by omega) (fun c123 => ?_) (fun c123 => absurd c123 (by omega))
      refine ev_iconstN 0 dX9_say_133 (by decide) ?_
      refine ev_zreturn dX9_say_134 rfl (by decide) ?_
      exact ⟨rfl, rfl⟩
    · refine ev_iload_n dX9_say_42 rfl ?_
      refine ev_bipushN 11 dX9_say_43 (by decide) ?_
      refine ev_icmp_gtN 52 dX9_say_45 (by decide) (by omega) (by omega) (fun c45 => ?_) (fun c45 => absurd c45 (by omega))
      refine ev_iconstN 0 dX9_say_52 (by decide) ?_
      refine ev_istore_nS dX9_say_53 (by decide) rfl ?_
      refine ev_iconstN 1 dX9_say_54 (by decide) ?_
      refine ev_istoreS dX9_say_55 (by decide) rfl ?_
      refine ev_aload_n dX9_say_57 rfl ?_
      refine ev_getIv dX9_say_58 fX9_85 hM.m hp ?_
      refine ev_iload_n dX9_say_61 rfl ?_
      refine ev_callS dX9_say_62 okX9_needs stX9_needs mlX9_88 [iV _] rfl rfl (Nat.le_of_ble_eq_true rfl) (Nat.le_of_ble_eq_true rfl) (sp_needs) (fun r_ G_ h_ => ?_)
      obtain ⟨rfl, rfl⟩ := h_
      rw [needN_nI hm, hn]
      try dsimp only [Option.toList, List.cons_append, List.nil_append]
      refine ev_isubN dX9_say_65 (by omega) ?_
      refine ev_istoreS dX9_say_66 (by decide) rfl ?_
      refine ev_iload dX9_say_68 rfl ?_
      refine ev_aload_n dX9_say_70 rfl ?_
      refine ev_getIv dX9_say_71 fX9_85 hM.m hp ?_
      refine ev_icmp_geN 108 dX9_say_74 (by decide) (by omega) (by omega) (fun c74 => ?_) (fun c74 => absurd c74 (by omega))
      refine ev_aload_n dX9_say_108 rfl ?_
      refine ev_getIv dX9_say_109 fX9_85 hM.m hp ?_
      refine ev_iload_n dX9_say_112 rfl ?_
      refine ev_callS dX9_say_113 okX9_needs stX9_needs mlX9_88 [iV _] rfl rfl (Nat.le_of_ble_eq_true rfl) (Nat.le_of_ble_eq_true rfl) (sp_needs) (fun r_ G_ h_ => ?_)
      obtain ⟨rfl, rfl⟩ := h_
      rw [needN_nI hm, hn]
      try dsimp only [Option.toList, List.cons_append, List.nil_append]
      refine ev_isubN dX9_say_116 (by omega) ?_
      refine ev_istoreS dX9_say_117 (by decide) rfl ?_
      refine ev_iload dX9_say_119 rfl ?_
      refine ev_bipushN 8 dX9_say_121 (by decide) ?_
      refine ev_icmp_eqN 133 dX9_say_123 (by decide) (by omega) (by omega) (fun c123 => ?_) (fun c123 => absurd c123 (by omega))
      refine ev_iconstN 0 dX9_say_133 (by decide) ?_
      refine ev_zreturn dX9_say_134 rfl (by decide) ?_
      exact ⟨rfl, rfl⟩
set_option maxRecDepth 100000 in
set_option maxHeartbeats 4000000 in
theorem sp_say_d1 (hM : MFix K R Ln) {p : Nat} {v : Int32} (hp : I 576 11 = nI (p + 1)) (hp8 : p < 8) (hb : ¬ A 15 p = 1) : EvM X mX9_say (d + 1) [rV (some 11), iV (nI 11), iV v] (K, I, J, R, A, B, Ln, n, sl) (fun r G' => r = some (iV 0) ∧ G' = (K, I, J, R, A, B, Ln, n, sl)) := by
  have hm : 11 ≤ 12 := by decide
  have hn : needM 11 = 1 := by decide
  skip
  show Ev X mX9_say (d + 1) 0 [some (rV (some 11)), some (iV (nI 11)), some (iV v), none, none, none, none, none] [] (K, I, J, R, A, B, Ln, n, sl) _
  refine ev_iload_n dX9_say_0 rfl ?_
  refine ev_if_ltN 34 dX9_say_1 (by decide) (by omega) ?_
  refine ev_iload_n dX9_say_4 rfl ?_
  refine ev_bipushN 12 dX9_say_5 (by decide) ?_
  refine ev_icmp_gtN 34 dX9_say_7 (by decide) (by omega) (by omega) (fun c7 => absurd c7 (by decide)) (fun c7 => ?_)
  refine ev_iload_n dX9_say_10 rfl ?_
  refine ev_bipushN 12 dX9_say_11 (by decide) ?_
  refine ev_icmp_neN 23 dX9_say_13 (by decide) (by omega) (by omega) (fun c13 => ?_) (fun c13 => absurd c13 (by decide))
  refine ev_aload_n dX9_say_23 rfl ?_
  refine ev_getIv dX9_say_24 fX9_85 hM.m hp ?_
  refine ev_iload_n dX9_say_27 rfl ?_
  refine ev_callS dX9_say_28 okX9_needs stX9_needs mlX9_88 [iV _] rfl rfl (Nat.le_of_ble_eq_true rfl) (Nat.le_of_ble_eq_true rfl) (sp_needs) (fun r_ G_ h_ => ?_)
  obtain ⟨rfl, rfl⟩ := h_
  rw [needN_nI hm, hn]
  try dsimp only [Option.toList, List.cons_append, List.nil_append]
  refine ev_icmp_geN 36 dX9_say_31 (by decide) (by omega) (by omega) (fun c31 => ?_) (fun c31 => absurd c31 (by omega))
  refine ev_iload_n dX9_say_36 rfl ?_
  refine ev_bipushN 9 dX9_say_37 (by decide) ?_
  refine ev_icmp_ltN 52 dX9_say_39 (by decide) (by omega) (by omega) (fun c39 => absurd c39 (by decide)) (fun c39 => ?_)
  refine ev_iload_n dX9_say_42 rfl ?_
  refine ev_bipushN 11 dX9_say_43 (by decide) ?_
  refine ev_icmp_gtN 52 dX9_say_45 (by decide) (by omega) (by omega) (fun c45 => absurd c45 (by decide)) (fun c45 => ?_)
  refine ev_iconstN 1 dX9_say_48 (by decide) ?_
  refine ev_goto 53 dX9_say_49 (by decide) ?_
  refine ev_istore_nS dX9_say_53 (by decide) rfl ?_
  refine ev_iconstN 1 dX9_say_54 (by decide) ?_
  refine ev_istoreS dX9_say_55 (by decide) rfl ?_
  refine ev_aload_n dX9_say_57 rfl ?_
  refine ev_getIv dX9_say_58 fX9_85 hM.m hp ?_
  refine ev_iload_n dX9_say_61 rfl ?_
  refine ev_callS dX9_say_62 okX9_needs stX9_needs mlX9_88 [iV _] rfl rfl (Nat.le_of_ble_eq_true rfl) (Nat.le_of_ble_eq_true rfl) (sp_needs) (fun r_ G_ h_ => ?_)
  obtain ⟨rfl, rfl⟩ := h_
  rw [needN_nI hm, hn]
  try dsimp only [Option.toList, List.cons_append, List.nil_append]
  refine ev_isubN dX9_say_65 (by omega) ?_
  refine ev_istoreS dX9_say_66 (by decide) rfl ?_
  refine ev_iload dX9_say_68 rfl ?_
  refine ev_aload_n dX9_say_70 rfl ?_
  refine ev_getIv dX9_say_71 fX9_85 hM.m hp ?_
  refine ev_icmp_geN 108 dX9_say_74 (by decide) (by omega) (by omega) (fun c74 => absurd c74 (by omega)) (fun c74 => ?_)
  refine ev_aload_n dX9_say_77 rfl ?_
  refine ev_getR dX9_say_78 fX9_19 hM.m hM.R_bool ?_
  refine ev_iload dX9_say_81 rfl ?_
  refine ev_zald dX9_say_83 hM.K_bool hM.L_bool (by decide) (by omega) ?_
  refine ev_iload_n dX9_say_84 rfl ?_
  refine ev_icmp_eq (y := 1) 90 dX9_say_85 (by decide) (fun c85 => absurd c85 hb) (fun c85 => ?_)
  refine ev_iconstN 0 dX9_say_88 (by decide) ?_
  refine ev_zreturn dX9_say_89 rfl (by decide) ?_
  exact ⟨rfl, rfl⟩
set_option maxRecDepth 100000 in
set_option maxHeartbeats 4000000 in
theorem sp_say_d2 (hM : MFix K R Ln) {p : Nat} {v : Int32} (hp : I 576 11 = nI (p + 1)) (hp8 : p < 8) {e : EX} (hE : ExA A p e) (hb : A 15 p = 1) (he : 15 ≤ e.length) : EvM X mX9_say (d + 1) [rV (some 11), iV (nI 11), iV v] (K, I, J, R, A, B, Ln, n, sl) (fun r G' => r = some (iV 0) ∧ G' = (K, I, J, R, A, B, Ln, n, sl)) := by
  have hm : 11 ≤ 12 := by decide
  have hn : needM 11 = 1 := by decide
  have hel := hE.2.1
  show Ev X mX9_say (d + 1) 0 [some (rV (some 11)), some (iV (nI 11)), some (iV v), none, none, none, none, none] [] (K, I, J, R, A, B, Ln, n, sl) _
  refine ev_iload_n dX9_say_0 rfl ?_
  refine ev_if_ltN 34 dX9_say_1 (by decide) (by omega) ?_
  refine ev_iload_n dX9_say_4 rfl ?_
  refine ev_bipushN 12 dX9_say_5 (by decide) ?_
  refine ev_icmp_gtN 34 dX9_say_7 (by decide) (by omega) (by omega) (fun c7 => absurd c7 (by decide)) (fun c7 => ?_)
  refine ev_iload_n dX9_say_10 rfl ?_
  refine ev_bipushN 12 dX9_say_11 (by decide) ?_
  refine ev_icmp_neN 23 dX9_say_13 (by decide) (by omega) (by omega) (fun c13 => ?_) (fun c13 => absurd c13 (by decide))
  refine ev_aload_n dX9_say_23 rfl ?_
  refine ev_getIv dX9_say_24 fX9_85 hM.m hp ?_
  refine ev_iload_n dX9_say_27 rfl ?_
  refine ev_callS dX9_say_28 okX9_needs stX9_needs mlX9_88 [iV _] rfl rfl (Nat.le_of_ble_eq_true rfl) (Nat.le_of_ble_eq_true rfl) (sp_needs) (fun r_ G_ h_ => ?_)
  obtain ⟨rfl, rfl⟩ := h_
  rw [needN_nI hm, hn]
  try dsimp only [Option.toList, List.cons_append, List.nil_append]
  refine ev_icmp_geN 36 dX9_say_31 (by decide) (by omega) (by omega) (fun c31 => ?_) (fun c31 => absurd c31 (by omega))
  refine ev_iload_n dX9_say_36 rfl ?_
  refine ev_bipushN 9 dX9_say_37 (by decide) ?_
  refine ev_icmp_ltN 52 dX9_say_39 (by decide) (by omega) (by omega) (fun c39 => absurd c39 (by decide)) (fun c39 => ?_)
  refine ev_iload_n dX9_say_42 rfl ?_
  refine ev_bipushN 11 dX9_say_43 (by decide) ?_
  refine ev_icmp_gtN 52 dX9_say_45 (by decide) (by omega) (by omega) (fun c45 => absurd c45 (by decide)) (fun c45 => ?_)
  refine ev_iconstN 1 dX9_say_48 (by decide) ?_
  refine ev_goto 53 dX9_say_49 (by decide) ?_
  refine ev_istore_nS dX9_say_53 (by decide) rfl ?_
  refine ev_iconstN 1 dX9_say_54 (by decide) ?_
  refine ev_istoreS dX9_say_55 (by decide) rfl ?_
  refine ev_aload_n dX9_say_57 rfl ?_
  refine ev_getIv dX9_say_58 fX9_85 hM.m hp ?_
  refine ev_iload_n dX9_say_61 rfl ?_
  refine ev_callS dX9_say_62 okX9_needs stX9_needs mlX9_88 [iV _] rfl rfl (Nat.le_of_ble_eq_true rfl) (Nat.le_of_ble_eq_true rfl) (sp_needs) (fun r_ G_ h_ => ?_)
  obtain ⟨rfl, rfl⟩ := h_
  rw [needN_nI hm, hn]
  try dsimp only [Option.toList, List.cons_append, List.nil_append]
  refine ev_isubN dX9_say_65 (by omega) ?_
  refine ev_istoreS dX9_say_66 (by decide) rfl ?_
  refine ev_iload dX9_say_68 rfl ?_
  refine ev_aload_n dX9_say_70 rfl ?_
  refine ev_getIv dX9_say_71 fX9_85 hM.m hp ?_
  refine ev_icmp_geN 108 dX9_say_74 (by decide) (by omega) (by omega) (fun c74 => absurd c74 (by omega)) (fun c74 => ?_)
  refine ev_aload_n dX9_say_77 rfl ?_
  refine ev_getR dX9_say_78 fX9_19 hM.m hM.R_bool ?_
  refine ev_iload dX9_say_81 rfl ?_
  refine ev_zaldv dX9_say_83 hM.K_bool hM.L_bool (by decide) (by omega) hb ?_
  refine ev_iload_n dX9_say_84 rfl ?_
  refine ev_icmp_eq (y := 1) 90 dX9_say_85 (by decide) (fun c85 => ?_) (fun c85 => absurd c85 (fun z => z rfl))
  refine ev_iload dX9_say_90 rfl ?_
  refine ev_aload_n dX9_say_92 rfl ?_
  refine ev_getR dX9_say_93 fX9_7 hM.m hM.R_nodes ?_
  refine ev_iload dX9_say_96 rfl ?_
  refine ev_ialdv dX9_say_98 hM.K_nodes hM.L_nodes (by decide) (by omega) hE.1 ?_
  refine ev_iaddN dX9_say_99 ?_
  refine ev_istoreS dX9_say_100 (by decide) rfl ?_
  refine ev_iincNS (b := 1) dX9_say_102 rfl (by decide) (by decide) rfl ?_
  refine ev_goto 68 dX9_say_105 (by decide) ?_
  refine ev_iload dX9_say_68 rfl ?_
  refine ev_aload_n dX9_say_70 rfl ?_
  refine ev_getIv dX9_say_71 fX9_85 hM.m hp ?_
  refine ev_icmp_geN 108 dX9_say_74 (by decide) (by omega) (by omega) (fun c74 => ?_) (fun c74 => absurd c74 (by omega))
  refine ev_aload_n dX9_say_108 rfl ?_
  refine ev_getIv dX9_say_109 fX9_85 hM.m hp ?_
  refine ev_iload_n dX9_say_112 rfl ?_
  refine ev_callS dX9_say_113 okX9_needs stX9_needs mlX9_88 [iV _] rfl rfl (Nat.le_of_ble_eq_true rfl) (Nat.le_of_ble_eq_true rfl) (sp_needs) (fun r_ G_ h_ => ?_)
  obtain ⟨rfl, rfl⟩ := h_
  rw [needN_nI hm, hn]
  try dsimp only [Option.toList, List.cons_append, List.nil_append]
  refine ev_isubN dX9_say_116 (by omega) ?_
  refine ev_istoreS dX9_say_117 (by decide) rfl ?_
  refine ev_iload dX9_say_119 rfl ?_
  refine ev_bipushN 8 dX9_say_121 (by decide) ?_
  refine ev_icmp_eqN 133 dX9_say_123 (by decide) (by omega) (by omega) (fun c123 => absurd c123 (by omega)) (fun c123 => ?_)
  refine ev_iload dX9_say_126 rfl ?_
  refine ev_bipushN 15 dX9_say_128 (by decide) ?_
  refine ev_icmp_leN 135 dX9_say_130 (by decide) (by omega) (by omega) (fun c130 => absurd c130 (by omega)) (fun c130 => ?_)
  refine ev_iconstN 0 dX9_say_133 (by decide) ?_
  refine ev_zreturn dX9_say_134 rfl (by decide) ?_
  exact ⟨rfl, rfl⟩
set_option maxRecDepth 100000 in
set_option maxHeartbeats 4000000 in
theorem sp_say_e1 (hM : MFix K R Ln) {m p : Nat} {v : Int32} (hm : m ≤ 12) (hn : needM m = 2) (hp : I 576 11 = nI (p + 2)) (hp8 : p + 2 ≤ 8) (hb1 : ¬ A 15 p = nI (ofB m)) : EvM X mX9_say (d + 1) [rV (some 11), iV (nI m), iV v] (K, I, J, R, A, B, Ln, n, sl) (fun r G' => r = some (iV 0) ∧ G' = (K, I, J, R, A, B, Ln, n, sl)) := by
  have hm2 : 4 ≤ m ∧ m ≤ 10 := by
    unfold needM at hn
    split at hn
    · cases hn
    · split at hn
      · cases hn
      · omega
  have hob : ofB m ≤ 1 := by unfold ofB; split <;> omega
  skip
  have k53 : ∀ z : Nat, z = ofB m → Ev X mX9_say (d + 1) 53 [some (rV (some 11)), some (iV (nI m)), some (iV v), none, none, none, none, none] [iV (nI z)] (K, I, J, R, A, B, Ln, n, sl) (fun r G' => r = some (iV 0) ∧ G' = (K, I, J, R, A, B, Ln, n, sl)) := by
    intro z hz
    subst hz
    refine ev_istore_nS dX9_say_53 (by decide) rfl ?_
    refine ev_iconstN 1 dX9_say_54 (by decide) ?_
    refine ev_istoreS dX9_say_55 (by decide) rfl ?_
    refine ev_aload_n dX9_say_57 rfl ?_
    refine ev_getIv dX9_say_58 fX9_85 hM.m hp ?_
    refine ev_iload_n dX9_say_61 rfl ?_
    refine ev_callS dX9_say_62 okX9_needs stX9_needs mlX9_88 [iV _] rfl rfl (Nat.le_of_ble_eq_true rfl) (Nat.le_of_ble_eq_true rfl) (sp_needs) (fun r_ G_ h_ => ?_)
    obtain ⟨rfl, rfl⟩ := h_
    rw [needN_nI hm, hn]
    try dsimp only [Option.toList, List.cons_append, List.nil_append]
    refine ev_isubN dX9_say_65 (by omega) ?_
    refine ev_istoreS dX9_say_66 (by decide) rfl ?_
    refine ev_iload dX9_say_68 rfl ?_
    refine ev_aload_n dX9_say_70 rfl ?_
    refine ev_getIv dX9_say_71 fX9_85 hM.m hp ?_
    refine ev_icmp_geN 108 dX9_say_74 (by decide) (by omega) (by omega) (fun c74 => absurd c74 (by omega)) (fun c74 => ?_)
    refine ev_aload_n dX9_say_77 rfl ?_
    refine ev_getR dX9_say_78 fX9_19 hM.m hM.R_bool ?_
    refine ev_iload dX9_say_81 rfl ?_
    refine ev_zald dX9_say_83 hM.K_bool hM.L_bool (by decide) (by omega) ?_
    refine ev_iload_n dX9_say_84 rfl ?_
    refine ev_icmp_eq 90 dX9_say_85 (by decide) (fun c85 => absurd c85 hb1) (fun c85 => ?_)
    refine ev_iconstN 0 dX9_say_88 (by decide) ?_
    refine ev_zreturn dX9_say_89 rfl (by decide) ?_
    exact ⟨rfl, rfl⟩
  show Ev X mX9_say (d + 1) 0 [some (rV (some 11)), some (iV (nI m)), some (iV v), none, none, none, none, none] [] (K, I, J, R, A, B, Ln, n, sl) _
  refine ev_iload_n dX9_say_0 rfl ?_
  refine ev_if_ltN 34 dX9_say_1 (by decide) (by omega) ?_
  refine ev_iload_n dX9_say_4 rfl ?_
  refine ev_bipushN 12 dX9_say_5 (by decide) ?_
  refine ev_icmp_gtN 34 dX9_say_7 (by decide) (by omega) (by omega) (fun c7 => absurd c7 (by omega)) (fun c7 => ?_)
  refine ev_iload_n dX9_say_10 rfl ?_
  refine ev_bipushN 12 dX9_say_11 (by decide) ?_
  refine ev_icmp_neN 23 dX9_say_13 (by decide) (by omega) (by omega) (fun c13 => ?_) (fun c13 => absurd c13 (by omega))
  refine ev_aload_n dX9_say_23 rfl ?_
  refine ev_getIv dX9_say_24 fX9_85 hM.m hp ?_
  refine ev_iload_n dX9_say_27 rfl ?_
  refine ev_callS dX9_say_28 okX9_needs stX9_needs mlX9_88 [iV _] rfl rfl (Nat.le_of_ble_eq_true rfl) (Nat.le_of_ble_eq_true rfl) (sp_needs) (fun r_ G_ h_ => ?_)
  obtain ⟨rfl, rfl⟩ := h_
  rw [needN_nI hm, hn]
  try dsimp only [Option.toList, List.cons_append, List.nil_append]
  refine ev_icmp_geN 36 dX9_say_31 (by decide) (by omega) (by omega) (fun c31 => ?_) (fun c31 => absurd c31 (by omega))
  refine ev_iload_n dX9_say_36 rfl ?_
  refine ev_bipushN 9 dX9_say_37 (by decide) ?_
  refine ev_icmp_ltN 52 dX9_say_39 (by decide) (by omega) (by omega) (fun c39 => ?_) (fun c39 => ?_)
  · refine ev_iconstN 0 dX9_say_52 (by decide) ?_
    first | exact k53 0 (by unfold ofB; rw [if_neg (by omega)]) | exact k53 1 (by unfold ofB; rw [if_pos (by omega)])
  · refine ev_iload_n dX9_say_42 rfl ?_
    refine ev_bipushN 11 dX9_say_43 (by decide) ?_
    refine ev_icmp_gtN 52 dX9_say_45 (by decide) (by omega) (by omega) (fun c45 => ?_) (fun c45 => ?_)
    · refine ev_iconstN 0 dX9_say_52 (by decide) ?_
      first | exact k53 0 (by unfold ofB; rw [if_neg (by omega)]) | exact k53 1 (by unfold ofB; rw [if_pos (by omega)])
    · refine ev_iconstN 1 dX9_say_48 (by decide) ?_
      refine ev_goto 53 dX9_say_49 (by decide) ?_
      first | exact k53 0 (by unfold ofB; rw [if_neg (by omega)]) | exact k53 1 (by unfold ofB; rw [if_pos (by omega)])
set_option maxRecDepth 100000 in
set_option maxHeartbeats 4000000 in
theorem sp_say_e2 (hM : MFix K R Ln) {m p : Nat} {v : Int32} (hm : m ≤ 12) (hn : needM m = 2) (hp : I 576 11 = nI (p + 2)) (hp8 : p + 2 ≤ 8) {e1 : EX} (hE1 : ExA A p e1) (hb1 : A 15 p = nI (ofB m)) (hb2 : ¬ A 15 (p + 1) = nI (ofB m)) : EvM X mX9_say (d + 1) [rV (some 11), iV (nI m), iV v] (K, I, J, R, A, B, Ln, n, sl) (fun r G' => r = some (iV 0) ∧ G' = (K, I, J, R, A, B, Ln, n, sl)) := by
  have hm2 : 4 ≤ m ∧ m ≤ 10 := by
    unfold needM at hn
    split at hn
    · cases hn
    · split at hn
      · cases hn
      · omega
  have hob : ofB m ≤ 1 := by unfold ofB; split <;> omega
  have hel1 := hE1.2.1
  have k53 : ∀ z : Nat, z = ofB m → Ev X mX9_say (d + 1) 53 [some (rV (some 11)), some (iV (nI m)), some (iV v), none, none, none, none, none] [iV (nI z)] (K, I, J, R, A, B, Ln, n, sl) (fun r G' => r = some (iV 0) ∧ G' = (K, I, J, R, A, B, Ln, n, sl)) := by
    intro z hz
    subst hz
    refine ev_istore_nS dX9_say_53 (by decide) rfl ?_
    refine ev_iconstN 1 dX9_say_54 (by decide) ?_
    refine ev_istoreS dX9_say_55 (by decide) rfl ?_
    refine ev_aload_n dX9_say_57 rfl ?_
    refine ev_getIv dX9_say_58 fX9_85 hM.m hp ?_
    refine ev_iload_n dX9_say_61 rfl ?_
    refine ev_callS dX9_say_62 okX9_needs stX9_needs mlX9_88 [iV _] rfl rfl (Nat.le_of_ble_eq_true rfl) (Nat.le_of_ble_eq_true rfl) (sp_needs) (fun r_ G_ h_ => ?_)
    obtain ⟨rfl, rfl⟩ := h_
    rw [needN_nI hm, hn]
    try dsimp only [Option.toList, List.cons_append, List.nil_append]
    refine ev_isubN dX9_say_65 (by omega) ?_
    refine ev_istoreS dX9_say_66 (by decide) rfl ?_
    refine ev_iload dX9_say_68 rfl ?_
    refine ev_aload_n dX9_say_70 rfl ?_
    refine ev_getIv dX9_say_71 fX9_85 hM.m hp ?_
    refine ev_icmp_geN 108 dX9_say_74 (by decide) (by omega) (by omega) (fun c74 => absurd c74 (by omega)) (fun c74 => ?_)
    refine ev_aload_n dX9_say_77 rfl ?_
    refine ev_getR dX9_say_78 fX9_19 hM.m hM.R_bool ?_
    refine ev_iload dX9_say_81 rfl ?_
    refine ev_zaldv dX9_say_83 hM.K_bool hM.L_bool (by decide) (by omega) hb1 ?_
    refine ev_iload_n dX9_say_84 rfl ?_
    refine ev_icmp_eqN 90 dX9_say_85 (by decide) (by omega) (by omega) (fun c85 => ?_) (fun c85 => absurd c85 (fun z => z rfl))
    refine ev_iload dX9_say_90 rfl ?_
    refine ev_aload_n dX9_say_92 rfl ?_
    refine ev_getR dX9_say_93 fX9_7 hM.m hM.R_nodes ?_
    refine ev_iload dX9_say_96 rfl ?_
    refine ev_ialdv dX9_say_98 hM.K_nodes hM.L_nodes (by decide) (by omega) hE1.1 ?_
    refine ev_iaddN dX9_say_99 ?_
    refine ev_istoreS dX9_say_100 (by decide) rfl ?_
    refine ev_iincNS (b := 1) dX9_say_102 rfl (by decide) (by decide) rfl ?_
    refine ev_goto 68 dX9_say_105 (by decide) ?_
    refine ev_iload dX9_say_68 rfl ?_
    refine ev_aload_n dX9_say_70 rfl ?_
    refine ev_getIv dX9_say_71 fX9_85 hM.m hp ?_
    refine ev_icmp_geN 108 dX9_say_74 (by decide) (by omega) (by omega) (fun c74 => absurd c74 (by omega)) (fun c74 => ?_)
    refine ev_aload_n dX9_say_77 rfl ?_
    refine ev_getR dX9_say_78 fX9_19 hM.m hM.R_bool ?_
    refine ev_iload dX9_say_81 rfl ?_
    refine ev_zald dX9_say_83 hM.K_bool hM.L_bool (by decide) (by omega) ?_
    refine ev_iload_n dX9_say_84 rfl ?_
    refine ev_icmp_eq 90 dX9_say_85 (by decide) (fun c85 => absurd c85 hb2) (fun c85 => ?_)
    refine ev_iconstN 0 dX9_say_88 (by decide) ?_
    refine ev_zreturn dX9_say_89 rfl (by decide) ?_
    exact ⟨rfl, rfl⟩
  show Ev X mX9_say (d + 1) 0 [some (rV (some 11)), some (iV (nI m)), some (iV v), none, none, none, none, none] [] (K, I, J, R, A, B, Ln, n, sl) _
  refine ev_iload_n dX9_say_0 rfl ?_
  refine ev_if_ltN 34 dX9_say_1 (by decide) (by omega) ?_
  refine ev_iload_n dX9_say_4 rfl ?_
  refine ev_bipushN 12 dX9_say_5 (by decide) ?_
  refine ev_icmp_gtN 34 dX9_say_7 (by decide) (by omega) (by omega) (fun c7 => absurd c7 (by omega)) (fun c7 => ?_)
  refine ev_iload_n dX9_say_10 rfl ?_
  refine ev_bipushN 12 dX9_say_11 (by decide) ?_
  refine ev_icmp_neN 23 dX9_say_13 (by decide) (by omega) (by omega) (fun c13 => ?_) (fun c13 => absurd c13 (by omega))
  refine ev_aload_n dX9_say_23 rfl ?_
  refine ev_getIv dX9_say_24 fX9_85 hM.m hp ?_
  refine ev_iload_n dX9_say_27 rfl ?_
  refine ev_callS dX9_say_28 okX9_needs stX9_needs mlX9_88 [iV _] rfl rfl (Nat.le_of_ble_eq_true rfl) (Nat.le_of_ble_eq_true rfl) (sp_needs) (fun r_ G_ h_ => ?_)
  obtain ⟨rfl, rfl⟩ := h_
  rw [needN_nI hm, hn]
  try dsimp only [Option.toList, List.cons_append, List.nil_append]
  refine ev_icmp_geN 36 dX9_say_31 (by decide) (by omega) (by omega) (fun c31 => ?_) (fun c31 => absurd c31 (by omega))
  refine ev_iload_n dX9_say_36 rfl ?_
  refine ev_bipushN 9 dX9_say_37 (by decide) ?_
  refine ev_icmp_ltN 52 dX9_say_39 (by decide) (by omega) (by omega) (fun c39 => ?_) (fun c39 => ?_)
  · refine ev_iconstN 0 dX9_say_52 (by decide) ?_
    first | exact k53 0 (by unfold ofB; rw [if_neg (by omega)]) | exact k53 1 (by unfold ofB; rw [if_pos (by omega)])
  · refine ev_iload_n dX9_say_42 rfl ?_
    refine ev_bipushN 11 dX9_say_43 (by decide) ?_
    refine ev_icmp_gtN 52 dX9_say_45 (by decide) (by omega) (by omega) (fun c45 => ?_) (fun c45 => ?_)
    · refine ev_iconstN 0 dX9_say_52 (by decide) ?_
      first | exact k53 0 (by unfold ofB; rw [if_neg (by omega)]) | exact k53 1 (by unfold ofB; rw [if_pos (by omega)])
    · refine ev_iconstN 1 dX9_say_48 (by decide) ?_
      refine ev_goto 53 dX9_say_49 (by decide) ?_
      first | exact k53 0 (by unfold ofB; rw [if_neg (by omega)]) | exact k53 1 (by unfold ofB; rw [if_pos (by omega)])
set_option maxRecDepth 100000 in
set_option maxHeartbeats 4000000 in
theorem sp_say_e3 (hM : MFix K R Ln) {m p : Nat} {v : Int32} (hm : m ≤ 12) (hn : needM m = 2) (hp : I 576 11 = nI (p + 2)) (hp8 : p + 2 ≤ 8) {e1 e2 : EX} (hE1 : ExA A p e1) (hE2 : ExA A (p + 1) e2) (hb1 : A 15 p = nI (ofB m)) (hb2 : A 15 (p + 1) = nI (ofB m)) (hL : 15 ≤ e1.length + e2.length) : EvM X mX9_say (d + 1) [rV (some 11), iV (nI m), iV v] (K, I, J, R, A, B, Ln, n, sl) (fun r G' => r = some (iV 0) ∧ G' = (K, I, J, R, A, B, Ln, n, sl)) := by
  have hm2 : 4 ≤ m ∧ m ≤ 10 := by
    unfold needM at hn
    split at hn
    · cases hn
    · split at hn
      · cases hn
      · omega
  have hob : ofB m ≤ 1 := by unfold ofB; split <;> omega
  have hel1 := hE1.2.1
  have hel2 := hE2.2.1
  have k53 : ∀ z : Nat, z = ofB m → Ev X mX9_say (d + 1) 53 [some (rV (some 11)), some (iV (nI m)), some (iV v), none, none, none, none, none] [iV (nI z)] (K, I, J, R, A, B, Ln, n, sl) (fun r G' => r = some (iV 0) ∧ G' = (K, I, J, R, A, B, Ln, n, sl)) := by
    intro z hz
    subst hz
    refine ev_istore_nS dX9_say_53 (by decide) rfl ?_
    refine ev_iconstN 1 dX9_say_54 (by decide) ?_
    refine ev_istoreS dX9_say_55 (by decide) rfl ?_
    refine ev_aload_n dX9_say_57 rfl ?_
    refine ev_getIv dX9_say_58 fX9_85 hM.m hp ?_
    refine ev_iload_n dX9_say_61 rfl ?_
    refine ev_callS dX9_say_62 okX9_needs stX9_needs mlX9_88 [iV _] rfl rfl (Nat.le_of_ble_eq_true rfl) (Nat.le_of_ble_eq_true rfl) (sp_needs) (fun r_ G_ h_ => ?_)
    obtain ⟨rfl, rfl⟩ := h_
    rw [needN_nI hm, hn]
    try dsimp only [Option.toList, List.cons_append, List.nil_append]
    refine ev_isubN dX9_say_65 (by omega) ?_
    refine ev_istoreS dX9_say_66 (by decide) rfl ?_
    refine ev_iload dX9_say_68 rfl ?_
    refine ev_aload_n dX9_say_70 rfl ?_
    refine ev_getIv dX9_say_71 fX9_85 hM.m hp ?_
    refine ev_icmp_geN 108 dX9_say_74 (by decide) (by omega) (by omega) (fun c74 => absurd c74 (by omega)) (fun c74 => ?_)
    refine ev_aload_n dX9_say_77 rfl ?_
    refine ev_getR dX9_say_78 fX9_19 hM.m hM.R_bool ?_
    refine ev_iload dX9_say_81 rfl ?_
    refine ev_zaldv dX9_say_83 hM.K_bool hM.L_bool (by decide) (by omega) hb1 ?_
    refine ev_iload_n dX9_say_84 rfl ?_
    refine ev_icmp_eqN 90 dX9_say_85 (by decide) (by omega) (by omega) (fun c85 => ?_) (fun c85 => absurd c85 (fun z => z rfl))
    refine ev_iload dX9_say_90 rfl ?_
    refine ev_aload_n dX9_say_92 rfl ?_
    refine ev_getR dX9_say_93 fX9_7 hM.m hM.R_nodes ?_
    refine ev_iload dX9_say_96 rfl ?_
    refine ev_ialdv dX9_say_98 hM.K_nodes hM.L_nodes (by decide) (by omega) hE1.1 ?_
    refine ev_iaddN dX9_say_99 ?_
    refine ev_istoreS dX9_say_100 (by decide) rfl ?_
    refine ev_iincNS (b := 1) dX9_say_102 rfl (by decide) (by decide) rfl ?_
    refine ev_goto 68 dX9_say_105 (by decide) ?_
    refine ev_iload dX9_say_68 rfl ?_
    refine ev_aload_n dX9_say_70 rfl ?_
    refine ev_getIv dX9_say_71 fX9_85 hM.m hp ?_
    refine ev_icmp_geN 108 dX9_say_74 (by decide) (by omega) (by omega) (fun c74 => absurd c74 (by omega)) (fun c74 => ?_)
    refine ev_aload_n dX9_say_77 rfl ?_
    refine ev_getR dX9_say_78 fX9_19 hM.m hM.R_bool ?_
    refine ev_iload dX9_say_81 rfl ?_
    refine ev_zaldv dX9_say_83 hM.K_bool hM.L_bool (by decide) (by omega) hb2 ?_
    refine ev_iload_n dX9_say_84 rfl ?_
    refine ev_icmp_eqN 90 dX9_say_85 (by decide) (by omega) (by omega) (fun c85 => ?_) (fun c85 => absurd c85 (fun z => z rfl))
    refine ev_iload dX9_say_90 rfl ?_
    refine ev_aload_n dX9_say_92 rfl ?_
    refine ev_getR dX9_say_93 fX9_7 hM.m hM.R_nodes ?_
    refine ev_iload dX9_say_96 rfl ?_
    refine ev_ialdv dX9_say_98 hM.K_nodes hM.L_nodes (by decide) (by omega) hE2.1 ?_
    refine ev_iaddN dX9_say_99 ?_
    refine ev_istoreS dX9_say_100 (by decide) rfl ?_
    refine ev_iincNS (b := 1) dX9_say_102 rfl (by decide) (by decide) rfl ?_
    refine ev_goto 68 dX9_say_105 (by decide) ?_
    refine ev_iload dX9_say_68 rfl ?_
    refine ev_aload_n dX9_say_70 rfl ?_
    refine ev_getIv dX9_say_71 fX9_85 hM.m hp ?_
    refine ev_icmp_geN 108 dX9_say_74 (by decide) (by omega) (by omega) (fun c74 => ?_) (fun c74 => absurd c74 (by omega))
    refine ev_aload_n dX9_say_108 rfl ?_
    refine ev_getIv dX9_say_109 fX9_85 hM.m hp ?_
    refine ev_iload_n dX9_say_112 rfl ?_
    refine ev_callS dX9_say_113 okX9_needs stX9_needs mlX9_88 [iV _] rfl rfl (Nat.le_of_ble_eq_true rfl) (Nat.le_of_ble_eq_true rfl) (sp_needs) (fun r_ G_ h_ => ?_)
    obtain ⟨rfl, rfl⟩ := h_
    rw [needN_nI hm, hn]
    try dsimp only [Option.toList, List.cons_append, List.nil_append]
    refine ev_isubN dX9_say_116 (by omega) ?_
    refine ev_istoreS dX9_say_117 (by decide) rfl ?_
    refine ev_iload dX9_say_119 rfl ?_
    refine ev_bipushN 8 dX9_say_121 (by decide) ?_
    refine ev_icmp_eqN 133 dX9_say_123 (by decide) (by omega) (by omega) (fun c123 => absurd c123 (by omega)) (fun c123 => ?_)
    refine ev_iload dX9_say_126 rfl ?_
    refine ev_bipushN 15 dX9_say_128 (by decide) ?_
    refine ev_icmp_leN 135 dX9_say_130 (by decide) (by omega) (by omega) (fun c130 => absurd c130 (by omega)) (fun c130 => ?_)
    refine ev_iconstN 0 dX9_say_133 (by decide) ?_
    refine ev_zreturn dX9_say_134 rfl (by decide) ?_
    exact ⟨rfl, rfl⟩
  show Ev X mX9_say (d + 1) 0 [some (rV (some 11)), some (iV (nI m)), some (iV v), none, none, none, none, none] [] (K, I, J, R, A, B, Ln, n, sl) _
  refine ev_iload_n dX9_say_0 rfl ?_
  refine ev_if_ltN 34 dX9_say_1 (by decide) (by omega) ?_
  refine ev_iload_n dX9_say_4 rfl ?_
  refine ev_bipushN 12 dX9_say_5 (by decide) ?_
  refine ev_icmp_gtN 34 dX9_say_7 (by decide) (by omega) (by omega) (fun c7 => absurd c7 (by omega)) (fun c7 => ?_)
  refine ev_iload_n dX9_say_10 rfl ?_
  refine ev_bipushN 12 dX9_say_11 (by decide) ?_
  refine ev_icmp_neN 23 dX9_say_13 (by decide) (by omega) (by omega) (fun c13 => ?_) (fun c13 => absurd c13 (by omega))
  refine ev_aload_n dX9_say_23 rfl ?_
  refine ev_getIv dX9_say_24 fX9_85 hM.m hp ?_
  refine ev_iload_n dX9_say_27 rfl ?_
  refine ev_callS dX9_say_28 okX9_needs stX9_needs mlX9_88 [iV _] rfl rfl (Nat.le_of_ble_eq_true rfl) (Nat.le_of_ble_eq_true rfl) (sp_needs) (fun r_ G_ h_ => ?_)
  obtain ⟨rfl, rfl⟩ := h_
  rw [needN_nI hm, hn]
  try dsimp only [Option.toList, List.cons_append, List.nil_append]
  refine ev_icmp_geN 36 dX9_say_31 (by decide) (by omega) (by omega) (fun c31 => ?_) (fun c31 => absurd c31 (by omega))
  refine ev_iload_n dX9_say_36 rfl ?_
  refine ev_bipushN 9 dX9_say_37 (by decide) ?_
  refine ev_icmp_ltN 52 dX9_say_39 (by decide) (by omega) (by omega) (fun c39 => ?_) (fun c39 => ?_)
  · refine ev_iconstN 0 dX9_say_52 (by decide) ?_
    first | exact k53 0 (by unfold ofB; rw [if_neg (by omega)]) | exact k53 1 (by unfold ofB; rw [if_pos (by omega)])
  · refine ev_iload_n dX9_say_42 rfl ?_
    refine ev_bipushN 11 dX9_say_43 (by decide) ?_
    refine ev_icmp_gtN 52 dX9_say_45 (by decide) (by omega) (by omega) (fun c45 => ?_) (fun c45 => ?_)
    · refine ev_iconstN 0 dX9_say_52 (by decide) ?_
      first | exact k53 0 (by unfold ofB; rw [if_neg (by omega)]) | exact k53 1 (by unfold ofB; rw [if_pos (by omega)])
    · refine ev_iconstN 1 dX9_say_48 (by decide) ?_
      refine ev_goto 53 dX9_say_49 (by decide) ?_
      first | exact k53 0 (by unfold ofB; rw [if_neg (by omega)]) | exact k53 1 (by unfold ofB; rw [if_pos (by omega)])
end M16
