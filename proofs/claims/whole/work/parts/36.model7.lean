section M7
variable {X : CX} {d : Nat} {K : Nat → Nat} {I : Nat → Nat → Int32} {J : Nat → Nat → Int64} {R : Nat → Nat → Option Nat} {A : Nat → Nat → Int32} {B : Nat → Nat → Option Nat} {Ln : Nat → Nat} {n sl : Nat}
def plM (I : Nat → Nat → Int32) (J : Nat → Nat → Int64) (x : Int32) : Int64 := if x < 0 ∨ 3 < x then -1 else if x = 0 then (I 604 11).toInt64 else if x = 1 then (I 605 11).toInt64 else if x = 2 then J 606 11 else J 607 11
set_option maxRecDepth 100000 in
set_option maxHeartbeats 4000000 in
theorem sp_plan (hM : MFix K R Ln) {x : Int32} : EvM X mX9_plan d [rV (some 11), iV x] (K, I, J, R, A, B, Ln, n, sl) (fun r G' => r = some (lV (plM I J x)) ∧ G' = (K, I, J, R, A, B, Ln, n, sl)) := by
  show Ev X mX9_plan d 0 [some (rV (some 11)), some (iV x)] [] (K, I, J, R, A, B, Ln, n, sl) _
  unfold plM
  refine ev_iload_n dX9_plan_0 rfl ?_
  refine ev_if_lt 9 dX9_plan_1 (by decide) (fun c1 => ?_) (fun c1 => ?_)
  · refine ev_ldc2 dX9_plan_9 coX9_255 ?_
    refine ev_lreturn dX9_plan_12 rfl ?_
    try have z1 := Int32.not_lt.mpr c1
    try have y1 := Int32.not_le.mp c1
    try have z6 := Int32.not_lt.mpr c6
    try have y6 := Int32.not_le.mp c6
    exact ⟨by first | (simp [*]; done) | (simp [*]; rfl), rfl⟩
  · refine ev_iload_n dX9_plan_4 rfl ?_
    refine ev_iconstN 3 dX9_plan_5 (by decide) ?_
    refine ev_icmp_le (y := 3) 13 dX9_plan_6 (by decide) (fun c6 => ?_) (fun c6 => ?_)
    · refine ev_iload_n dX9_plan_13 rfl ?_
      refine ev_if_ne 25 dX9_plan_14 (by decide) (fun c14 => ?_) (fun c14 => ?_)
      · refine ev_iload_n dX9_plan_25 rfl ?_
        refine ev_iconstN 1 dX9_plan_26 (by decide) ?_
        refine ev_icmp_ne (y := 1) 38 dX9_plan_27 (by decide) (fun c27 => ?_) (fun c27 => ?_)
        · refine ev_iload_n dX9_plan_38 rfl ?_
          refine ev_iconstN 2 dX9_plan_39 (by decide) ?_
          refine ev_icmp_ne (y := 2) 50 dX9_plan_40 (by decide) (fun c40 => ?_) (fun c40 => ?_)
          · refine ev_aload_n dX9_plan_50 rfl ?_
            refine ev_getJ dX9_plan_51 fX9_242 hM.m ?_
            refine ev_lreturn dX9_plan_54 rfl ?_
            try have z1 := Int32.not_lt.mpr c1
            try have y1 := Int32.not_le.mp c1
            try have z6 := Int32.not_lt.mpr c6
            try have y6 := Int32.not_le.mp c6
            exact ⟨by first | (simp [*]; done) | (simp [*]; rfl), rfl⟩
          · refine ev_aload_n dX9_plan_43 rfl ?_
            refine ev_getJ dX9_plan_44 fX9_239 hM.m ?_
            refine ev_goto 54 dX9_plan_47 (by decide) ?_
            refine ev_lreturn dX9_plan_54 rfl ?_
            try have z1 := Int32.not_lt.mpr c1
            try have y1 := Int32.not_le.mp c1
            try have z6 := Int32.not_lt.mpr c6
            try have y6 := Int32.not_le.mp c6
            exact ⟨by first | (simp [*]; done) | (simp [*]; rfl), rfl⟩
        · refine ev_aload_n dX9_plan_30 rfl ?_
          refine ev_getI dX9_plan_31 fX9_249 hM.m ?_
          refine ev_i2l dX9_plan_34 ?_
          refine ev_goto 54 dX9_plan_35 (by decide) ?_
          refine ev_lreturn dX9_plan_54 rfl ?_
          try have z1 := Int32.not_lt.mpr c1
          try have y1 := Int32.not_le.mp c1
          try have z6 := Int32.not_lt.mpr c6
          try have y6 := Int32.not_le.mp c6
          exact ⟨by first | (simp [*]; done) | (simp [*]; rfl), rfl⟩
      · refine ev_aload_n dX9_plan_17 rfl ?_
        refine ev_getI dX9_plan_18 fX9_71 hM.m ?_
        refine ev_i2l dX9_plan_21 ?_
        refine ev_goto 54 dX9_plan_22 (by decide) ?_
        refine ev_lreturn dX9_plan_54 rfl ?_
        try have z1 := Int32.not_lt.mpr c1
        try have y1 := Int32.not_le.mp c1
        try have z6 := Int32.not_lt.mpr c6
        try have y6 := Int32.not_le.mp c6
        exact ⟨by first | (simp [*]; done) | (simp [*]; rfl), rfl⟩
    · refine ev_ldc2 dX9_plan_9 coX9_255 ?_
      refine ev_lreturn dX9_plan_12 rfl ?_
      try have z1 := Int32.not_lt.mpr c1
      try have y1 := Int32.not_le.mp c1
      try have z6 := Int32.not_lt.mpr c6
      try have y6 := Int32.not_le.mp c6
      exact ⟨by first | (simp [*]; done) | (simp [*]; rfl), rfl⟩
theorem key_in {k : Nat} (h : k < 32) : 0 ≤ nI k ∧ nI k ≤ 31 := ⟨nI_pos' (by omega), (nI_leI (b := 31) (by omega) (by decide)).mpr (by omega)⟩
set_option maxRecDepth 100000 in
set_option maxHeartbeats 4000000 in
theorem sp_write_yes (hM : MFix K R Ln) {tn : Nat} (ht : I 595 11 = nI tn) (hb : tn ≤ 60) {j k : Nat} {x z y : Int32} (hj : j < tn) (hs : A 25 j = 1) (hk : k < 32) (hz : z = 0 ∨ z = 1) (hy : nmB y = 1) : EvM X mX9_write (d + 1) [rV (some 11), iV (nI j), iV (nI k), iV x, iV z, iV y] (K, I, J, R, A, B, Ln, n, sl) (fun r G' => r = some (iV 1) ∧ G' = (K, I, J, R, u2 (u2 (u2 (u2 A 27 (32 * j + k) 1) 28 (3 * (32 * j + k)) x) 28 (3 * (32 * j + k) + 1) z) 28 (3 * (32 * j + k) + 2) y, B, Ln, n, sl)) := by
  have hkk := key_in hk
  have z0 : ¬ z < 0 := by rcases hz with rfl | rfl <;> decide
  have z1 : ¬ 1 < z := by rcases hz with rfl | rfl <;> decide
  show Ev X mX9_write (d + 1) 0 [some (rV (some 11)), some (iV (nI j)), some (iV (nI k)), some (iV x), some (iV z), some (iV y)] [] (K, I, J, R, A, B, Ln, n, sl) _
  refine ev_aload_n dX9_write_0 rfl ?_
  refine ev_iload_n dX9_write_1 rfl ?_
  refine ev_callV dX9_write_2 okX9_open inX9_open seX9_open mlX9_123 hM.m (by decide) rfl [iV _] rfl rfl (Nat.le_of_ble_eq_true rfl) (Nat.le_of_ble_eq_true rfl) (sp_open_yes hM ht hb hj hs) (fun r_ G_ h_ => ?_)
  obtain ⟨rfl, rfl⟩ := h_
  try dsimp only [Option.toList, List.cons_append, List.nil_append]
  refine ev_if_eq 34 dX9_write_5 (by decide) (fun c5 => absurd c5 (by decide)) (fun c5 => ?_)
  refine ev_iload_n dX9_write_8 rfl ?_
  refine ev_callS dX9_write_9 okX9_isKey stX9_isKey mlX9_126 [iV _] rfl rfl (Nat.le_of_ble_eq_true rfl) (Nat.le_of_ble_eq_true rfl) (sp_isKey) (fun r_ G_ h_ => ?_)
  obtain ⟨rfl, rfl⟩ := h_
  rw [if_pos hkk]
  try dsimp only [Option.toList, List.cons_append, List.nil_append]
  refine ev_if_eq 34 dX9_write_12 (by decide) (fun c12 => absurd c12 (by decide)) (fun c12 => ?_)
  refine ev_iload dX9_write_15 rfl ?_
  refine ev_if_lt 34 dX9_write_17 (by decide) (fun c17 => absurd c17 z0) (fun c17 => ?_)
  refine ev_iload dX9_write_20 rfl ?_
  refine ev_iconstN 1 dX9_write_22 (by decide) ?_
  refine ev_icmp_gt (y := 1) 34 dX9_write_23 (by decide) (fun c23 => absurd c23 z1) (fun c23 => ?_)
  refine ev_iload dX9_write_26 rfl ?_
  refine ev_callS dX9_write_28 okX9_isName stX9_isName mlX9_81 [iV _] rfl rfl (Nat.le_of_ble_eq_true rfl) (Nat.le_of_ble_eq_true rfl) (sp_isName) (fun r_ G_ h_ => ?_)
  obtain ⟨rfl, rfl⟩ := h_
  rw [hy]
  try dsimp only [Option.toList, List.cons_append, List.nil_append]
  refine ev_if_ne 36 dX9_write_31 (by decide) (fun c31 => ?_) (fun c31 => absurd c31 (by decide))
  refine ev_aload_n dX9_write_36 rfl ?_
  refine ev_getR dX9_write_37 fX9_56 hM.m hM.R_writes ?_
  refine ev_bipushN 32 dX9_write_40 (by decide) ?_
  refine ev_iload_n dX9_write_42 rfl ?_
  refine ev_imulN dX9_write_43 ?_
  refine ev_iload_n dX9_write_44 rfl ?_
  refine ev_iaddN dX9_write_45 ?_
  refine ev_iconstN 1 dX9_write_46 (by decide) ?_
  refine ev_iast dX9_write_47 hM.K_writes hM.L_writes (by decide) (by omega) ?_
  refine ev_aload_n dX9_write_48 rfl ?_
  refine ev_getR dX9_write_49 fX9_59 hM.m hM.R_rows ?_
  refine ev_iconstN 3 dX9_write_52 (by decide) ?_
  refine ev_bipushN 32 dX9_write_53 (by decide) ?_
  refine ev_iload_n dX9_write_55 rfl ?_
  refine ev_imulN dX9_write_56 ?_
  refine ev_iload_n dX9_write_57 rfl ?_
  refine ev_iaddN dX9_write_58 ?_
  refine ev_imulN dX9_write_59 ?_
  refine ev_iload_n dX9_write_60 rfl ?_
  refine ev_iast dX9_write_61 hM.K_rows hM.L_rows (by decide) (by omega) ?_
  refine ev_aload_n dX9_write_62 rfl ?_
  refine ev_getR dX9_write_63 fX9_59 hM.m hM.R_rows ?_
  refine ev_iconstN 3 dX9_write_66 (by decide) ?_
  refine ev_bipushN 32 dX9_write_67 (by decide) ?_
  refine ev_iload_n dX9_write_69 rfl ?_
  refine ev_imulN dX9_write_70 ?_
  refine ev_iload_n dX9_write_71 rfl ?_
  refine ev_iaddN dX9_write_72 ?_
  refine ev_imulN dX9_write_73 ?_
  refine ev_iconstN 1 dX9_write_74 (by decide) ?_
  refine ev_iaddN dX9_write_75 ?_
  refine ev_iload dX9_write_76 rfl ?_
  refine ev_iast dX9_write_78 hM.K_rows hM.L_rows (by decide) (by omega) ?_
  refine ev_aload_n dX9_write_79 rfl ?_
  refine ev_getR dX9_write_80 fX9_59 hM.m hM.R_rows ?_
  refine ev_iconstN 3 dX9_write_83 (by decide) ?_
  refine ev_bipushN 32 dX9_write_84 (by decide) ?_
  refine ev_iload_n dX9_write_86 rfl ?_
  refine ev_imulN dX9_write_87 ?_
  refine ev_iload_n dX9_write_88 rfl ?_
  refine ev_iaddN dX9_write_89 ?_
  refine ev_imulN dX9_write_90 ?_
  refine ev_iconstN 2 dX9_write_91 (by decide) ?_
  refine ev_iaddN dX9_write_92 ?_
  refine ev_iload dX9_write_93 rfl ?_
  refine ev_iast dX9_write_95 hM.K_rows hM.L_rows (by decide) (by omega) ?_
  refine ev_iconstN 1 dX9_write_96 (by decide) ?_
  refine ev_zreturn dX9_write_97 rfl (by decide) ?_
  exact ⟨rfl, rfl⟩
set_option maxRecDepth 100000 in
set_option maxHeartbeats 4000000 in
theorem sp_write_no (hM : MFix K R Ln) {tn : Nat} (ht : I 595 11 = nI tn) (hb : tn ≤ 60) {t k x z y : Int32} (hno : (∀ j, j < tn → t = nI j → ¬ A 25 j = 1) ∨ ¬ (0 ≤ k ∧ k ≤ 31) ∨ z < 0 ∨ 1 < z ∨ nmB y = 0) : EvM X mX9_write (d + 1) [rV (some 11), iV t, iV k, iV x, iV z, iV y] (K, I, J, R, A, B, Ln, n, sl) (fun r G' => r = some (iV 0) ∧ G' = (K, I, J, R, A, B, Ln, n, sl)) := by
  show Ev X mX9_write (d + 1) 0 [some (rV (some 11)), some (iV t), some (iV k), some (iV x), some (iV z), some (iV y)] [] (K, I, J, R, A, B, Ln, n, sl) _
  rcases open_cases A tn t with ⟨j, hj, rfl, hs⟩ | hs
  · by_cases hkk : 0 ≤ k ∧ k ≤ 31
    · refine ev_aload_n dX9_write_0 rfl ?_
      refine ev_iload_n dX9_write_1 rfl ?_
      refine ev_callV dX9_write_2 okX9_open inX9_open seX9_open mlX9_123 hM.m (by decide) rfl [iV _] rfl rfl (Nat.le_of_ble_eq_true rfl) (Nat.le_of_ble_eq_true rfl) (sp_open_yes hM ht hb hj hs) (fun r_ G_ h_ => ?_)
      obtain ⟨rfl, rfl⟩ := h_
      try dsimp only [Option.toList, List.cons_append, List.nil_append]
      refine ev_if_eq 34 dX9_write_5 (by decide) (fun c5 => absurd c5 (by decide)) (fun c5 => ?_)
      refine ev_iload_n dX9_write_8 rfl ?_
      refine ev_callS dX9_write_9 okX9_isKey stX9_isKey mlX9_126 [iV _] rfl rfl (Nat.le_of_ble_eq_true rfl) (Nat.le_of_ble_eq_true rfl) (sp_isKey) (fun r_ G_ h_ => ?_)
      obtain ⟨rfl, rfl⟩ := h_
      rw [if_pos hkk]
      try dsimp only [Option.toList, List.cons_append, List.nil_append]
      refine ev_if_eq 34 dX9_write_12 (by decide) (fun c12 => absurd c12 (by decide)) (fun c12 => ?_)
      refine ev_iload dX9_write_15 rfl ?_
      refine ev_if_lt 34 dX9_write_17 (by decide) (fun c17 => ?_) (fun c17 => ?_)
      · refine ev_iconstN 0 dX9_write_34 (by decide) ?_
        refine ev_zreturn dX9_write_35 rfl (by decide) ?_
        exact ⟨rfl, rfl⟩
      · refine ev_iload dX9_write_20 rfl ?_
        refine ev_iconstN 1 dX9_write_22 (by decide) ?_
        refine ev_icmp_gt (y := 1) 34 dX9_write_23 (by decide) (fun c23 => ?_) (fun c23 => ?_)
        · refine ev_iconstN 0 dX9_write_34 (by decide) ?_
          refine ev_zreturn dX9_write_35 rfl (by decide) ?_
          exact ⟨rfl, rfl⟩
        · refine ev_iload dX9_write_26 rfl ?_
          refine ev_callS dX9_write_28 okX9_isName stX9_isName mlX9_81 [iV _] rfl rfl (Nat.le_of_ble_eq_true rfl) (Nat.le_of_ble_eq_true rfl) (sp_isName) (fun r_ G_ h_ => ?_)
          obtain ⟨rfl, rfl⟩ := h_
          try dsimp only [Option.toList, List.cons_append, List.nil_append]
          refine ev_if_ne 36 dX9_write_31 (by decide) (fun c31 => ?_) (fun c31 => ?_)
          · rcases hno with h | h | h | h | h
            · exact absurd hs (h j hj rfl)
            · exact absurd hkk h
            · exact absurd h c17
            · exact absurd h c23
            · exact absurd h c31
          · refine ev_iconstN 0 dX9_write_34 (by decide) ?_
            refine ev_zreturn dX9_write_35 rfl (by decide) ?_
            exact ⟨rfl, rfl⟩
    · refine ev_aload_n dX9_write_0 rfl ?_
      refine ev_iload_n dX9_write_1 rfl ?_
      refine ev_callV dX9_write_2 okX9_open inX9_open seX9_open mlX9_123 hM.m (by decide) rfl [iV _] rfl rfl (Nat.le_of_ble_eq_true rfl) (Nat.le_of_ble_eq_true rfl) (sp_open_yes hM ht hb hj hs) (fun r_ G_ h_ => ?_)
      obtain ⟨rfl, rfl⟩ := h_
      try dsimp only [Option.toList, List.cons_append, List.nil_append]
      refine ev_if_eq 34 dX9_write_5 (by decide) (fun c5 => absurd c5 (by decide)) (fun c5 => ?_)
      refine ev_iload_n dX9_write_8 rfl ?_
      refine ev_callS dX9_write_9 okX9_isKey stX9_isKey mlX9_126 [iV _] rfl rfl (Nat.le_of_ble_eq_true rfl) (Nat.le_of_ble_eq_true rfl) (sp_isKey) (fun r_ G_ h_ => ?_)
      obtain ⟨rfl, rfl⟩ := h_
      rw [if_neg hkk]
      try dsimp only [Option.toList, List.cons_append, List.nil_append]
      refine ev_if_eq 34 dX9_write_12 (by decide) (fun c12 => ?_) (fun c12 => absurd rfl c12)
      refine ev_iconstN 0 dX9_write_34 (by decide) ?_
      refine ev_zreturn dX9_write_35 rfl (by decide) ?_
      exact ⟨rfl, rfl⟩
  · refine ev_aload_n dX9_write_0 rfl ?_
    refine ev_iload_n dX9_write_1 rfl ?_
    refine ev_callV dX9_write_2 okX9_open inX9_open seX9_open mlX9_123 hM.m (by decide) rfl [iV _] rfl rfl (Nat.le_of_ble_eq_true rfl) (Nat.le_of_ble_eq_true rfl) (sp_open_no hM ht hb hs) (fun r_ G_ h_ => ?_)
    obtain ⟨rfl, rfl⟩ := h_
    try dsimp only [Option.toList, List.cons_append, List.nil_append]
    refine ev_if_eq 34 dX9_write_5 (by decide) (fun c5 => ?_) (fun c5 => absurd rfl c5)
    refine ev_iconstN 0 dX9_write_34 (by decide) ?_
    refine ev_zreturn dX9_write_35 rfl (by decide) ?_
    exact ⟨rfl, rfl⟩
set_option maxRecDepth 100000 in
set_option maxHeartbeats 4000000 in
theorem sp_remove_yes (hM : MFix K R Ln) {tn : Nat} (ht : I 595 11 = nI tn) (hb : tn ≤ 60) {j k : Nat} (hj : j < tn) (hs : A 25 j = 1) (hk : k < 32) : EvM X mX9_remove (d + 1) [rV (some 11), iV (nI j), iV (nI k)] (K, I, J, R, A, B, Ln, n, sl) (fun r G' => r = some (iV 1) ∧ G' = (K, I, J, R, u2 A 27 (32 * j + k) 2, B, Ln, n, sl)) := by
  have hkk := key_in hk
  show Ev X mX9_remove (d + 1) 0 [some (rV (some 11)), some (iV (nI j)), some (iV (nI k))] [] (K, I, J, R, A, B, Ln, n, sl) _
  refine ev_aload_n dX9_remove_0 rfl ?_
  refine ev_iload_n dX9_remove_1 rfl ?_
  refine ev_callV dX9_remove_2 okX9_open inX9_open seX9_open mlX9_123 hM.m (by decide) rfl [iV _] rfl rfl (Nat.le_of_ble_eq_true rfl) (Nat.le_of_ble_eq_true rfl) (sp_open_yes hM ht hb hj hs) (fun r_ G_ h_ => ?_)
  obtain ⟨rfl, rfl⟩ := h_
  try dsimp only [Option.toList, List.cons_append, List.nil_append]
  refine ev_if_eq 15 dX9_remove_5 (by decide) (fun c5 => absurd c5 (by decide)) (fun c5 => ?_)
  refine ev_iload_n dX9_remove_8 rfl ?_
  refine ev_callS dX9_remove_9 okX9_isKey stX9_isKey mlX9_126 [iV _] rfl rfl (Nat.le_of_ble_eq_true rfl) (Nat.le_of_ble_eq_true rfl) (sp_isKey) (fun r_ G_ h_ => ?_)
  obtain ⟨rfl, rfl⟩ := h_
  rw [if_pos hkk]
  try dsimp only [Option.toList, List.cons_append, List.nil_append]
  refine ev_if_ne 17 dX9_remove_12 (by decide) (fun c12 => ?_) (fun c12 => absurd c12 (by decide))
  refine ev_aload_n dX9_remove_17 rfl ?_
  refine ev_getR dX9_remove_18 fX9_56 hM.m hM.R_writes ?_
  refine ev_bipushN 32 dX9_remove_21 (by decide) ?_
  refine ev_iload_n dX9_remove_23 rfl ?_
  refine ev_imulN dX9_remove_24 ?_
  refine ev_iload_n dX9_remove_25 rfl ?_
  refine ev_iaddN dX9_remove_26 ?_
  refine ev_iconstN 2 dX9_remove_27 (by decide) ?_
  refine ev_iast dX9_remove_28 hM.K_writes hM.L_writes (by decide) (by omega) ?_
  refine ev_iconstN 1 dX9_remove_29 (by decide) ?_
  refine ev_zreturn dX9_remove_30 rfl (by decide) ?_
  exact ⟨rfl, rfl⟩
set_option maxRecDepth 100000 in
set_option maxHeartbeats 4000000 in
theorem sp_remove_no (hM : MFix K R Ln) {tn : Nat} (ht : I 595 11 = nI tn) (hb : tn ≤ 60) {t k : Int32} (hno : (∀ j, j < tn → t = nI j → ¬ A 25 j = 1) ∨ ¬ (0 ≤ k ∧ k ≤ 31)) : EvM X mX9_remove (d + 1) [rV (some 11), iV t, iV k] (K, I, J, R, A, B, Ln, n, sl) (fun r G' => r = some (iV 0) ∧ G' = (K, I, J, R, A, B, Ln, n, sl)) := by
  show Ev X mX9_remove (d + 1) 0 [some (rV (some 11)), some (iV t), some (iV k)] [] (K, I, J, R, A, B, Ln, n, sl) _
  rcases open_cases A tn t with ⟨j, hj, rfl, hs⟩ | hs
  · have hkk : ¬ (0 ≤ k ∧ k ≤ 31) := by
      rcases hno with h | h
      · exact absurd hs (h j hj rfl)
      · exact h
    refine ev_aload_n dX9_remove_0 rfl ?_
    refine ev_iload_n dX9_remove_1 rfl ?_
    refine ev_callV dX9_remove_2 okX9_open inX9_open seX9_open mlX9_123 hM.m (by decide) rfl [iV _] rfl rfl (Nat.le_of_ble_eq_true rfl) (Nat.le_of_ble_eq_true rfl) (sp_open_yes hM ht hb hj hs) (fun r_ G_ h_ => ?_)
    obtain ⟨rfl, rfl⟩ := h_
    try dsimp only [Option.toList, List.cons_append, List.nil_append]
    refine ev_if_eq 15 dX9_remove_5 (by decide) (fun c5 => absurd c5 (by decide)) (fun c5 => ?_)
    refine ev_iload_n dX9_remove_8 rfl ?_
    refine ev_callS dX9_remove_9 okX9_isKey stX9_isKey mlX9_126 [iV _] rfl rfl (Nat.le_of_ble_eq_true rfl) (Nat.le_of_ble_eq_true rfl) (sp_isKey) (fun r_ G_ h_ => ?_)
    obtain ⟨rfl, rfl⟩ := h_
    rw [if_neg hkk]
    try dsimp only [Option.toList, List.cons_append, List.nil_append]
    refine ev_if_ne 17 dX9_remove_12 (by decide) (fun c12 => absurd c12 (fun z => z rfl)) (fun c12 => ?_)
    refine ev_iconstN 0 dX9_remove_15 (by decide) ?_
    refine ev_zreturn dX9_remove_16 rfl (by decide) ?_
    exact ⟨rfl, rfl⟩
  · refine ev_aload_n dX9_remove_0 rfl ?_
    refine ev_iload_n dX9_remove_1 rfl ?_
    refine ev_callV dX9_remove_2 okX9_open inX9_open seX9_open mlX9_123 hM.m (by decide) rfl [iV _] rfl rfl (Nat.le_of_ble_eq_true rfl) (Nat.le_of_ble_eq_true rfl) (sp_open_no hM ht hb hs) (fun r_ G_ h_ => ?_)
    obtain ⟨rfl, rfl⟩ := h_
    try dsimp only [Option.toList, List.cons_append, List.nil_append]
    refine ev_if_eq 15 dX9_remove_5 (by decide) (fun c5 => ?_) (fun c5 => absurd rfl c5)
    refine ev_iconstN 0 dX9_remove_15 (by decide) ?_
    refine ev_zreturn dX9_remove_16 rfl (by decide) ?_
    exact ⟨rfl, rfl⟩
set_option maxRecDepth 100000 in
set_option maxHeartbeats 4000000 in
theorem sp_read_yes (hM : MFix K R Ln) {tn : Nat} (ht : I 595 11 = nI tn) (hb : tn ≤ 60) {many : Nat} (hm : I 582 11 = nI many) (hbm : many ≤ 520) {j k f : Nat} (hj : j < tn) (hs : A 25 j = 1) (hk : k < 32) (hf : f < 4) : EvM X mX9_read (d + 3) [rV (some 11), iV (nI j), iV (nI k), iV (nI f)] (K, I, J, R, A, B, Ln, n, sl) (fun r G' => ∃ A', G' = (K, I, J, R, A', B, Ln, n, sl) ∧ r = some (iV (if f = 3 then bZ (rfO A j k many) else rfV A j k many f)) ∧ ∀ i, i ≠ 29 → A' i = A i) := by
  have hkk := key_in hk
  show Ev X mX9_read (d + 3) 0 [some (rV (some 11)), some (iV (nI j)), some (iV (nI k)), some (iV (nI f)), none] [] (K, I, J, R, A, B, Ln, n, sl) _
  have h01 := bZ_01 (rfO A j k many)
  refine ev_aload_n dX9_read_0 rfl ?_
  refine ev_iload_n dX9_read_1 rfl ?_
  refine ev_callV dX9_read_2 okX9_open inX9_open seX9_open mlX9_123 hM.m (by decide) rfl [iV _] rfl rfl (Nat.le_of_ble_eq_true rfl) (Nat.le_of_ble_eq_true rfl) (sp_open_yes hM ht hb hj hs) (fun r_ G_ h_ => ?_)
  obtain ⟨rfl, rfl⟩ := h_
  try dsimp only [Option.toList, List.cons_append, List.nil_append]
  refine ev_if_eq 24 dX9_read_5 (by decide) (fun c5 => absurd c5 (by decide)) (fun c5 => ?_)
  refine ev_iload_n dX9_read_8 rfl ?_
  refine ev_callS dX9_read_9 okX9_isKey stX9_isKey mlX9_126 [iV _] rfl rfl (Nat.le_of_ble_eq_true rfl) (Nat.le_of_ble_eq_true rfl) (sp_isKey) (fun r_ G_ h_ => ?_)
  obtain ⟨rfl, rfl⟩ := h_
  rw [if_pos hkk]
  try dsimp only [Option.toList, List.cons_append, List.nil_append]
  refine ev_if_eq 24 dX9_read_12 (by decide) (fun c12 => absurd c12 (by decide)) (fun c12 => ?_)
  refine ev_iload_n dX9_read_15 rfl ?_
  refine ev_if_ltN 24 dX9_read_16 (by decide) (by omega) ?_
  refine ev_iload_n dX9_read_19 rfl ?_
  refine ev_iconstN 3 dX9_read_20 (by decide) ?_
  refine ev_icmp_leN 26 dX9_read_21 (by decide) (by omega) (by omega) (fun c21 => ?_) (fun c21 => absurd c21 (by omega))
  refine ev_aload_n dX9_read_26 rfl ?_
  refine ev_iload_n dX9_read_27 rfl ?_
  refine ev_iload_n dX9_read_28 rfl ?_
  refine ev_callV dX9_read_29 okX9_rowFor inX9_rowFor seX9_rowFor mlX9_129 hM.m (by decide) rfl [iV _, iV _] rfl rfl (Nat.le_of_ble_eq_true rfl) (Nat.le_of_ble_eq_true rfl) (sp_rowFor hM hm hbm (by omega) hk) (fun r_ G_ h_ => ?_)
  obtain ⟨A1, rfl, rfl, hA1, hr1⟩ := h_
  try dsimp only [Option.toList, List.cons_append, List.nil_append]
  refine ev_istore _ dX9_read_32 (by decide) rfl ?_
  refine ev_iload_n dX9_read_34 rfl ?_
  refine ev_iconstN 3 dX9_read_35 (by decide) ?_
  refine ev_icmp_neN 52 dX9_read_36 (by decide) (by omega) (by omega) (fun c36 => ?_) (fun c36 => ?_)
  · refine ev_aload_n dX9_read_52 rfl ?_
    refine ev_getR dX9_read_53 fX9_62 hM.m hM.R_row ?_
    refine ev_iload_n dX9_read_56 rfl ?_
    refine ev_iald dX9_read_57 hM.K_row hM.L_row (by decide) (by omega) ?_
    refine ev_ireturn dX9_read_58 rfl ?_
    refine ⟨A1, rfl, ?_, hA1⟩
    first | (rw [if_neg (by omega), hr1 f (by omega)]; done) | (rw [if_pos (by omega), c41]; rfl) | (rw [if_pos (by omega)]; rcases h01 with h | h; exact absurd h c41; rw [h]; rfl)
  · refine ev_iload dX9_read_39 rfl ?_
    refine ev_if_eq 48 dX9_read_41 (by decide) (fun c41 => ?_) (fun c41 => ?_)
    · refine ev_iconstN 0 dX9_read_48 (by decide) ?_
      refine ev_goto 58 dX9_read_49 (by decide) ?_
      refine ev_ireturn dX9_read_58 rfl ?_
      refine ⟨A1, rfl, ?_, hA1⟩
      first | (rw [if_neg (by omega), hr1 f (by omega)]; done) | (rw [if_pos (by omega), c41]; rfl) | (rw [if_pos (by omega)]; rcases h01 with h | h; exact absurd h c41; rw [h]; rfl)
    · refine ev_iconstN 1 dX9_read_44 (by decide) ?_
      refine ev_goto 58 dX9_read_45 (by decide) ?_
      refine ev_ireturn dX9_read_58 rfl ?_
      refine ⟨A1, rfl, ?_, hA1⟩
      first | (rw [if_neg (by omega), hr1 f (by omega)]; done) | (rw [if_pos (by omega), c41]; rfl) | (rw [if_pos (by omega)]; rcases h01 with h | h; exact absurd h c41; rw [h]; rfl)
set_option maxRecDepth 100000 in
set_option maxHeartbeats 4000000 in
theorem sp_read_no (hM : MFix K R Ln) {tn : Nat} (ht : I 595 11 = nI tn) (hb : tn ≤ 60) {t k x : Int32} (hno : (∀ j, j < tn → t = nI j → ¬ A 25 j = 1) ∨ ¬ (0 ≤ k ∧ k ≤ 31) ∨ x < 0 ∨ 3 < x) : EvM X mX9_read (d + 1) [rV (some 11), iV t, iV k, iV x] (K, I, J, R, A, B, Ln, n, sl) (fun r G' => r = some (iV (-1)) ∧ G' = (K, I, J, R, A, B, Ln, n, sl)) := by
  show Ev X mX9_read (d + 1) 0 [some (rV (some 11)), some (iV t), some (iV k), some (iV x), none] [] (K, I, J, R, A, B, Ln, n, sl) _
  rcases open_cases A tn t with ⟨j, hj, rfl, hs⟩ | hs
  · by_cases hkk : 0 ≤ k ∧ k ≤ 31
    · refine ev_aload_n dX9_read_0 rfl ?_
      refine ev_iload_n dX9_read_1 rfl ?_
      refine ev_callV dX9_read_2 okX9_open inX9_open seX9_open mlX9_123 hM.m (by decide) rfl [iV _] rfl rfl (Nat.le_of_ble_eq_true rfl) (Nat.le_of_ble_eq_true rfl) (sp_open_yes hM ht hb hj hs) (fun r_ G_ h_ => ?_)
      obtain ⟨rfl, rfl⟩ := h_
      try dsimp only [Option.toList, List.cons_append, List.nil_append]
      refine ev_if_eq 24 dX9_read_5 (by decide) (fun c5 => absurd c5 (by decide)) (fun c5 => ?_)
      refine ev_iload_n dX9_read_8 rfl ?_
      refine ev_callS dX9_read_9 okX9_isKey stX9_isKey mlX9_126 [iV _] rfl rfl (Nat.le_of_ble_eq_true rfl) (Nat.le_of_ble_eq_true rfl) (sp_isKey) (fun r_ G_ h_ => ?_)
      obtain ⟨rfl, rfl⟩ := h_
      rw [if_pos hkk]
      try dsimp only [Option.toList, List.cons_append, List.nil_append]
      refine ev_if_eq 24 dX9_read_12 (by decide) (fun c12 => absurd c12 (by decide)) (fun c12 => ?_)
      refine ev_iload_n dX9_read_15 rfl ?_
      refine ev_if_lt 24 dX9_read_16 (by decide) (fun c16 => ?_) (fun c16 => ?_)
      · refine ev_iconst (-1) dX9_read_24 (by decide) ?_
        refine ev_ireturn dX9_read_25 rfl ?_
        exact ⟨rfl, rfl⟩
      · refine ev_iload_n dX9_read_19 rfl ?_
        refine ev_iconstN 3 dX9_read_20 (by decide) ?_
        refine ev_icmp_le (y := 3) 26 dX9_read_21 (by decide) (fun c21 => ?_) (fun c21 => ?_)
        · rcases hno with h | h | h | h
          · exact absurd hs (h j hj rfl)
          · exact absurd hkk h
          · exact absurd h c16
          · exact absurd h (Int32.not_lt.mpr c21)
        · refine ev_iconst (-1) dX9_read_24 (by decide) ?_
          refine ev_ireturn dX9_read_25 rfl ?_
          exact ⟨rfl, rfl⟩
    · refine ev_aload_n dX9_read_0 rfl ?_
      refine ev_iload_n dX9_read_1 rfl ?_
      refine ev_callV dX9_read_2 okX9_open inX9_open seX9_open mlX9_123 hM.m (by decide) rfl [iV _] rfl rfl (Nat.le_of_ble_eq_true rfl) (Nat.le_of_ble_eq_true rfl) (sp_open_yes hM ht hb hj hs) (fun r_ G_ h_ => ?_)
      obtain ⟨rfl, rfl⟩ := h_
      try dsimp only [Option.toList, List.cons_append, List.nil_append]
      refine ev_if_eq 24 dX9_read_5 (by decide) (fun c5 => absurd c5 (by decide)) (fun c5 => ?_)
      refine ev_iload_n dX9_read_8 rfl ?_
      refine ev_callS dX9_read_9 okX9_isKey stX9_isKey mlX9_126 [iV _] rfl rfl (Nat.le_of_ble_eq_true rfl) (Nat.le_of_ble_eq_true rfl) (sp_isKey) (fun r_ G_ h_ => ?_)
      obtain ⟨rfl, rfl⟩ := h_
      rw [if_neg hkk]
      try dsimp only [Option.toList, List.cons_append, List.nil_append]
      refine ev_if_eq 24 dX9_read_12 (by decide) (fun c12 => ?_) (fun c12 => absurd rfl c12)
      refine ev_iconst (-1) dX9_read_24 (by decide) ?_
      refine ev_ireturn dX9_read_25 rfl ?_
      exact ⟨rfl, rfl⟩
  · refine ev_aload_n dX9_read_0 rfl ?_
    refine ev_iload_n dX9_read_1 rfl ?_
    refine ev_callV dX9_read_2 okX9_open inX9_open seX9_open mlX9_123 hM.m (by decide) rfl [iV _] rfl rfl (Nat.le_of_ble_eq_true rfl) (Nat.le_of_ble_eq_true rfl) (sp_open_no hM ht hb hs) (fun r_ G_ h_ => ?_)
    obtain ⟨rfl, rfl⟩ := h_
    try dsimp only [Option.toList, List.cons_append, List.nil_append]
    refine ev_if_eq 24 dX9_read_5 (by decide) (fun c5 => ?_) (fun c5 => absurd rfl c5)
    refine ev_iconst (-1) dX9_read_24 (by decide) ?_
    refine ev_ireturn dX9_read_25 rfl ?_
    exact ⟨rfl, rfl⟩
end M7
