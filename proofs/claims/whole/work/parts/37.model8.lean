section M8
variable {X : CX} {d : Nat} {K : Nat → Nat} {I : Nat → Nat → Int32} {J : Nat → Nat → Int64} {R : Nat → Nat → Option Nat} {A : Nat → Nat → Int32} {B : Nat → Nat → Option Nat} {Ln : Nat → Nat} {n sl : Nat}
def abM (I : Nat → Nat → Int32) (A : Nat → Nat → Int32) (many tn pl : Nat) (x : Int32) : Int32 := if x = 0 then I 594 11 else if x = 1 then hzI (A 25) (A 26) (I 594 11) tn else if x = 2 then nI (cnt (fun e => decide (A 22 e = 0)) many) else if x = 3 then nI (many - cnt (fun e => decide (A 22 e = 0)) many) else if x = 4 then nI pl else if x = 5 then (if pl = 0 then -1 else if A 15 (pl - 1) = 0 then 0 else 1) else if x = 6 then I 577 11 else -1
set_option maxRecDepth 100000 in
set_option maxHeartbeats 4000000 in
theorem sp_about (hM : MFix K R Ln) {tn : Nat} (ht : I 595 11 = nI tn) (hb : tn ≤ 60) {many : Nat} (hm : I 582 11 = nI many) (hbm : many ≤ 520) {pl : Nat} (hp : I 576 11 = nI pl) (hbp : pl ≤ 8) {x : Int32} : EvM X mX9_about (d + 1) [rV (some 11), iV x] (K, I, J, R, A, B, Ln, n, sl) (fun r G' => r = some (iV (abM I A many tn pl x)) ∧ G' = (K, I, J, R, A, B, Ln, n, sl)) := by
  have hle := cnt_le (fun e => decide (A 22 e = nI 0)) many
  show Ev X mX9_about (d + 1) 0 [some (rV (some 11)), some (iV x)] [] (K, I, J, R, A, B, Ln, n, sl) _
  by_cases h0 : x = 0
  · subst h0
    refine ev_iload_n dX9_about_0 rfl ?_
    refine ev_tswIn (x := 0) 44 dX9_about_1 (by decide) (by decide) rfl (by decide) ?_
    refine ev_aload_n dX9_about_44 rfl ?_
    refine ev_getI dX9_about_45 fX9_103 hM.m ?_
    refine ev_ireturn dX9_about_48 rfl ?_
    try have hp0 : ¬ pl = 0 := by omega
    exact ⟨by first | (simp [abM, *]; done) | (simp [abM, *]; rfl) | rfl, rfl⟩
  · by_cases h1 : x = 1
    · subst h1
      refine ev_iload_n dX9_about_0 rfl ?_
      refine ev_tswIn (x := 1) 49 dX9_about_1 (by decide) (by decide) rfl (by decide) ?_
      refine ev_aload_n dX9_about_49 rfl ?_
      refine ev_callV dX9_about_50 okX9_horizon inX9_horizon seX9_horizon mlX9_203 hM.m (by decide) rfl [] rfl rfl (Nat.le_of_ble_eq_true rfl) (Nat.le_of_ble_eq_true rfl) (sp_horizon hM ht hb) (fun r_ G_ h_ => ?_)
      obtain ⟨rfl, rfl⟩ := h_
      try dsimp only [Option.toList, List.cons_append, List.nil_append]
      refine ev_ireturn dX9_about_53 rfl ?_
      try have hp0 : ¬ pl = 0 := by omega
      exact ⟨by first | (simp [abM, *]; done) | (simp [abM, *]; rfl) | rfl, rfl⟩
    · by_cases h2 : x = 2
      · subst h2
        refine ev_iload_n dX9_about_0 rfl ?_
        refine ev_tswIn (x := 2) 54 dX9_about_1 (by decide) (by decide) rfl (by decide) ?_
        refine ev_aload_n dX9_about_54 rfl ?_
        refine ev_iconstN 0 dX9_about_55 (by decide) ?_
        refine ev_callV dX9_about_56 okX9_inFile inX9_inFile seX9_inFile mlX9_152 hM.m (by decide) rfl [iV _] rfl rfl (Nat.le_of_ble_eq_true rfl) (Nat.le_of_ble_eq_true rfl) (sp_inFile hM hm hbm) (fun r_ G_ h_ => ?_)
        obtain ⟨rfl, rfl⟩ := h_
        try dsimp only [Option.toList, List.cons_append, List.nil_append]
        refine ev_ireturn dX9_about_59 rfl ?_
        try have hp0 : ¬ pl = 0 := by omega
        exact ⟨by first | (simp [abM, *]; done) | (simp [abM, *]; rfl) | rfl, rfl⟩
      · by_cases h3 : x = 3
        · subst h3
          refine ev_iload_n dX9_about_0 rfl ?_
          refine ev_tswIn (x := 3) 60 dX9_about_1 (by decide) (by decide) rfl (by decide) ?_
          refine ev_aload_n dX9_about_60 rfl ?_
          refine ev_getIv dX9_about_61 fX9_106 hM.m hm ?_
          refine ev_aload_n dX9_about_64 rfl ?_
          refine ev_iconstN 0 dX9_about_65 (by decide) ?_
          refine ev_callV dX9_about_66 okX9_inFile inX9_inFile seX9_inFile mlX9_152 hM.m (by decide) rfl [iV _] rfl rfl (Nat.le_of_ble_eq_true rfl) (Nat.le_of_ble_eq_true rfl) (sp_inFile hM hm hbm) (fun r_ G_ h_ => ?_)
          obtain ⟨rfl, rfl⟩ := h_
          try dsimp only [Option.toList, List.cons_append, List.nil_append]
          refine ev_isubN dX9_about_69 (by omega) ?_
          refine ev_ireturn dX9_about_70 rfl ?_
          try have hp0 : ¬ pl = 0 := by omega
          exact ⟨by first | (simp [abM, *]; done) | (simp [abM, *]; rfl) | rfl, rfl⟩
        · by_cases h4 : x = 4
          · subst h4
            refine ev_iload_n dX9_about_0 rfl ?_
            refine ev_tswIn (x := 4) 71 dX9_about_1 (by decide) (by decide) rfl (by decide) ?_
            refine ev_aload_n dX9_about_71 rfl ?_
            refine ev_getIv dX9_about_72 fX9_85 hM.m hp ?_
            refine ev_ireturn dX9_about_75 rfl ?_
            try have hp0 : ¬ pl = 0 := by omega
            exact ⟨by first | (simp [abM, *]; done) | (simp [abM, *]; rfl) | rfl, rfl⟩
          · by_cases h5 : x = 5
            · subst h5
              refine ev_iload_n dX9_about_0 rfl ?_
              refine ev_tswIn (x := 5) 76 dX9_about_1 (by decide) (by decide) rfl (by decide) ?_
              refine ev_aload_n dX9_about_76 rfl ?_
              refine ev_getIv dX9_about_77 fX9_85 hM.m hp ?_
              refine ev_if_neN 87 dX9_about_80 (by decide) (by omega) (fun c80 => ?_) (fun c80 => ?_)
              · refine ev_aload_n dX9_about_87 rfl ?_
                refine ev_getR dX9_about_88 fX9_19 hM.m hM.R_bool ?_
                refine ev_aload_n dX9_about_91 rfl ?_
                refine ev_getIv dX9_about_92 fX9_85 hM.m hp ?_
                refine ev_iconstN 1 dX9_about_95 (by decide) ?_
                refine ev_isubN dX9_about_96 (by omega) ?_
                refine ev_zald dX9_about_97 hM.K_bool hM.L_bool (by decide) (by omega) ?_
                refine ev_if_eq 105 dX9_about_98 (by decide) (fun c98 => ?_) (fun c98 => ?_)
                · refine ev_iconstN 0 dX9_about_105 (by decide) ?_
                  refine ev_ireturn dX9_about_106 rfl ?_
                  try have hp0 : ¬ pl = 0 := by omega
                  exact ⟨by first | (simp [abM, *]; done) | (simp [abM, *]; rfl) | rfl, rfl⟩
                · refine ev_iconstN 1 dX9_about_101 (by decide) ?_
                  refine ev_goto 106 dX9_about_102 (by decide) ?_
                  refine ev_ireturn dX9_about_106 rfl ?_
                  try have hp0 : ¬ pl = 0 := by omega
                  exact ⟨by first | (simp [abM, *]; done) | (simp [abM, *]; rfl) | rfl, rfl⟩
              · refine ev_iconst (-1) dX9_about_83 (by decide) ?_
                refine ev_goto 106 dX9_about_84 (by decide) ?_
                refine ev_ireturn dX9_about_106 rfl ?_
                try have hp0 : ¬ pl = 0 := by omega
                exact ⟨by first | (simp [abM, *]; done) | (simp [abM, *]; rfl) | rfl, rfl⟩
            · by_cases h6 : x = 6
              · subst h6
                refine ev_iload_n dX9_about_0 rfl ?_
                refine ev_tswIn (x := 6) 107 dX9_about_1 (by decide) (by decide) rfl (by decide) ?_
                refine ev_aload_n dX9_about_107 rfl ?_
                refine ev_getI dX9_about_108 fX9_100 hM.m ?_
                refine ev_ireturn dX9_about_111 rfl ?_
                try have hp0 : ¬ pl = 0 := by omega
                exact ⟨by first | (simp [abM, *]; done) | (simp [abM, *]; rfl) | rfl, rfl⟩
              · have hout : x.toInt < 0 ∨ 6 < x.toInt := by
                  rcases pk_ix x (n := 7) (by decide) with h | h | ⟨j, hj, rfl⟩
                  · exact Or.inl (by simpa using Int32.lt_iff_toInt_lt.mp h)
                  · exact Or.inr (by have := Int32.le_iff_toInt_le.mp h; simp [nI] at this; omega)
                  · exfalso
                    rcases (show j = 0 ∨ j = 1 ∨ j = 2 ∨ j = 3 ∨ j = 4 ∨ j = 5 ∨ j = 6 by omega) with rfl | rfl | rfl | rfl | rfl | rfl | rfl <;> contradiction
                refine ev_iload_n dX9_about_0 rfl ?_
                refine ev_tswOut 112 dX9_about_1 hout (by decide) ?_
                refine ev_iconst (-1) dX9_about_112 (by decide) ?_
                refine ev_ireturn dX9_about_113 rfl ?_
                exact ⟨by simp [abM, *], rfl⟩
def mtB (A : Nat → Nat → Int32) (a b c e : Nat) : Bool := decide (0 ≤ plI (A 16) (A 17) (A 18) b c ∧ 0 ≤ plI (A 16) (A 17) (A 18) e a)
set_option maxRecDepth 100000 in
set_option maxHeartbeats 4000000 in
theorem sp_meet (hM : MFix K R Ln) {many : Nat} (hm : I 582 11 = nI many) (hbm : many ≤ 520) {x y : Int32} {a b c e : Nat} (ha : endN A x true many = some a) (hb : endN A x false many = some b) (hc : endN A y true many = some c) (he : endN A y false many = some e) : EvM X mX9_meet (d + 3) [rV (some 11), iV x, iV y] (K, I, J, R, A, B, Ln, n, sl) (fun r G' => r = some (iV (bZ (mtB A a b c e))) ∧ G' = (K, I, J, R, A, B, Ln, n, sl)) := by
  have la := endN_lt ha
  have lb := endN_lt hb
  have lc := endN_lt hc
  have le_ := endN_lt he
  show Ev X mX9_meet (d + 3) 0 [some (rV (some 11)), some (iV x), some (iV y), none, none, none, none] [] (K, I, J, R, A, B, Ln, n, sl) _
  refine ev_aload_n dX9_meet_0 rfl ?_
  refine ev_iload_n dX9_meet_1 rfl ?_
  refine ev_iconstN 1 dX9_meet_2 (by decide) ?_
  refine ev_callV dX9_meet_3 okX9_end inX9_end seX9_end mlX9_185 hM.m (by decide) rfl [iV _, iV _] rfl rfl (Nat.le_of_ble_eq_true rfl) (Nat.le_of_ble_eq_true rfl) (sp_end (fst := true) hM hm hbm) (fun r_ G_ h_ => ?_)
  obtain ⟨rfl, rfl⟩ := h_
  rw [ha]
  show Ev _ _ _ _ _ [iV (nI a)] _ _
  try dsimp only [Option.toList, List.cons_append, List.nil_append]
  refine ev_istore_n _ dX9_meet_6 (by decide) rfl ?_
  refine ev_aload_n dX9_meet_7 rfl ?_
  refine ev_iload_n dX9_meet_8 rfl ?_
  refine ev_iconstN 0 dX9_meet_9 (by decide) ?_
  refine ev_callV dX9_meet_10 okX9_end inX9_end seX9_end mlX9_185 hM.m (by decide) rfl [iV _, iV _] rfl rfl (Nat.le_of_ble_eq_true rfl) (Nat.le_of_ble_eq_true rfl) (sp_end (fst := false) hM hm hbm) (fun r_ G_ h_ => ?_)
  obtain ⟨rfl, rfl⟩ := h_
  rw [hb]
  show Ev _ _ _ _ _ [iV (nI b)] _ _
  try dsimp only [Option.toList, List.cons_append, List.nil_append]
  refine ev_istore _ dX9_meet_13 (by decide) rfl ?_
  refine ev_aload_n dX9_meet_15 rfl ?_
  refine ev_iload_n dX9_meet_16 rfl ?_
  refine ev_iconstN 1 dX9_meet_17 (by decide) ?_
  refine ev_callV dX9_meet_18 okX9_end inX9_end seX9_end mlX9_185 hM.m (by decide) rfl [iV _, iV _] rfl rfl (Nat.le_of_ble_eq_true rfl) (Nat.le_of_ble_eq_true rfl) (sp_end (fst := true) hM hm hbm) (fun r_ G_ h_ => ?_)
  obtain ⟨rfl, rfl⟩ := h_
  rw [hc]
  show Ev _ _ _ _ _ [iV (nI c)] _ _
  try dsimp only [Option.toList, List.cons_append, List.nil_append]
  refine ev_istore _ dX9_meet_21 (by decide) rfl ?_
  refine ev_aload_n dX9_meet_23 rfl ?_
  refine ev_iload_n dX9_meet_24 rfl ?_
  refine ev_iconstN 0 dX9_meet_25 (by decide) ?_
  refine ev_callV dX9_meet_26 okX9_end inX9_end seX9_end mlX9_185 hM.m (by decide) rfl [iV _, iV _] rfl rfl (Nat.le_of_ble_eq_true rfl) (Nat.le_of_ble_eq_true rfl) (sp_end (fst := false) hM hm hbm) (fun r_ G_ h_ => ?_)
  obtain ⟨rfl, rfl⟩ := h_
  rw [he]
  show Ev _ _ _ _ _ [iV (nI e)] _ _
  try dsimp only [Option.toList, List.cons_append, List.nil_append]
  refine ev_istore _ dX9_meet_29 (by decide) rfl ?_
  refine ev_aload_n dX9_meet_31 rfl ?_
  refine ev_iload dX9_meet_32 rfl ?_
  refine ev_iload dX9_meet_34 rfl ?_
  refine ev_callV dX9_meet_36 okX9_places inX9_places seX9_places mlX9_178 hM.m (by decide) rfl [iV _, iV _] rfl rfl (Nat.le_of_ble_eq_true rfl) (Nat.le_of_ble_eq_true rfl) (sp_places hM (by omega) (by omega)) (fun r_ G_ h_ => ?_)
  obtain ⟨rfl, rfl⟩ := h_
  try dsimp only [Option.toList, List.cons_append, List.nil_append]
  refine ev_if_lt 56 dX9_meet_39 (by decide) (fun c39 => ?_) (fun c39 => ?_)
  · refine ev_iconstN 0 dX9_meet_56 (by decide) ?_
    refine ev_zreturn dX9_meet_57 rfl (by decide) ?_
    try have z39 := Int32.not_lt.mpr c39
    try have y39 := Int32.not_le.mp c39
    try have x39 := Int32.not_le.mpr c39
    try have v39 := Int32.not_lt.mp c39
    try have z49 := Int32.not_lt.mpr c49
    try have y49 := Int32.not_le.mp c49
    try have x49 := Int32.not_le.mpr c49
    try have v49 := Int32.not_lt.mp c49
    exact ⟨by first | (simp [mtB, bZ, *]; done) | (simp [mtB, bZ, *]; rfl), rfl⟩
  · refine ev_aload_n dX9_meet_42 rfl ?_
    refine ev_iload dX9_meet_43 rfl ?_
    refine ev_iload_n dX9_meet_45 rfl ?_
    refine ev_callV dX9_meet_46 okX9_places inX9_places seX9_places mlX9_178 hM.m (by decide) rfl [iV _, iV _] rfl rfl (Nat.le_of_ble_eq_true rfl) (Nat.le_of_ble_eq_true rfl) (sp_places hM (by omega) (by omega)) (fun r_ G_ h_ => ?_)
    obtain ⟨rfl, rfl⟩ := h_
    try dsimp only [Option.toList, List.cons_append, List.nil_append]
    refine ev_if_lt 56 dX9_meet_49 (by decide) (fun c49 => ?_) (fun c49 => ?_)
    · refine ev_iconstN 0 dX9_meet_56 (by decide) ?_
      refine ev_zreturn dX9_meet_57 rfl (by decide) ?_
      try have z39 := Int32.not_lt.mpr c39
      try have y39 := Int32.not_le.mp c39
      try have x39 := Int32.not_le.mpr c39
      try have v39 := Int32.not_lt.mp c39
      try have z49 := Int32.not_lt.mpr c49
      try have y49 := Int32.not_le.mp c49
      try have x49 := Int32.not_le.mpr c49
      try have v49 := Int32.not_lt.mp c49
      exact ⟨by first | (simp [mtB, bZ, *]; done) | (simp [mtB, bZ, *]; rfl), rfl⟩
    · refine ev_iconstN 1 dX9_meet_52 (by decide) ?_
      refine ev_goto 57 dX9_meet_53 (by decide) ?_
      refine ev_zreturn dX9_meet_57 rfl (by decide) ?_
      try have z39 := Int32.not_lt.mpr c39
      try have y39 := Int32.not_le.mp c39
      try have x39 := Int32.not_le.mpr c39
      try have v39 := Int32.not_lt.mp c39
      try have z49 := Int32.not_lt.mpr c49
      try have y49 := Int32.not_le.mp c49
      try have x49 := Int32.not_le.mpr c49
      try have v49 := Int32.not_lt.mp c49
      exact ⟨by first | (simp [mtB, bZ, *]; done) | (simp [mtB, bZ, *]; rfl), rfl⟩
/-- row i of an array map with place f taken out, the places behind it moved down -/
def dropA (g : Nat → Int32) (f fn : Nat) : Nat → Int32 := fun j => if f ≤ j ∧ j + 1 < fn then g (j + 1) else g j
def drA (A : Nat → Nat → Int32) (f e : Nat) : Nat → Nat → Int32 := fun i j => if (i = 23 ∨ i = 24) ∧ f ≤ j ∧ j < e then A i (j + 1) else A i j
theorem drA_0 {A : Nat → Nat → Int32} {f : Nat} : drA A f f = A := by
  funext i j
  unfold drA
  rw [if_neg (by omega)]
theorem drA_at {A : Nat → Nat → Int32} {f e i : Nat} : drA A f e i (e + 1) = A i (e + 1) := by
  unfold drA
  rw [if_neg (by omega)]
theorem drA_at2 {A : Nat → Nat → Int32} {f e : Nat} {v : Int32} : u2 (drA A f e) 23 e v 24 (e + 1) = A 24 (e + 1) := by
  rw [u2_ne1 (by decide)]
  exact drA_at
theorem drA_s {A : Nat → Nat → Int32} {f e : Nat} (h : f ≤ e) : u2 (u2 (drA A f e) 23 e (A 23 (e + 1))) 24 e (A 24 (e + 1)) = drA A f (e + 1) := by
  funext i j
  unfold drA u2
  by_cases h1 : i = 24
  · subst h1
    by_cases h2 : j = e
    · subst h2; simp [h]
    · simp [h2, show j < e + 1 ↔ j < e by omega]
  · by_cases h3 : i = 23
    · subst h3
      by_cases h2 : j = e
      · subst h2; simp [h]
      · simp [h2, show j < e + 1 ↔ j < e by omega]
    · simp [h1, h3]
set_option maxRecDepth 100000 in
set_option maxHeartbeats 4000000 in
theorem lp_drop {Q : Option LV → GH → Prop} (hM : MFix K R Ln) {fn f : Nat} (hb : fn ≤ 520) (hq : Q none (K, u2 I 590 11 (nI (fn - 1)), J, R, drA A f (fn - 1), B, Ln, n, sl)) : ∀ (g e : Nat), f ≤ e → e + g = fn - 1 → Ev X mX9_dropFile d 12 [some (rV (some 11)), some (iV (nI f)), some (iV (nI e))] [] (K, u2 I 590 11 (nI (fn - 1)), J, R, drA A f e, B, Ln, n, sl) Q := by
  intro g
  induction g with
  | zero =>
    intro e hfe he
    refine ev_iload_n dX9_dropFile_12 rfl ?_
    refine ev_aload_n dX9_dropFile_13 rfl ?_
    refine ev_getIv dX9_dropFile_14 fX9_167 hM.m u2_self ?_
    refine ev_icmp_geN 54 dX9_dropFile_17 (by decide) (by omega) (by omega) (fun c17 => ?_) (fun c17 => absurd c17 (by omega))
    refine ev_return dX9_dropFile_54 rfl ?_
    have e2 : e = fn - 1 := by omega
    subst e2; exact hq
  | succ g ih =>
    intro e hfe he
    refine ev_iload_n dX9_dropFile_12 rfl ?_
    refine ev_aload_n dX9_dropFile_13 rfl ?_
    refine ev_getIv dX9_dropFile_14 fX9_167 hM.m u2_self ?_
    refine ev_icmp_geN 54 dX9_dropFile_17 (by decide) (by omega) (by omega) (fun c17 => absurd c17 (by omega)) (fun c17 => ?_)
    refine ev_aload_n dX9_dropFile_20 rfl ?_
    refine ev_getR dX9_dropFile_21 fX9_44 hM.m hM.R_number ?_
    refine ev_iload_n dX9_dropFile_24 rfl ?_
    refine ev_aload_n dX9_dropFile_25 rfl ?_
    refine ev_getR dX9_dropFile_26 fX9_44 hM.m hM.R_number ?_
    refine ev_iload_n dX9_dropFile_29 rfl ?_
    refine ev_iconstN 1 dX9_dropFile_30 (by decide) ?_
    refine ev_iaddN dX9_dropFile_31 ?_
    refine ev_ialdv dX9_dropFile_32 hM.K_number hM.L_number (by decide) (by omega) drA_at ?_
    refine ev_iast dX9_dropFile_33 hM.K_number hM.L_number (by decide) (by omega) ?_
    refine ev_aload_n dX9_dropFile_34 rfl ?_
    refine ev_getR dX9_dropFile_35 fX9_47 hM.m hM.R_level ?_
    refine ev_iload_n dX9_dropFile_38 rfl ?_
    refine ev_aload_n dX9_dropFile_39 rfl ?_
    refine ev_getR dX9_dropFile_40 fX9_47 hM.m hM.R_level ?_
    refine ev_iload_n dX9_dropFile_43 rfl ?_
    refine ev_iconstN 1 dX9_dropFile_44 (by decide) ?_
    refine ev_iaddN dX9_dropFile_45 ?_
    refine ev_ialdv dX9_dropFile_46 hM.K_level hM.L_level (by decide) (by omega) drA_at2 ?_
    refine ev_iast dX9_dropFile_47 hM.K_level hM.L_level (by decide) (by omega) ?_
    rw [drA_s hfe]
    refine ev_iincN (b := 1) _ dX9_dropFile_48 rfl (by decide) (by decide) rfl ?_
    refine ev_goto 12 dX9_dropFile_51 (by decide) ?_
    exact ih (e + 1) (by omega) (by omega)
theorem sp_drop (hM : MFix K R Ln) {fn f : Nat} (hf : I 590 11 = nI fn) (hb : fn ≤ 520) (hff : f < fn) : EvM X mX9_dropFile d [rV (some 11), iV (nI f)] (K, I, J, R, A, B, Ln, n, sl) (fun r G' => r = none ∧ G' = (K, u2 I 590 11 (nI (fn - 1)), J, R, drA A f (fn - 1), B, Ln, n, sl)) := by
  show Ev X mX9_dropFile d 0 [some (rV (some 11)), some (iV (nI f)), none] [] (K, I, J, R, A, B, Ln, n, sl) _
  refine ev_aload_n dX9_dropFile_0 rfl ?_
  refine ev_dup dX9_dropFile_1 rfl ?_
  refine ev_getIv dX9_dropFile_2 fX9_167 hM.m hf ?_
  refine ev_iconstN 1 dX9_dropFile_5 (by decide) ?_
  refine ev_isubN dX9_dropFile_6 (by omega) ?_
  refine ev_putI dX9_dropFile_7 fX9_167 (Or.inl rfl) (Or.inl rfl) hM.m ?_
  refine ev_iload_n dX9_dropFile_10 rfl ?_
  refine ev_istore_n _ dX9_dropFile_11 (by decide) rfl ?_
  have h := lp_drop (X := X) (d := d) (K := K) (I := I) (J := J) (R := R) (A := A) (B := B) (Ln := Ln) (n := n) (sl := sl) (Q := fun r G1 => r = none ∧ G1 = (K, u2 I 590 11 (nI (fn - 1)), J, R, drA A f (fn - 1), B, Ln, n, sl)) hM hb ⟨rfl, rfl⟩ (fn - 1 - f) f (Nat.le_refl f) (by omega)
  rw [drA_0] at h
  exact h
def flA (A : Nat → Nat → Int32) (v : Int32) (e : Nat) : Nat → Nat → Int32 := fun i j => if i = 22 ∧ j < e ∧ A 22 j = 0 then v else A i j
theorem flA_0 {A : Nat → Nat → Int32} {v : Int32} : flA A v 0 = A := by
  funext i j
  unfold flA
  rw [if_neg (by omega)]
theorem flA_at {A : Nat → Nat → Int32} {v : Int32} {e : Nat} : flA A v e 22 e = A 22 e := by
  unfold flA
  rw [if_neg (by omega)]
theorem flA_yes {A : Nat → Nat → Int32} {v : Int32} {e : Nat} (h : A 22 e = 0) : u2 (flA A v e) 22 e v = flA A v (e + 1) := by
  funext i j
  unfold flA u2
  by_cases h1 : i = 22 <;> by_cases h2 : j = e
  · subst h1; subst h2; simp [h]
  · subst h1; simp [h2, show j < e + 1 ↔ j < e by omega]
  · simp [h1]
  · simp [h1]
theorem flA_no {A : Nat → Nat → Int32} {v : Int32} {e : Nat} (h : ¬ A 22 e = 0) : u2 (flA A v e) 22 e (A 22 e) = flA A v (e + 1) := by
  funext i j
  unfold flA u2
  by_cases h1 : i = 22 <;> by_cases h2 : j = e
  · subst h1; subst h2; simp [h]
  · subst h1; simp [h2, show j < e + 1 ↔ j < e by omega]
  · simp [h1]
  · simp [h1]
set_option maxRecDepth 100000 in
set_option maxHeartbeats 4000000 in
theorem lp_flush {Q : Option LV → GH → Prop} (hM : MFix K R Ln) {many : Nat} (hm : I 582 11 = nI many) (hbm : many ≤ 520) {r0 v : Int32} (hv : I 593 11 = v) (hq : Q (some (iV r0)) (K, I, J, R, flA A v many, B, Ln, n, sl)) : ∀ (g e : Nat), e + g = many → Ev X mX9_flush (d + 1) 17 [some (rV (some 11)), some (iV r0), some (iV (nI e))] [] (K, I, J, R, flA A v e, B, Ln, n, sl) Q := by
  intro g
  induction g with
  | zero =>
    intro e he
    refine ev_iload_n dX9_flush_17 rfl ?_
    refine ev_aload_n dX9_flush_18 rfl ?_
    refine ev_getIv dX9_flush_19 fX9_106 hM.m hm ?_
    refine ev_icmp_geN 59 dX9_flush_22 (by decide) (by omega) (by omega) (fun c22 => ?_) (fun c22 => absurd c22 (by omega))
    refine ev_iload_n dX9_flush_59 rfl ?_
    refine ev_ireturn dX9_flush_60 rfl ?_
    have e2 : e = many := by omega
    subst e2; exact hq
  | succ g ih =>
    intro e he
    have kont : ∀ (A' : Nat → Nat → Int32), A' = flA A v (e + 1) → Ev X mX9_flush (d + 1) 53 [some (rV (some 11)), some (iV r0), some (iV (nI e))] [] (K, I, J, R, A', B, Ln, n, sl) Q := by
      intro A' hA
      subst hA
      refine ev_iincN (b := 1) _ dX9_flush_53 rfl (by decide) (by decide) rfl ?_
      refine ev_goto 17 dX9_flush_56 (by decide) ?_
      exact ih (e + 1) (by omega)
    refine ev_iload_n dX9_flush_17 rfl ?_
    refine ev_aload_n dX9_flush_18 rfl ?_
    refine ev_getIv dX9_flush_19 fX9_106 hM.m hm ?_
    refine ev_icmp_geN 59 dX9_flush_22 (by decide) (by omega) (by omega) (fun c22 => absurd c22 (by omega)) (fun c22 => ?_)
    refine ev_aload_n dX9_flush_25 rfl ?_
    refine ev_getR dX9_flush_26 fX9_41 hM.m hM.R_file ?_
    refine ev_iload_n dX9_flush_29 rfl ?_
    refine ev_aload_n dX9_flush_30 rfl ?_
    refine ev_getR dX9_flush_31 fX9_41 hM.m hM.R_file ?_
    refine ev_iload_n dX9_flush_34 rfl ?_
    refine ev_ialdv dX9_flush_35 hM.K_file hM.L_file (by decide) (by omega) flA_at ?_
    refine ev_if_ne 46 dX9_flush_36 (by decide) (fun c36 => ?_) (fun c36 => ?_)
    · refine ev_aload_n dX9_flush_46 rfl ?_
      refine ev_getR dX9_flush_47 fX9_41 hM.m hM.R_file ?_
      refine ev_iload_n dX9_flush_50 rfl ?_
      refine ev_ialdv dX9_flush_51 hM.K_file hM.L_file (by decide) (by omega) flA_at ?_
      refine ev_iast dX9_flush_52 hM.K_file hM.L_file (by decide) (by omega) ?_
      first | exact kont _ (flA_yes c36) | exact kont _ (flA_no c36)
    · refine ev_aload_n dX9_flush_39 rfl ?_
      refine ev_getIv dX9_flush_40 fX9_164 hM.m hv ?_
      refine ev_goto 52 dX9_flush_43 (by decide) ?_
      refine ev_iast dX9_flush_52 hM.K_file hM.L_file (by decide) (by omega) ?_
      first | exact kont _ (flA_yes c36) | exact kont _ (flA_no c36)
set_option maxRecDepth 100000 in
set_option maxHeartbeats 4000000 in
theorem sp_flush0 (hM : MFix K R Ln) {many : Nat} (hm : I 582 11 = nI many) (hbm : many ≤ 520) (h0 : cnt (fun e => decide (A 22 e = 0)) many = 0) : EvM X mX9_flush (d + 1) [rV (some 11)] (K, I, J, R, A, B, Ln, n, sl) (fun r G' => r = some (iV (nI 0)) ∧ G' = (K, I, J, R, A, B, Ln, n, sl)) := by
  show Ev X mX9_flush (d + 1) 0 [some (rV (some 11)), none, none] [] (K, I, J, R, A, B, Ln, n, sl) _
  refine ev_aload_n dX9_flush_0 rfl ?_
  refine ev_iconstN 0 dX9_flush_1 (by decide) ?_
  refine ev_callV dX9_flush_2 okX9_inFile inX9_inFile seX9_inFile mlX9_152 hM.m (by decide) rfl [iV _] rfl rfl (Nat.le_of_ble_eq_true rfl) (Nat.le_of_ble_eq_true rfl) (sp_inFile (x := 0) hM hm hbm) (fun r_ G_ h_ => ?_)
  obtain ⟨rfl, rfl⟩ := h_
  rw [h0]
  try dsimp only [Option.toList, List.cons_append, List.nil_append]
  refine ev_istore_n _ dX9_flush_5 (by decide) rfl ?_
  refine ev_iload_n dX9_flush_6 rfl ?_
  refine ev_if_leN 59 dX9_flush_7 (by decide) (by omega) (fun c7 => ?_) (fun c7 => absurd c7 (by decide))
  refine ev_iload_n dX9_flush_59 rfl ?_
  refine ev_ireturn dX9_flush_60 rfl ?_
  exact ⟨rfl, rfl⟩
set_option maxRecDepth 100000 in
set_option maxHeartbeats 4000000 in
theorem sp_flush1 (hM : MFix K R Ln) {many : Nat} (hm : I 582 11 = nI many) (hbm : many ≤ 520) {md fn : Nat} (hmd : I 593 11 = nI md) (hfn : I 590 11 = nI fn) (hbf : fn < 520) (h0 : 0 < cnt (fun e => decide (A 22 e = 0)) many) : EvM X mX9_flush (d + 1) [rV (some 11)] (K, I, J, R, A, B, Ln, n, sl) (fun r G' => r = some (iV (nI (cnt (fun e => decide (A 22 e = 0)) many))) ∧ G' = (K, u2 (u2 I 593 11 (nI (md + 1))) 590 11 (nI (fn + 1)), J, R, flA (u2 (u2 A 23 fn (nI (md + 1))) 24 fn (nI 0)) (nI (md + 1)) many, B, Ln, n, sl)) := by
  have hle := cnt_le (fun e => decide (A 22 e = 0)) many
  show Ev X mX9_flush (d + 1) 0 [some (rV (some 11)), none, none] [] (K, I, J, R, A, B, Ln, n, sl) _
  refine ev_aload_n dX9_flush_0 rfl ?_
  refine ev_iconstN 0 dX9_flush_1 (by decide) ?_
  refine ev_callV dX9_flush_2 okX9_inFile inX9_inFile seX9_inFile mlX9_152 hM.m (by decide) rfl [iV _] rfl rfl (Nat.le_of_ble_eq_true rfl) (Nat.le_of_ble_eq_true rfl) (sp_inFile (x := 0) hM hm hbm) (fun r_ G_ h_ => ?_)
  obtain ⟨rfl, rfl⟩ := h_
  try dsimp only [Option.toList, List.cons_append, List.nil_append]
  refine ev_istore_n _ dX9_flush_5 (by decide) rfl ?_
  refine ev_iload_n dX9_flush_6 rfl ?_
  refine ev_if_leN 59 dX9_flush_7 (by decide) (by omega) (fun c7 => absurd c7 (by omega)) (fun c7 => ?_)
  refine ev_aload_n dX9_flush_10 rfl ?_
  refine ev_iconstN 0 dX9_flush_11 (by decide) ?_
  refine ev_callV dX9_flush_12 okX9_addFile inX9_addFile seX9_addFile mlX9_170 hM.m (by decide) rfl [iV _] rfl rfl (Nat.le_of_ble_eq_true rfl) (Nat.le_of_ble_eq_true rfl) (sp_addFile hM hmd hfn hbf) (fun r_ G_ h_ => ?_)
  obtain ⟨rfl, rfl⟩ := h_
  try dsimp only [Option.toList, List.cons_append, List.nil_append]
  refine ev_iconstN 0 dX9_flush_15 (by decide) ?_
  refine ev_istore_n _ dX9_flush_16 (by decide) rfl ?_
  have hm2 : u2 (u2 I 593 11 (nI (md + 1))) 590 11 (nI (fn + 1)) 582 11 = nI many := by rw [u2_ne1 (by decide), u2_ne1 (by decide)]; exact hm
  have hv2 : u2 (u2 I 593 11 (nI (md + 1))) 590 11 (nI (fn + 1)) 593 11 = nI (md + 1) := by rw [u2_ne1 (by decide)]; exact u2_self
  have h := lp_flush (X := X) (d := d) (J := J) (A := u2 (u2 A 23 fn (nI (md + 1))) 24 fn (nI 0)) (B := B) (n := n) (sl := sl) (r0 := nI (cnt (fun e => decide (A 22 e = 0)) many)) (Q := fun r G1 => r = some (iV (nI (cnt (fun e => decide (A 22 e = 0)) many))) ∧ G1 = (K, u2 (u2 I 593 11 (nI (md + 1))) 590 11 (nI (fn + 1)), J, R, flA (u2 (u2 A 23 fn (nI (md + 1))) 24 fn (nI 0)) (nI (md + 1)) many, B, Ln, n, sl)) hM hm2 hbm hv2 ⟨rfl, rfl⟩ many 0 (by omega)
  rw [flA_0] at h
  exact h
end M8
