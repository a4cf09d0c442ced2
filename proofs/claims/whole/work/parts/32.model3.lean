section M3
variable {X : CX} {d : Nat} {K : Nat → Nat} {I : Nat → Nat → Int32} {J : Nat → Nat → Int64} {R : Nat → Nat → Option Nat} {A : Nat → Nat → Int32} {B : Nat → Nat → Option Nat} {Ln : Nat → Nat} {n sl : Nat}
def cnt (p : Nat → Bool) : Nat → Nat
  | 0 => 0
  | e + 1 => cnt p e + (if p e = true then 1 else 0)
def allN (p : Nat → Bool) : Nat → Bool
  | 0 => true
  | e + 1 => allN p e && p e
def anyN (p : Nat → Bool) : Nat → Bool
  | 0 => false
  | e + 1 => anyN p e || p e
def bZ (b : Bool) : Int32 := if b = true then 1 else 0
theorem bZ_01 (b : Bool) : bZ b = 0 ∨ bZ b = 1 := by cases b <;> simp [bZ]
theorem cnt_le (p : Nat → Bool) : ∀ e, cnt p e ≤ e
  | 0 => Nat.le_refl 0
  | e + 1 => by
    have := cnt_le p e
    unfold cnt
    split <;> omega
def hzI (s b : Nat → Int32) (la : Int32) : Nat → Int32
  | 0 => la
  | t + 1 => if s t = 1 ∧ b t < hzI s b la t then b t else hzI s b la t
set_option maxRecDepth 100000 in
set_option maxHeartbeats 4000000 in
theorem sp_open_yes (hM : MFix K R Ln) {tn j : Nat} (ht : I 595 11 = nI tn) (hb : tn ≤ 60) (hj : j < tn) (hs : A 25 j = 1) : EvM X mX9_open d [rV (some 11), iV (nI j)] (K, I, J, R, A, B, Ln, n, sl) (fun r G' => r = some (iV 1) ∧ G' = (K, I, J, R, A, B, Ln, n, sl)) := by
  show Ev X mX9_open d 0 [some (rV (some 11)), some (iV (nI j))] [] (K, I, J, R, A, B, Ln, n, sl) _
  refine ev_iload_n dX9_open_0 rfl ?_
  refine ev_if_ltN 26 dX9_open_1 (by decide) (by omega) ?_
  refine ev_iload_n dX9_open_4 rfl ?_
  refine ev_aload_n dX9_open_5 rfl ?_
  refine ev_getIv dX9_open_6 fX9_116 hM.m ht ?_
  refine ev_icmp_geN 26 dX9_open_9 (by decide) (by omega) (by omega) (fun c9 => absurd c9 (by omega)) (fun c9 => ?_)
  refine ev_aload_n dX9_open_12 rfl ?_
  refine ev_getR dX9_open_13 fX9_50 hM.m hM.R_state ?_
  refine ev_iload_n dX9_open_16 rfl ?_
  refine ev_iald dX9_open_17 hM.K_state hM.L_state (by decide) (by omega) ?_
  refine ev_iconstN 1 dX9_open_18 (by decide) ?_
  refine ev_icmp_ne (y := 1) 26 dX9_open_19 (by decide) (fun c19 => absurd hs c19) (fun c19 => ?_)
  refine ev_iconstN 1 dX9_open_22 (by decide) ?_
  refine ev_goto 27 dX9_open_23 (by decide) ?_
  refine ev_zreturn dX9_open_27 rfl (by decide) ?_
  exact ⟨rfl, rfl⟩
set_option maxRecDepth 100000 in
set_option maxHeartbeats 4000000 in
theorem sp_open_no (hM : MFix K R Ln) {tn : Nat} {t : Int32} (ht : I 595 11 = nI tn) (hb : tn ≤ 60) (hs : ∀ j, j < tn → t = nI j → ¬ A 25 j = 1) : EvM X mX9_open d [rV (some 11), iV t] (K, I, J, R, A, B, Ln, n, sl) (fun r G' => r = some (iV 0) ∧ G' = (K, I, J, R, A, B, Ln, n, sl)) := by
  show Ev X mX9_open d 0 [some (rV (some 11)), some (iV t)] [] (K, I, J, R, A, B, Ln, n, sl) _
  rcases pk_ix t (n := tn) (by omega) with hc | hc | ⟨j, hj, rfl⟩
  · refine ev_iload_n dX9_open_0 rfl ?_
    refine ev_if_lt 26 dX9_open_1 (by decide) (fun c1 => ?_) (fun c1 => absurd hc c1)
    refine ev_iconstN 0 dX9_open_26 (by decide) ?_
    refine ev_zreturn dX9_open_27 rfl (by decide) ?_
    exact ⟨rfl, rfl⟩
  · refine ev_iload_n dX9_open_0 rfl ?_
    refine ev_if_lt 26 dX9_open_1 (by decide) (fun c1 => absurd c1 (Int32.not_lt.mpr (Int32.le_trans (nI_pos' (n := tn) (by omega)) hc))) (fun c1 => ?_)
    refine ev_iload_n dX9_open_4 rfl ?_
    refine ev_aload_n dX9_open_5 rfl ?_
    refine ev_getIv dX9_open_6 fX9_116 hM.m ht ?_
    refine ev_icmp_ge 26 dX9_open_9 (by decide) (fun c9 => ?_) (fun c9 => absurd hc c9)
    refine ev_iconstN 0 dX9_open_26 (by decide) ?_
    refine ev_zreturn dX9_open_27 rfl (by decide) ?_
    exact ⟨rfl, rfl⟩
  · refine ev_iload_n dX9_open_0 rfl ?_
    refine ev_if_ltN 26 dX9_open_1 (by decide) (by omega) ?_
    refine ev_iload_n dX9_open_4 rfl ?_
    refine ev_aload_n dX9_open_5 rfl ?_
    refine ev_getIv dX9_open_6 fX9_116 hM.m ht ?_
    refine ev_icmp_geN 26 dX9_open_9 (by decide) (by omega) (by omega) (fun c9 => absurd c9 (by omega)) (fun c9 => ?_)
    refine ev_aload_n dX9_open_12 rfl ?_
    refine ev_getR dX9_open_13 fX9_50 hM.m hM.R_state ?_
    refine ev_iload_n dX9_open_16 rfl ?_
    refine ev_iald dX9_open_17 hM.K_state hM.L_state (by decide) (by omega) ?_
    refine ev_iconstN 1 dX9_open_18 (by decide) ?_
    refine ev_icmp_ne (y := 1) 26 dX9_open_19 (by decide) (fun c19 => ?_) (fun c19 => absurd c19 (hs j hj rfl))
    refine ev_iconstN 0 dX9_open_26 (by decide) ?_
    refine ev_zreturn dX9_open_27 rfl (by decide) ?_
    exact ⟨rfl, rfl⟩
theorem open_cases (A : Nat → Nat → Int32) (tn : Nat) (t : Int32) : (∃ j, j < tn ∧ t = nI j ∧ A 25 j = 1) ∨ ∀ j, j < tn → t = nI j → ¬ A 25 j = 1 := by
  by_cases h : ∃ j, j < tn ∧ t = nI j ∧ A 25 j = 1
  · exact Or.inl h
  · exact Or.inr (fun j h1 h2 h3 => h ⟨j, h1, h2, h3⟩)
set_option maxRecDepth 100000 in
set_option maxHeartbeats 4000000 in
theorem lp_opens {Q : Option LV → GH → Prop} (hM : MFix K R Ln) {tn : Nat} (ht : I 595 11 = nI tn) (hb : tn ≤ 60) (hq : Q (some (iV (nI (cnt (fun t => decide (A 25 t = 1)) tn)))) (K, I, J, R, A, B, Ln, n, sl)) : ∀ (f e : Nat), e + f = tn → Ev X mX9_opens d 4 [some (rV (some 11)), some (iV (nI (cnt (fun t => decide (A 25 t = 1)) e))), some (iV (nI e))] [] (K, I, J, R, A, B, Ln, n, sl) Q := by
  intro f
  induction f with
  | zero =>
    intro e he
    refine ev_iload_n dX9_opens_4 rfl ?_
    refine ev_aload_n dX9_opens_5 rfl ?_
    refine ev_getIv dX9_opens_6 fX9_116 hM.m ht ?_
    refine ev_icmp_geN 36 dX9_opens_9 (by decide) (by omega) (by omega) (fun c9 => ?_) (fun c9 => absurd c9 (by omega))
    refine ev_iload_n dX9_opens_36 rfl ?_
    refine ev_ireturn dX9_opens_37 rfl ?_
    rw [show e = tn by omega]; exact hq
  | succ f ih =>
    intro e he
    have kont : ∀ z : Nat, z = cnt (fun t => decide (A 25 t = 1)) (e + 1) → Ev X mX9_opens d 30 [some (rV (some 11)), some (iV (nI (z))), some (iV (nI e))] [] (K, I, J, R, A, B, Ln, n, sl) Q := by
      intro z hz
      subst hz
      refine ev_iincN (b := 1) _ dX9_opens_30 rfl (by decide) (by decide) rfl ?_
      refine ev_goto 4 dX9_opens_33 (by decide) ?_
      exact ih (e + 1) (by omega)
    refine ev_iload_n dX9_opens_4 rfl ?_
    refine ev_aload_n dX9_opens_5 rfl ?_
    refine ev_getIv dX9_opens_6 fX9_116 hM.m ht ?_
    refine ev_icmp_geN 36 dX9_opens_9 (by decide) (by omega) (by omega) (fun c9 => absurd c9 (by omega)) (fun c9 => ?_)
    refine ev_iload_n dX9_opens_12 rfl ?_
    refine ev_aload_n dX9_opens_13 rfl ?_
    refine ev_getR dX9_opens_14 fX9_50 hM.m hM.R_state ?_
    refine ev_iload_n dX9_opens_17 rfl ?_
    refine ev_iald dX9_opens_18 hM.K_state hM.L_state (by decide) (by omega) ?_
    refine ev_iconstN 1 dX9_opens_19 (by decide) ?_
    refine ev_icmp_ne (y := 1) 27 dX9_opens_20 (by decide) (fun c20 => ?_) (fun c20 => ?_)
    · refine ev_iconstN 0 dX9_opens_27 (by decide) ?_
      refine ev_iaddN dX9_opens_28 ?_
      refine ev_istore_n _ dX9_opens_29 (by decide) rfl ?_
      exact kont _ (by simp [cnt, *])
    · refine ev_iconstN 1 dX9_opens_23 (by decide) ?_
      refine ev_goto 28 dX9_opens_24 (by decide) ?_
      refine ev_iaddN dX9_opens_28 ?_
      refine ev_istore_n _ dX9_opens_29 (by decide) rfl ?_
      exact kont _ (by simp [cnt, *])
theorem sp_opens (hM : MFix K R Ln) {tn : Nat} (ht : I 595 11 = nI tn) (hb : tn ≤ 60) : EvM X mX9_opens d [rV (some 11)] (K, I, J, R, A, B, Ln, n, sl) (fun r G' => r = some (iV (nI (cnt (fun t => decide (A 25 t = 1)) tn))) ∧ G' = (K, I, J, R, A, B, Ln, n, sl)) := by
  show Ev X mX9_opens d 0 [some (rV (some 11)), none, none] [] (K, I, J, R, A, B, Ln, n, sl) _
  refine ev_iconstN 0 dX9_opens_0 (by decide) ?_
  refine ev_istore_n _ dX9_opens_1 (by decide) rfl ?_
  refine ev_iconstN 0 dX9_opens_2 (by decide) ?_
  refine ev_istore_n _ dX9_opens_3 (by decide) rfl ?_
  exact lp_opens hM ht hb ⟨rfl, rfl⟩ tn 0 (by omega)
set_option maxRecDepth 100000 in
set_option maxHeartbeats 4000000 in
theorem lp_inFile {Q : Option LV → GH → Prop} (hM : MFix K R Ln) {many : Nat} {x : Int32} (hm : I 582 11 = nI many) (hb : many ≤ 520) (hq : Q (some (iV (nI (cnt (fun e => decide (A 22 e = x)) many)))) (K, I, J, R, A, B, Ln, n, sl)) : ∀ (f e : Nat), e + f = many → Ev X mX9_inFile d 4 [some (rV (some 11)), some (iV x), some (iV (nI (cnt (fun e => decide (A 22 e = x)) e))), some (iV (nI e))] [] (K, I, J, R, A, B, Ln, n, sl) Q := by
  intro f
  induction f with
  | zero =>
    intro e he
    refine ev_iload_n dX9_inFile_4 rfl ?_
    refine ev_aload_n dX9_inFile_5 rfl ?_
    refine ev_getIv dX9_inFile_6 fX9_106 hM.m hm ?_
    refine ev_icmp_geN 36 dX9_inFile_9 (by decide) (by omega) (by omega) (fun c9 => ?_) (fun c9 => absurd c9 (by omega))
    refine ev_iload_n dX9_inFile_36 rfl ?_
    refine ev_ireturn dX9_inFile_37 rfl ?_
    rw [show e = many by omega]; exact hq
  | succ f ih =>
    intro e he
    have kont : ∀ z : Nat, z = cnt (fun e => decide (A 22 e = x)) (e + 1) → Ev X mX9_inFile d 30 [some (rV (some 11)), some (iV x), some (iV (nI (z))), some (iV (nI e))] [] (K, I, J, R, A, B, Ln, n, sl) Q := by
      intro z hz
      subst hz
      refine ev_iincN (b := 1) _ dX9_inFile_30 rfl (by decide) (by decide) rfl ?_
      refine ev_goto 4 dX9_inFile_33 (by decide) ?_
      exact ih (e + 1) (by omega)
    refine ev_iload_n dX9_inFile_4 rfl ?_
    refine ev_aload_n dX9_inFile_5 rfl ?_
    refine ev_getIv dX9_inFile_6 fX9_106 hM.m hm ?_
    refine ev_icmp_geN 36 dX9_inFile_9 (by decide) (by omega) (by omega) (fun c9 => absurd c9 (by omega)) (fun c9 => ?_)
    refine ev_iload_n dX9_inFile_12 rfl ?_
    refine ev_aload_n dX9_inFile_13 rfl ?_
    refine ev_getR dX9_inFile_14 fX9_41 hM.m hM.R_file ?_
    refine ev_iload_n dX9_inFile_17 rfl ?_
    refine ev_iald dX9_inFile_18 hM.K_file hM.L_file (by decide) (by omega) ?_
    refine ev_iload_n dX9_inFile_19 rfl ?_
    refine ev_icmp_ne 27 dX9_inFile_20 (by decide) (fun c20 => ?_) (fun c20 => ?_)
    · refine ev_iconstN 0 dX9_inFile_27 (by decide) ?_
      refine ev_iaddN dX9_inFile_28 ?_
      refine ev_istore_n _ dX9_inFile_29 (by decide) rfl ?_
      exact kont _ (by simp [cnt, *])
    · refine ev_iconstN 1 dX9_inFile_23 (by decide) ?_
      refine ev_goto 28 dX9_inFile_24 (by decide) ?_
      refine ev_iaddN dX9_inFile_28 ?_
      refine ev_istore_n _ dX9_inFile_29 (by decide) rfl ?_
      exact kont _ (by simp [cnt, *])
theorem sp_inFile (hM : MFix K R Ln) {many : Nat} {x : Int32} (hm : I 582 11 = nI many) (hb : many ≤ 520) : EvM X mX9_inFile d [rV (some 11), iV x] (K, I, J, R, A, B, Ln, n, sl) (fun r G' => r = some (iV (nI (cnt (fun e => decide (A 22 e = x)) many))) ∧ G' = (K, I, J, R, A, B, Ln, n, sl)) := by
  show Ev X mX9_inFile d 0 [some (rV (some 11)), some (iV x), none, none] [] (K, I, J, R, A, B, Ln, n, sl) _
  refine ev_iconstN 0 dX9_inFile_0 (by decide) ?_
  refine ev_istore_n _ dX9_inFile_1 (by decide) rfl ?_
  refine ev_iconstN 0 dX9_inFile_2 (by decide) ?_
  refine ev_istore_n _ dX9_inFile_3 (by decide) rfl ?_
  exact lp_inFile hM hm hb ⟨rfl, rfl⟩ many 0 (by omega)
set_option maxRecDepth 100000 in
set_option maxHeartbeats 4000000 in
theorem lp_horizon {Q : Option LV → GH → Prop} (hM : MFix K R Ln) {tn : Nat} (ht : I 595 11 = nI tn) (hb : tn ≤ 60) (hq : Q (some (iV (hzI (A 25) (A 26) (I 594 11) tn))) (K, I, J, R, A, B, Ln, n, sl)) : ∀ (f e : Nat), e + f = tn → Ev X mX9_horizon d 7 [some (rV (some 11)), some (iV (hzI (A 25) (A 26) (I 594 11) e)), some (iV (nI e))] [] (K, I, J, R, A, B, Ln, n, sl) Q := by
  intro f
  induction f with
  | zero =>
    intro e he
    refine ev_iload_n dX9_horizon_7 rfl ?_
    refine ev_aload_n dX9_horizon_8 rfl ?_
    refine ev_getIv dX9_horizon_9 fX9_116 hM.m ht ?_
    refine ev_icmp_geN 52 dX9_horizon_12 (by decide) (by omega) (by omega) (fun c12 => ?_) (fun c12 => absurd c12 (by omega))
    refine ev_iload_n dX9_horizon_52 rfl ?_
    refine ev_ireturn dX9_horizon_53 rfl ?_
    rw [show e = tn by omega]; exact hq
  | succ f ih =>
    intro e he
    have kont : ∀ z : Int32, z = hzI (A 25) (A 26) (I 594 11) (e + 1) → Ev X mX9_horizon d 46 [some (rV (some 11)), some (iV (z)), some (iV (nI e))] [] (K, I, J, R, A, B, Ln, n, sl) Q := by
      intro z hz
      subst hz
      refine ev_iincN (b := 1) _ dX9_horizon_46 rfl (by decide) (by decide) rfl ?_
      refine ev_goto 7 dX9_horizon_49 (by decide) ?_
      exact ih (e + 1) (by omega)
    refine ev_iload_n dX9_horizon_7 rfl ?_
    refine ev_aload_n dX9_horizon_8 rfl ?_
    refine ev_getIv dX9_horizon_9 fX9_116 hM.m ht ?_
    refine ev_icmp_geN 52 dX9_horizon_12 (by decide) (by omega) (by omega) (fun c12 => absurd c12 (by omega)) (fun c12 => ?_)
    refine ev_aload_n dX9_horizon_15 rfl ?_
    refine ev_getR dX9_horizon_16 fX9_50 hM.m hM.R_state ?_
    refine ev_iload_n dX9_horizon_19 rfl ?_
    refine ev_iald dX9_horizon_20 hM.K_state hM.L_state (by decide) (by omega) ?_
    refine ev_iconstN 1 dX9_horizon_21 (by decide) ?_
    refine ev_icmp_ne (y := 1) 44 dX9_horizon_22 (by decide) (fun c22 => ?_) (fun c22 => ?_)
    · refine ev_iload_n dX9_horizon_44 rfl ?_
      refine ev_istore_n _ dX9_horizon_45 (by decide) rfl ?_
      try have z32 := Int32.not_lt.mpr c32
      try have y32 := Int32.not_le.mp c32
      exact kont _ (by simp [hzI, *])
    · refine ev_aload_n dX9_horizon_25 rfl ?_
      refine ev_getR dX9_horizon_26 fX9_53 hM.m hM.R_began ?_
      refine ev_iload_n dX9_horizon_29 rfl ?_
      refine ev_iald dX9_horizon_30 hM.K_began hM.L_began (by decide) (by omega) ?_
      refine ev_iload_n dX9_horizon_31 rfl ?_
      refine ev_icmp_ge 44 dX9_horizon_32 (by decide) (fun c32 => ?_) (fun c32 => ?_)
      · refine ev_iload_n dX9_horizon_44 rfl ?_
        refine ev_istore_n _ dX9_horizon_45 (by decide) rfl ?_
        try have z32 := Int32.not_lt.mpr c32
        try have y32 := Int32.not_le.mp c32
        exact kont _ (by simp [hzI, *])
      · refine ev_aload_n dX9_horizon_35 rfl ?_
        refine ev_getR dX9_horizon_36 fX9_53 hM.m hM.R_began ?_
        refine ev_iload_n dX9_horizon_39 rfl ?_
        refine ev_iald dX9_horizon_40 hM.K_began hM.L_began (by decide) (by omega) ?_
        refine ev_goto 45 dX9_horizon_41 (by decide) ?_
        refine ev_istore_n _ dX9_horizon_45 (by decide) rfl ?_
        try have z32 := Int32.not_lt.mpr c32
        try have y32 := Int32.not_le.mp c32
        exact kont _ (by simp [hzI, *])
theorem sp_horizon (hM : MFix K R Ln) {tn : Nat} (ht : I 595 11 = nI tn) (hb : tn ≤ 60) : EvM X mX9_horizon d [rV (some 11)] (K, I, J, R, A, B, Ln, n, sl) (fun r G' => r = some (iV (hzI (A 25) (A 26) (I 594 11) tn)) ∧ G' = (K, I, J, R, A, B, Ln, n, sl)) := by
  show Ev X mX9_horizon d 0 [some (rV (some 11)), none, none] [] (K, I, J, R, A, B, Ln, n, sl) _
  refine ev_aload_n dX9_horizon_0 rfl ?_
  refine ev_getI dX9_horizon_1 fX9_103 hM.m ?_
  refine ev_istore_n _ dX9_horizon_4 (by decide) rfl ?_
  refine ev_iconstN 0 dX9_horizon_5 (by decide) ?_
  refine ev_istore_n _ dX9_horizon_6 (by decide) rfl ?_
  exact lp_horizon hM ht hb ⟨rfl, rfl⟩ tn 0 (by omega)
set_option maxRecDepth 100000 in
set_option maxHeartbeats 4000000 in
theorem lp_files {Q : Option LV → GH → Prop} (hM : MFix K R Ln) {fn : Nat} {x : Int32} (hf : I 590 11 = nI fn) (hb : fn ≤ 520) (hq : Q (some (iV (nI (cnt (fun e => decide (A 24 e = x)) fn)))) (K, I, J, R, A, B, Ln, n, sl)) : ∀ (f e : Nat), e + f = fn → Ev X mX9_files d 15 [some (rV (some 11)), some (iV x), some (iV (nI (cnt (fun e => decide (A 24 e = x)) e))), some (iV (nI e))] [] (K, I, J, R, A, B, Ln, n, sl) Q := by
  intro f
  induction f with
  | zero =>
    intro e he
    refine ev_iload_n dX9_files_15 rfl ?_
    refine ev_aload_n dX9_files_16 rfl ?_
    refine ev_getIv dX9_files_17 fX9_167 hM.m hf ?_
    refine ev_icmp_geN 47 dX9_files_20 (by decide) (by omega) (by omega) (fun c20 => ?_) (fun c20 => absurd c20 (by omega))
    refine ev_iload_n dX9_files_47 rfl ?_
    refine ev_ireturn dX9_files_48 rfl ?_
    rw [show e = fn by omega]; exact hq
  | succ f ih =>
    intro e he
    have kont : ∀ z : Nat, z = cnt (fun e => decide (A 24 e = x)) (e + 1) → Ev X mX9_files d 41 [some (rV (some 11)), some (iV x), some (iV (nI (z))), some (iV (nI e))] [] (K, I, J, R, A, B, Ln, n, sl) Q := by
      intro z hz
      subst hz
      refine ev_iincN (b := 1) _ dX9_files_41 rfl (by decide) (by decide) rfl ?_
      refine ev_goto 15 dX9_files_44 (by decide) ?_
      exact ih (e + 1) (by omega)
    refine ev_iload_n dX9_files_15 rfl ?_
    refine ev_aload_n dX9_files_16 rfl ?_
    refine ev_getIv dX9_files_17 fX9_167 hM.m hf ?_
    refine ev_icmp_geN 47 dX9_files_20 (by decide) (by omega) (by omega) (fun c20 => absurd c20 (by omega)) (fun c20 => ?_)
    refine ev_iload_n dX9_files_23 rfl ?_
    refine ev_aload_n dX9_files_24 rfl ?_
    refine ev_getR dX9_files_25 fX9_47 hM.m hM.R_level ?_
    refine ev_iload_n dX9_files_28 rfl ?_
    refine ev_iald dX9_files_29 hM.K_level hM.L_level (by decide) (by omega) ?_
    refine ev_iload_n dX9_files_30 rfl ?_
    refine ev_icmp_ne 38 dX9_files_31 (by decide) (fun c31 => ?_) (fun c31 => ?_)
    · refine ev_iconstN 0 dX9_files_38 (by decide) ?_
      refine ev_iaddN dX9_files_39 ?_
      refine ev_istore_n _ dX9_files_40 (by decide) rfl ?_
      exact kont _ (by simp [cnt, *])
    · refine ev_iconstN 1 dX9_files_34 (by decide) ?_
      refine ev_goto 39 dX9_files_35 (by decide) ?_
      refine ev_iaddN dX9_files_39 ?_
      refine ev_istore_n _ dX9_files_40 (by decide) rfl ?_
      exact kont _ (by simp [cnt, *])
theorem sp_files (hM : MFix K R Ln) {fn : Nat} {x : Int32} (hf : I 590 11 = nI fn) (hb : fn ≤ 520) : EvM X mX9_files d [rV (some 11), iV x] (K, I, J, R, A, B, Ln, n, sl) (fun r G' => r = some (iV (if x < 0 ∨ 2 < x then -1 else nI (cnt (fun e => decide (A 24 e = x)) fn))) ∧ G' = (K, I, J, R, A, B, Ln, n, sl)) := by
  show Ev X mX9_files d 0 [some (rV (some 11)), some (iV x), none, none] [] (K, I, J, R, A, B, Ln, n, sl) _
  refine ev_iload_n dX9_files_0 rfl ?_
  refine ev_if_lt 9 dX9_files_1 (by decide) (fun c1 => ?_) (fun c1 => ?_)
  · refine ev_iconst (-1) dX9_files_9 (by decide) ?_
    refine ev_ireturn dX9_files_10 rfl ?_
    try have z1 := Int32.not_lt.mpr c1
    try have y1 := Int32.not_le.mp c1
    try have z6 := Int32.not_lt.mpr c6
    try have y6 := Int32.not_le.mp c6
    exact ⟨by simp [*], rfl⟩
  · refine ev_iload_n dX9_files_4 rfl ?_
    refine ev_iconstN 2 dX9_files_5 (by decide) ?_
    refine ev_icmp_le (y := 2) 11 dX9_files_6 (by decide) (fun c6 => ?_) (fun c6 => ?_)
    · refine ev_iconstN 0 dX9_files_11 (by decide) ?_
      refine ev_istore_n _ dX9_files_12 (by decide) rfl ?_
      refine ev_iconstN 0 dX9_files_13 (by decide) ?_
      refine ev_istore_n _ dX9_files_14 (by decide) rfl ?_
      try have z1 := Int32.not_lt.mpr c1
      try have y1 := Int32.not_le.mp c1
      try have z6 := Int32.not_lt.mpr c6
      try have y6 := Int32.not_le.mp c6
      exact lp_files hM hf hb ⟨by simp [*], rfl⟩ fn 0 (by omega)
    · refine ev_iconst (-1) dX9_files_9 (by decide) ?_
      refine ev_ireturn dX9_files_10 rfl ?_
      try have z1 := Int32.not_lt.mpr c1
      try have y1 := Int32.not_le.mp c1
      try have z6 := Int32.not_lt.mpr c6
      try have y6 := Int32.not_le.mp c6
      exact ⟨by simp [*], rfl⟩
theorem nI_one : nI 1 = 1 := rfl
set_option maxRecDepth 100000 in
set_option maxHeartbeats 4000000 in
theorem lp_reads {Q : Option LV → GH → Prop} (hM : MFix K R Ln) {t : Nat} (hb : t < 60) (hq : Q (some (iV (bZ (allN (fun k => decide (A 27 (32 * t + k) = 0)) 32)))) (K, I, J, R, A, B, Ln, n, sl)) : ∀ (f e : Nat), e + f = 32 → Ev X mX9_reads d 4 [some (rV (some 11)), some (iV (nI t)), some (iV (bZ (allN (fun k => decide (A 27 (32 * t + k) = 0)) e))), some (iV (nI e))] [] (K, I, J, R, A, B, Ln, n, sl) Q := by
  intro f
  induction f with
  | zero =>
    intro e he
    refine ev_iload_n dX9_reads_4 rfl ?_
    refine ev_bipushN 32 dX9_reads_5 (by decide) ?_
    refine ev_icmp_geN 40 dX9_reads_7 (by decide) (by omega) (by omega) (fun c7 => ?_) (fun c7 => absurd c7 (by omega))
    refine ev_iload_n dX9_reads_40 rfl ?_
    refine ev_zreturn dX9_reads_41 rfl (bZ_01 _) ?_
    rw [show e = 32 by omega]; exact hq
  | succ f ih =>
    intro e he
    have kont : ∀ z : Int32, z = bZ (allN (fun k => decide (A 27 (32 * t + k) = 0)) (e + 1)) → Ev X mX9_reads d 34 [some (rV (some 11)), some (iV (nI t)), some (iV (z)), some (iV (nI e))] [] (K, I, J, R, A, B, Ln, n, sl) Q := by
      intro z hz
      subst hz
      refine ev_iincN (b := 1) _ dX9_reads_34 rfl (by decide) (by decide) rfl ?_
      refine ev_goto 4 dX9_reads_37 (by decide) ?_
      exact ih (e + 1) (by omega)
    cases ho : allN (fun k => decide (A 27 (32 * t + k) = 0)) e with
    | false =>
      show Ev X mX9_reads d 4 [some (rV (some 11)), some (iV (nI t)), some (iV (nI 0)), some (iV (nI e))] [] (K, I, J, R, A, B, Ln, n, sl) Q
      refine ev_iload_n dX9_reads_4 rfl ?_
      refine ev_bipushN 32 dX9_reads_5 (by decide) ?_
      refine ev_icmp_geN 40 dX9_reads_7 (by decide) (by omega) (by omega) (fun c7 => absurd c7 (by omega)) (fun c7 => ?_)
      refine ev_iload_n dX9_reads_10 rfl ?_
      refine ev_if_eqN 32 dX9_reads_11 (by decide) (by omega) (fun c11 => ?_) (fun c11 => absurd c11 (by decide))
      refine ev_iconstN 0 dX9_reads_32 (by decide) ?_
      refine ev_istore_n _ dX9_reads_33 (by decide) rfl ?_
      exact kont _ (by first | (simp [allN, anyN, bZ, ho, nI_0, nI_one, *]; done) | (simp [allN, anyN, bZ, ho, nI_0, nI_one, *]; rfl))
    | true =>
      show Ev X mX9_reads d 4 [some (rV (some 11)), some (iV (nI t)), some (iV (nI 1)), some (iV (nI e))] [] (K, I, J, R, A, B, Ln, n, sl) Q
      refine ev_iload_n dX9_reads_4 rfl ?_
      refine ev_bipushN 32 dX9_reads_5 (by decide) ?_
      refine ev_icmp_geN 40 dX9_reads_7 (by decide) (by omega) (by omega) (fun c7 => absurd c7 (by omega)) (fun c7 => ?_)
      refine ev_iload_n dX9_reads_10 rfl ?_
      refine ev_if_eqN 32 dX9_reads_11 (by decide) (by omega) (fun c11 => absurd c11 (by decide)) (fun c11 => ?_)
      refine ev_aload_n dX9_reads_14 rfl ?_
      refine ev_getR dX9_reads_15 fX9_56 hM.m hM.R_writes ?_
      refine ev_bipushN 32 dX9_reads_18 (by decide) ?_
      refine ev_iload_n dX9_reads_20 rfl ?_
      refine ev_imulN dX9_reads_21 ?_
      refine ev_iload_n dX9_reads_22 rfl ?_
      refine ev_iaddN dX9_reads_23 ?_
      refine ev_iald dX9_reads_24 hM.K_writes hM.L_writes (by decide) (by omega) ?_
      refine ev_if_ne 32 dX9_reads_25 (by decide) (fun c25 => ?_) (fun c25 => ?_)
      · refine ev_iconstN 0 dX9_reads_32 (by decide) ?_
        refine ev_istore_n _ dX9_reads_33 (by decide) rfl ?_
        exact kont _ (by first | (simp [allN, anyN, bZ, ho, nI_0, nI_one, *]; done) | (simp [allN, anyN, bZ, ho, nI_0, nI_one, *]; rfl))
      · refine ev_iconstN 1 dX9_reads_28 (by decide) ?_
        refine ev_goto 33 dX9_reads_29 (by decide) ?_
        refine ev_istore_n _ dX9_reads_33 (by decide) rfl ?_
        exact kont _ (by first | (simp [allN, anyN, bZ, ho, nI_0, nI_one, *]; done) | (simp [allN, anyN, bZ, ho, nI_0, nI_one, *]; rfl))
theorem sp_reads (hM : MFix K R Ln) {t : Nat} (hb : t < 60) : EvM X mX9_reads d [rV (some 11), iV (nI t)] (K, I, J, R, A, B, Ln, n, sl) (fun r G' => r = some (iV (bZ (allN (fun k => decide (A 27 (32 * t + k) = 0)) 32))) ∧ G' = (K, I, J, R, A, B, Ln, n, sl)) := by
  show Ev X mX9_reads d 0 [some (rV (some 11)), some (iV (nI t)), none, none] [] (K, I, J, R, A, B, Ln, n, sl) _
  refine ev_iconstN 1 dX9_reads_0 (by decide) ?_
  refine ev_istore_n _ dX9_reads_1 (by decide) rfl ?_
  refine ev_iconstN 0 dX9_reads_2 (by decide) ?_
  refine ev_istore_n _ dX9_reads_3 (by decide) rfl ?_
  exact lp_reads hM hb ⟨rfl, rfl⟩ 32 0 (by omega)
def btP (A : Nat → Nat → Int32) (t : Nat) (ky : Nat → Nat) (e : Nat) : Bool := decide (A 16 e = 0 ∧ A 26 t < A 19 e ∧ 0 < A 27 (32 * t + ky e))
set_option maxRecDepth 100000 in
set_option maxHeartbeats 4000000 in
theorem lp_beaten {Q : Option LV → GH → Prop} (hM : MFix K R Ln) {many t : Nat} {ky : Nat → Nat} (hm : I 582 11 = nI many) (hb : many ≤ 520) (ht : t < 60) (hk : ∀ e, e < many → A 18 e = nI (ky e) ∧ ky e < 32) (hq : Q (some (iV (bZ (anyN (btP A t ky) many)))) (K, I, J, R, A, B, Ln, n, sl)) : ∀ (f e : Nat), e + f = many → Ev X mX9_beaten d 4 [some (rV (some 11)), some (iV (nI t)), some (iV (bZ (anyN (btP A t ky) e))), some (iV (nI e))] [] (K, I, J, R, A, B, Ln, n, sl) Q := by
  intro f
  induction f with
  | zero =>
    intro e he
    refine ev_iload_n dX9_beaten_4 rfl ?_
    refine ev_aload_n dX9_beaten_5 rfl ?_
    refine ev_getIv dX9_beaten_6 fX9_106 hM.m hm ?_
    refine ev_icmp_geN 71 dX9_beaten_9 (by decide) (by omega) (by omega) (fun c9 => ?_) (fun c9 => absurd c9 (by omega))
    refine ev_iload_n dX9_beaten_71 rfl ?_
    refine ev_zreturn dX9_beaten_72 rfl (bZ_01 _) ?_
    rw [show e = many by omega]; exact hq
  | succ f ih =>
    intro e he
    have kont : ∀ z : Int32, z = bZ (anyN (btP A t ky) (e + 1)) → Ev X mX9_beaten d 65 [some (rV (some 11)), some (iV (nI t)), some (iV (z)), some (iV (nI e))] [] (K, I, J, R, A, B, Ln, n, sl) Q := by
      intro z hz
      subst hz
      refine ev_iincN (b := 1) _ dX9_beaten_65 rfl (by decide) (by decide) rfl ?_
      refine ev_goto 4 dX9_beaten_68 (by decide) ?_
      exact ih (e + 1) (by omega)
    cases ho : anyN (btP A t ky) e with
    | false =>
      show Ev X mX9_beaten d 4 [some (rV (some 11)), some (iV (nI t)), some (iV (nI 0)), some (iV (nI e))] [] (K, I, J, R, A, B, Ln, n, sl) Q
      refine ev_iload_n dX9_beaten_4 rfl ?_
      refine ev_aload_n dX9_beaten_5 rfl ?_
      refine ev_getIv dX9_beaten_6 fX9_106 hM.m hm ?_
      refine ev_icmp_geN 71 dX9_beaten_9 (by decide) (by omega) (by omega) (fun c9 => absurd c9 (by omega)) (fun c9 => ?_)
      refine ev_iload_n dX9_beaten_12 rfl ?_
      refine ev_if_neN 59 dX9_beaten_13 (by decide) (by omega) (fun c13 => absurd c13 (by decide)) (fun c13 => ?_)
      refine ev_aload_n dX9_beaten_16 rfl ?_
      refine ev_getR dX9_beaten_17 fX9_23 hM.m hM.R_space ?_
      refine ev_iload_n dX9_beaten_20 rfl ?_
      refine ev_iald dX9_beaten_21 hM.K_space hM.L_space (by decide) (by omega) ?_
      refine ev_if_ne 63 dX9_beaten_22 (by decide) (fun c22 => ?_) (fun c22 => ?_)
      · refine ev_iconstN 0 dX9_beaten_63 (by decide) ?_
        refine ev_istore_n _ dX9_beaten_64 (by decide) rfl ?_
        try have z37 := Int32.not_lt.mpr c37
        try have y37 := Int32.not_le.mp c37
        try have z56 := Int32.not_lt.mpr c56
        try have y56 := Int32.not_le.mp c56
        exact kont _ (by first | (simp [anyN, btP, bZ, ho, nI_0, nI_one, *]; done) | (simp [anyN, btP, bZ, ho, nI_0, nI_one, *]; rfl))
      · refine ev_aload_n dX9_beaten_25 rfl ?_
        refine ev_getR dX9_beaten_26 fX9_32 hM.m hM.R_stamp ?_
        refine ev_iload_n dX9_beaten_29 rfl ?_
        refine ev_iald dX9_beaten_30 hM.K_stamp hM.L_stamp (by decide) (by omega) ?_
        refine ev_aload_n dX9_beaten_31 rfl ?_
        refine ev_getR dX9_beaten_32 fX9_53 hM.m hM.R_began ?_
        refine ev_iload_n dX9_beaten_35 rfl ?_
        refine ev_iald dX9_beaten_36 hM.K_began hM.L_began (by decide) (by omega) ?_
        refine ev_icmp_le 63 dX9_beaten_37 (by decide) (fun c37 => ?_) (fun c37 => ?_)
        · refine ev_iconstN 0 dX9_beaten_63 (by decide) ?_
          refine ev_istore_n _ dX9_beaten_64 (by decide) rfl ?_
          try have z37 := Int32.not_lt.mpr c37
          try have y37 := Int32.not_le.mp c37
          try have z56 := Int32.not_lt.mpr c56
          try have y56 := Int32.not_le.mp c56
          exact kont _ (by first | (simp [anyN, btP, bZ, ho, nI_0, nI_one, *]; done) | (simp [anyN, btP, bZ, ho, nI_0, nI_one, *]; rfl))
        · refine ev_aload_n dX9_beaten_40 rfl ?_
          refine ev_getR dX9_beaten_41 fX9_56 hM.m hM.R_writes ?_
          refine ev_bipushN 32 dX9_beaten_44 (by decide) ?_
          refine ev_iload_n dX9_beaten_46 rfl ?_
          refine ev_imulN dX9_beaten_47 ?_
          refine ev_aload_n dX9_beaten_48 rfl ?_
          refine ev_getR dX9_beaten_49 fX9_29 hM.m hM.R_key ?_
          refine ev_iload_n dX9_beaten_52 rfl ?_
          refine ev_ialdv dX9_beaten_53 hM.K_key hM.L_key (by decide) (by omega) (hk e (by omega)).1 ?_
          refine ev_iaddN dX9_beaten_54 ?_
          refine ev_iald dX9_beaten_55 hM.K_writes hM.L_writes (by decide) (by have := (hk e (by omega)).2; omega) ?_
          refine ev_if_le 63 dX9_beaten_56 (by decide) (fun c56 => ?_) (fun c56 => ?_)
          · refine ev_iconstN 0 dX9_beaten_63 (by decide) ?_
            refine ev_istore_n _ dX9_beaten_64 (by decide) rfl ?_
            try have z37 := Int32.not_lt.mpr c37
            try have y37 := Int32.not_le.mp c37
            try have z56 := Int32.not_lt.mpr c56
            try have y56 := Int32.not_le.mp c56
            exact kont _ (by first | (simp [anyN, btP, bZ, ho, nI_0, nI_one, *]; done) | (simp [anyN, btP, bZ, ho, nI_0, nI_one, *]; rfl))
          · refine ev_iconstN 1 dX9_beaten_59 (by decide) ?_
            refine ev_goto 64 dX9_beaten_60 (by decide) ?_
            refine ev_istore_n _ dX9_beaten_64 (by decide) rfl ?_
            try have z37 := Int32.not_lt.mpr c37
            try have y37 := Int32.not_le.mp c37
            try have z56 := Int32.not_lt.mpr c56
            try have y56 := Int32.not_le.mp c56
            exact kont _ (by first | (simp [anyN, btP, bZ, ho, nI_0, nI_one, *]; done) | (simp [anyN, btP, bZ, ho, nI_0, nI_one, *]; rfl))
    | true =>
      show Ev X mX9_beaten d 4 [some (rV (some 11)), some (iV (nI t)), some (iV (nI 1)), some (iV (nI e))] [] (K, I, J, R, A, B, Ln, n, sl) Q
      refine ev_iload_n dX9_beaten_4 rfl ?_
      refine ev_aload_n dX9_beaten_5 rfl ?_
      refine ev_getIv dX9_beaten_6 fX9_106 hM.m hm ?_
      refine ev_icmp_geN 71 dX9_beaten_9 (by decide) (by omega) (by omega) (fun c9 => absurd c9 (by omega)) (fun c9 => ?_)
      refine ev_iload_n dX9_beaten_12 rfl ?_
      refine ev_if_neN 59 dX9_beaten_13 (by decide) (by omega) (fun c13 => ?_) (fun c13 => absurd c13 (by decide))
      refine ev_iconstN 1 dX9_beaten_59 (by decide) ?_
      refine ev_goto 64 dX9_beaten_60 (by decide) ?_
      refine ev_istore_n _ dX9_beaten_64 (by decide) rfl ?_
      try have z37 := Int32.not_lt.mpr c37
      try have y37 := Int32.not_le.mp c37
      try have z56 := Int32.not_lt.mpr c56
      try have y56 := Int32.not_le.mp c56
      exact kont _ (by first | (simp [anyN, btP, bZ, ho, nI_0, nI_one, *]; done) | (simp [anyN, btP, bZ, ho, nI_0, nI_one, *]; rfl))
theorem sp_beaten (hM : MFix K R Ln) {many t : Nat} {ky : Nat → Nat} (hm : I 582 11 = nI many) (hb : many ≤ 520) (ht : t < 60) (hk : ∀ e, e < many → A 18 e = nI (ky e) ∧ ky e < 32) : EvM X mX9_beaten d [rV (some 11), iV (nI t)] (K, I, J, R, A, B, Ln, n, sl) (fun r G' => r = some (iV (bZ (anyN (btP A t ky) many))) ∧ G' = (K, I, J, R, A, B, Ln, n, sl)) := by
  show Ev X mX9_beaten d 0 [some (rV (some 11)), some (iV (nI t)), none, none] [] (K, I, J, R, A, B, Ln, n, sl) _
  refine ev_iconstN 0 dX9_beaten_0 (by decide) ?_
  refine ev_istore_n _ dX9_beaten_1 (by decide) rfl ?_
  refine ev_iconstN 0 dX9_beaten_2 (by decide) ?_
  refine ev_istore_n _ dX9_beaten_3 (by decide) rfl ?_
  exact lp_beaten hM hm hb ht hk ⟨rfl, rfl⟩ many 0 (by omega)
def plI (s v k : Nat → Int32) (a b : Nat) : Int32 := if s a = s b then (if v a = v b then (if k a < k b then -1 else if k b < k a then 1 else 0) else if v a < v b then -1 else 1) else if s a < s b then -1 else 1
def bfB (s v k t : Nat → Int32) (a b : Nat) : Bool := decide (plI s v k a b < 0 ∨ (plI s v k a b = 0 ∧ t b < t a))
set_option maxRecDepth 100000 in
set_option maxHeartbeats 4000000 in
theorem sp_places (hM : MFix K R Ln) {a b : Nat} (ha : a < 520) (hb : b < 520) : EvM X mX9_places d [rV (some 11), iV (nI a), iV (nI b)] (K, I, J, R, A, B, Ln, n, sl) (fun r G' => r = some (iV (plI (A 16) (A 17) (A 18) a b)) ∧ G' = (K, I, J, R, A, B, Ln, n, sl)) := by
  show Ev X mX9_places d 0 [some (rV (some 11)), some (iV (nI a)), some (iV (nI b))] [] (K, I, J, R, A, B, Ln, n, sl) _
  unfold plI
  refine ev_aload_n dX9_places_0 rfl ?_
  refine ev_getR dX9_places_1 fX9_23 hM.m hM.R_space ?_
  refine ev_iload_n dX9_places_4 rfl ?_
  refine ev_iald dX9_places_5 hM.K_space hM.L_space (by decide) (by omega) ?_
  refine ev_aload_n dX9_places_6 rfl ?_
  refine ev_getR dX9_places_7 fX9_23 hM.m hM.R_space ?_
  refine ev_iload_n dX9_places_10 rfl ?_
  refine ev_iald dX9_places_11 hM.K_space hM.L_space (by decide) (by omega) ?_
  refine ev_icmp_eq 36 dX9_places_12 (by decide) (fun c12 => ?_) (fun c12 => ?_)
  · refine ev_aload_n dX9_places_36 rfl ?_
    refine ev_getR dX9_places_37 fX9_26 hM.m hM.R_value ?_
    refine ev_iload_n dX9_places_40 rfl ?_
    refine ev_iald dX9_places_41 hM.K_value hM.L_value (by decide) (by omega) ?_
    refine ev_aload_n dX9_places_42 rfl ?_
    refine ev_getR dX9_places_43 fX9_26 hM.m hM.R_value ?_
    refine ev_iload_n dX9_places_46 rfl ?_
    refine ev_iald dX9_places_47 hM.K_value hM.L_value (by decide) (by omega) ?_
    refine ev_icmp_eq 72 dX9_places_48 (by decide) (fun c48 => ?_) (fun c48 => ?_)
    · refine ev_aload_n dX9_places_72 rfl ?_
      refine ev_getR dX9_places_73 fX9_29 hM.m hM.R_key ?_
      refine ev_iload_n dX9_places_76 rfl ?_
      refine ev_iald dX9_places_77 hM.K_key hM.L_key (by decide) (by omega) ?_
      refine ev_aload_n dX9_places_78 rfl ?_
      refine ev_getR dX9_places_79 fX9_29 hM.m hM.R_key ?_
      refine ev_iload_n dX9_places_82 rfl ?_
      refine ev_iald dX9_places_83 hM.K_key hM.L_key (by decide) (by omega) ?_
      refine ev_icmp_ge 91 dX9_places_84 (by decide) (fun c84 => ?_) (fun c84 => ?_)
      · refine ev_aload_n dX9_places_91 rfl ?_
        refine ev_getR dX9_places_92 fX9_29 hM.m hM.R_key ?_
        refine ev_iload_n dX9_places_95 rfl ?_
        refine ev_iald dX9_places_96 hM.K_key hM.L_key (by decide) (by omega) ?_
        refine ev_aload_n dX9_places_97 rfl ?_
        refine ev_getR dX9_places_98 fX9_29 hM.m hM.R_key ?_
        refine ev_iload_n dX9_places_101 rfl ?_
        refine ev_iald dX9_places_102 hM.K_key hM.L_key (by decide) (by omega) ?_
        refine ev_icmp_le 110 dX9_places_103 (by decide) (fun c103 => ?_) (fun c103 => ?_)
        · refine ev_iconstN 0 dX9_places_110 (by decide) ?_
          refine ev_ireturn dX9_places_111 rfl ?_
          try have z27 := Int32.not_lt.mpr c27
          try have y27 := Int32.not_le.mp c27
          try have z63 := Int32.not_lt.mpr c63
          try have y63 := Int32.not_le.mp c63
          try have z84 := Int32.not_lt.mpr c84
          try have y84 := Int32.not_le.mp c84
          try have z103 := Int32.not_lt.mpr c103
          try have y103 := Int32.not_le.mp c103
          exact ⟨by first | (simp [*]; done) | (simp [*]; rfl), rfl⟩
        · refine ev_iconstN 1 dX9_places_106 (by decide) ?_
          refine ev_goto 111 dX9_places_107 (by decide) ?_
          refine ev_ireturn dX9_places_111 rfl ?_
          try have z27 := Int32.not_lt.mpr c27
          try have y27 := Int32.not_le.mp c27
          try have z63 := Int32.not_lt.mpr c63
          try have y63 := Int32.not_le.mp c63
          try have z84 := Int32.not_lt.mpr c84
          try have y84 := Int32.not_le.mp c84
          try have z103 := Int32.not_lt.mpr c103
          try have y103 := Int32.not_le.mp c103
          exact ⟨by first | (simp [*]; done) | (simp [*]; rfl), rfl⟩
      · refine ev_iconst (-1) dX9_places_87 (by decide) ?_
        refine ev_goto 111 dX9_places_88 (by decide) ?_
        refine ev_ireturn dX9_places_111 rfl ?_
        try have z27 := Int32.not_lt.mpr c27
        try have y27 := Int32.not_le.mp c27
        try have z63 := Int32.not_lt.mpr c63
        try have y63 := Int32.not_le.mp c63
        try have z84 := Int32.not_lt.mpr c84
        try have y84 := Int32.not_le.mp c84
        try have z103 := Int32.not_lt.mpr c103
        try have y103 := Int32.not_le.mp c103
        exact ⟨by first | (simp [*]; done) | (simp [*]; rfl), rfl⟩
    · refine ev_aload_n dX9_places_51 rfl ?_
      refine ev_getR dX9_places_52 fX9_26 hM.m hM.R_value ?_
      refine ev_iload_n dX9_places_55 rfl ?_
      refine ev_iald dX9_places_56 hM.K_value hM.L_value (by decide) (by omega) ?_
      refine ev_aload_n dX9_places_57 rfl ?_
      refine ev_getR dX9_places_58 fX9_26 hM.m hM.R_value ?_
      refine ev_iload_n dX9_places_61 rfl ?_
      refine ev_iald dX9_places_62 hM.K_value hM.L_value (by decide) (by omega) ?_
      refine ev_icmp_ge 70 dX9_places_63 (by decide) (fun c63 => ?_) (fun c63 => ?_)
      · refine ev_iconstN 1 dX9_places_70 (by decide) ?_
        refine ev_ireturn dX9_places_71 rfl ?_
        try have z27 := Int32.not_lt.mpr c27
        try have y27 := Int32.not_le.mp c27
        try have z63 := Int32.not_lt.mpr c63
        try have y63 := Int32.not_le.mp c63
        try have z84 := Int32.not_lt.mpr c84
        try have y84 := Int32.not_le.mp c84
        try have z103 := Int32.not_lt.mpr c103
        try have y103 := Int32.not_le.mp c103
        exact ⟨by first | (simp [*]; done) | (simp [*]; rfl), rfl⟩
      · refine ev_iconst (-1) dX9_places_66 (by decide) ?_
        refine ev_goto 71 dX9_places_67 (by decide) ?_
        refine ev_ireturn dX9_places_71 rfl ?_
        try have z27 := Int32.not_lt.mpr c27
        try have y27 := Int32.not_le.mp c27
        try have z63 := Int32.not_lt.mpr c63
        try have y63 := Int32.not_le.mp c63
        try have z84 := Int32.not_lt.mpr c84
        try have y84 := Int32.not_le.mp c84
        try have z103 := Int32.not_lt.mpr c103
        try have y103 := Int32.not_le.mp c103
        exact ⟨by first | (simp [*]; done) | (simp [*]; rfl), rfl⟩
  · refine ev_aload_n dX9_places_15 rfl ?_
    refine ev_getR dX9_places_16 fX9_23 hM.m hM.R_space ?_
    refine ev_iload_n dX9_places_19 rfl ?_
    refine ev_iald dX9_places_20 hM.K_space hM.L_space (by decide) (by omega) ?_
    refine ev_aload_n dX9_places_21 rfl ?_
    refine ev_getR dX9_places_22 fX9_23 hM.m hM.R_space ?_
    refine ev_iload_n dX9_places_25 rfl ?_
    refine ev_iald dX9_places_26 hM.K_space hM.L_space (by decide) (by omega) ?_
    refine ev_icmp_ge 34 dX9_places_27 (by decide) (fun c27 => ?_) (fun c27 => ?_)
    · refine ev_iconstN 1 dX9_places_34 (by decide) ?_
      refine ev_ireturn dX9_places_35 rfl ?_
      try have z27 := Int32.not_lt.mpr c27
      try have y27 := Int32.not_le.mp c27
      try have z63 := Int32.not_lt.mpr c63
      try have y63 := Int32.not_le.mp c63
      try have z84 := Int32.not_lt.mpr c84
      try have y84 := Int32.not_le.mp c84
      try have z103 := Int32.not_lt.mpr c103
      try have y103 := Int32.not_le.mp c103
      exact ⟨by first | (simp [*]; done) | (simp [*]; rfl), rfl⟩
    · refine ev_iconst (-1) dX9_places_30 (by decide) ?_
      refine ev_goto 35 dX9_places_31 (by decide) ?_
      refine ev_ireturn dX9_places_35 rfl ?_
      try have z27 := Int32.not_lt.mpr c27
      try have y27 := Int32.not_le.mp c27
      try have z63 := Int32.not_lt.mpr c63
      try have y63 := Int32.not_le.mp c63
      try have z84 := Int32.not_lt.mpr c84
      try have y84 := Int32.not_le.mp c84
      try have z103 := Int32.not_lt.mpr c103
      try have y103 := Int32.not_le.mp c103
      exact ⟨by first | (simp [*]; done) | (simp [*]; rfl), rfl⟩
set_option maxRecDepth 100000 in
set_option maxHeartbeats 4000000 in
theorem sp_before (hM : MFix K R Ln) {a b : Nat} (ha : a < 520) (hb : b < 520) : EvM X mX9_before (d + 1) [rV (some 11), iV (nI a), iV (nI b)] (K, I, J, R, A, B, Ln, n, sl) (fun r G' => r = some (iV (bZ (bfB (A 16) (A 17) (A 18) (A 19) a b))) ∧ G' = (K, I, J, R, A, B, Ln, n, sl)) := by
  show Ev X mX9_before (d + 1) 0 [some (rV (some 11)), some (iV (nI a)), some (iV (nI b)), none] [] (K, I, J, R, A, B, Ln, n, sl) _
  unfold bfB
  refine ev_aload_n dX9_before_0 rfl ?_
  refine ev_iload_n dX9_before_1 rfl ?_
  refine ev_iload_n dX9_before_2 rfl ?_
  refine ev_callV dX9_before_3 okX9_places inX9_places seX9_places mlX9_178 hM.m (by decide) rfl [iV _, iV _] rfl rfl (Nat.le_of_ble_eq_true rfl) (Nat.le_of_ble_eq_true rfl) (sp_places hM ha hb) (fun r_ G_ h_ => ?_)
  obtain ⟨rfl, rfl⟩ := h_
  dsimp only [Option.toList, List.cons_append, List.nil_append]
  refine ev_istore_n _ dX9_before_6 (by decide) rfl ?_
  refine ev_iload_n dX9_before_7 rfl ?_
  refine ev_if_lt 30 dX9_before_8 (by decide) (fun c8 => ?_) (fun c8 => ?_)
  · refine ev_iconstN 1 dX9_before_30 (by decide) ?_
    refine ev_goto 35 dX9_before_31 (by decide) ?_
    refine ev_zreturn dX9_before_35 rfl (by decide) ?_
    try have z8 := Int32.not_lt.mpr c8
    try have y8 := Int32.not_le.mp c8
    try have z27 := Int32.not_lt.mpr c27
    try have y27 := Int32.not_le.mp c27
    exact ⟨by first | (simp [bZ, *]; done) | (simp [bZ, *]; rfl), rfl⟩
  · refine ev_iload_n dX9_before_11 rfl ?_
    refine ev_if_ne 34 dX9_before_12 (by decide) (fun c12 => ?_) (fun c12 => ?_)
    · refine ev_iconstN 0 dX9_before_34 (by decide) ?_
      refine ev_zreturn dX9_before_35 rfl (by decide) ?_
      try have z8 := Int32.not_lt.mpr c8
      try have y8 := Int32.not_le.mp c8
      try have z27 := Int32.not_lt.mpr c27
      try have y27 := Int32.not_le.mp c27
      exact ⟨by first | (simp [bZ, *]; done) | (simp [bZ, *]; rfl), rfl⟩
    · refine ev_aload_n dX9_before_15 rfl ?_
      refine ev_getR dX9_before_16 fX9_32 hM.m hM.R_stamp ?_
      refine ev_iload_n dX9_before_19 rfl ?_
      refine ev_iald dX9_before_20 hM.K_stamp hM.L_stamp (by decide) (by omega) ?_
      refine ev_aload_n dX9_before_21 rfl ?_
      refine ev_getR dX9_before_22 fX9_32 hM.m hM.R_stamp ?_
      refine ev_iload_n dX9_before_25 rfl ?_
      refine ev_iald dX9_before_26 hM.K_stamp hM.L_stamp (by decide) (by omega) ?_
      refine ev_icmp_le 34 dX9_before_27 (by decide) (fun c27 => ?_) (fun c27 => ?_)
      · refine ev_iconstN 0 dX9_before_34 (by decide) ?_
        refine ev_zreturn dX9_before_35 rfl (by decide) ?_
        try have z8 := Int32.not_lt.mpr c8
        try have y8 := Int32.not_le.mp c8
        try have z27 := Int32.not_lt.mpr c27
        try have y27 := Int32.not_le.mp c27
        exact ⟨by first | (simp [bZ, *]; done) | (simp [bZ, *]; rfl), rfl⟩
      · refine ev_iconstN 1 dX9_before_30 (by decide) ?_
        refine ev_goto 35 dX9_before_31 (by decide) ?_
        refine ev_zreturn dX9_before_35 rfl (by decide) ?_
        try have z8 := Int32.not_lt.mpr c8
        try have y8 := Int32.not_le.mp c8
        try have z27 := Int32.not_lt.mpr c27
        try have y27 := Int32.not_le.mp c27
        exact ⟨by first | (simp [bZ, *]; done) | (simp [bZ, *]; rfl), rfl⟩
end M3
