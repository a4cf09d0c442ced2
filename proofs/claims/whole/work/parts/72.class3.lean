/-- the class's object, its store and their arrays, where the law makes them -/
def CFix (K : Nat → Nat) (R : Nat → Nat → Option Nat) (Ln : Nat → Nat) : Prop := K 3 = 8 ∧ R 512 3 = some 4 ∧ K 4 = 102 ∧ Ln 4 = 8 ∧ R 514 3 = some 5 ∧ K 5 = 102 ∧ Ln 5 = 3 ∧ R 516 3 = some 6 ∧ K 6 = 103 ∧ Ln 6 = 60 ∧ R 518 3 = some 7 ∧ K 7 = 6 ∧ R 384 7 = some 8 ∧ K 8 = 105 ∧ Ln 8 = 500 ∧ R 387 7 = some 9 ∧ K 9 = 10 ∧ R 520 3 = some 10 ∧ K 10 = 100 ∧ Ln 10 = 32
section CFIX
variable {K : Nat → Nat} {R : Nat → Nat → Option Nat} {Ln : Nat → Nat}
theorem CFix.m (h : CFix K R Ln) : K 3 = 8 := h.1
theorem CFix.R_pile (h : CFix K R Ln) : R 512 3 = some 4 := h.2.1
theorem CFix.K_pile (h : CFix K R Ln) : K 4 = 102 := h.2.2.1
theorem CFix.L_pile (h : CFix K R Ln) : Ln 4 = 8 := h.2.2.2.1
theorem CFix.R_ix (h : CFix K R Ln) : R 514 3 = some 5 := h.2.2.2.2.1
theorem CFix.K_ix (h : CFix K R Ln) : K 5 = 102 := h.2.2.2.2.2.1
theorem CFix.L_ix (h : CFix K R Ln) : Ln 5 = 3 := h.2.2.2.2.2.2.1
theorem CFix.R_tx (h : CFix K R Ln) : R 516 3 = some 6 := h.2.2.2.2.2.2.2.1
theorem CFix.K_tx (h : CFix K R Ln) : K 6 = 103 := h.2.2.2.2.2.2.2.2.1
theorem CFix.L_tx (h : CFix K R Ln) : Ln 6 = 60 := h.2.2.2.2.2.2.2.2.2.1
theorem CFix.R_st (h : CFix K R Ln) : R 518 3 = some 7 := h.2.2.2.2.2.2.2.2.2.2.1
theorem CFix.K_st (h : CFix K R Ln) : K 7 = 6 := h.2.2.2.2.2.2.2.2.2.2.2.1
theorem CFix.R_es (h : CFix K R Ln) : R 384 7 = some 8 := h.2.2.2.2.2.2.2.2.2.2.2.2.1
theorem CFix.K_es (h : CFix K R Ln) : K 8 = 105 := h.2.2.2.2.2.2.2.2.2.2.2.2.2.1
theorem CFix.L_es (h : CFix K R Ln) : Ln 8 = 500 := h.2.2.2.2.2.2.2.2.2.2.2.2.2.2.1
theorem CFix.R_al (h : CFix K R Ln) : R 387 7 = some 9 := h.2.2.2.2.2.2.2.2.2.2.2.2.2.2.2.1
theorem CFix.K_al (h : CFix K R Ln) : K 9 = 10 := h.2.2.2.2.2.2.2.2.2.2.2.2.2.2.2.2.1
theorem CFix.R_rk (h : CFix K R Ln) : R 520 3 = some 10 := h.2.2.2.2.2.2.2.2.2.2.2.2.2.2.2.2.2.1
theorem CFix.K_rk (h : CFix K R Ln) : K 10 = 100 := h.2.2.2.2.2.2.2.2.2.2.2.2.2.2.2.2.2.2.1
theorem CFix.L_rk (h : CFix K R Ln) : Ln 10 = 32 := h.2.2.2.2.2.2.2.2.2.2.2.2.2.2.2.2.2.2.2
end CFIX
section C72
variable {X : CX} {d : Nat} {K : Nat → Nat} {I : Nat → Nat → Int32} {J : Nat → Nat → Int64} {R : Nat → Nat → Option Nat} {A : Nat → Nat → Int32} {B : Nat → Nat → Option Nat} {Ln : Nat → Nat} {n sl : Nat}
set_option maxRecDepth 100000 in
set_option maxHeartbeats 4000000 in
theorem cs_isKey {k : Int32} {G : GH} : EvM X mX8_isKey d [iV k] G (fun r G' => r = some (iV (if 0 ≤ k ∧ k ≤ 31 then 1 else 0)) ∧ G' = G) := by
  show Ev X mX8_isKey d 0 [some (iV k)] [] G _
  have e32 : ∀ k : Int32, k < nI 32 ↔ k ≤ 31 := fun k => by rw [Int32.lt_iff_toInt_lt, Int32.le_iff_toInt_le, show (nI 32).toInt = 32 by decide, show (31 : Int32).toInt = 31 by decide]; omega
  refine ev_iload_n dX8_isKey_0 rfl ?_
  refine ev_if_lt 14 dX8_isKey_1 (by decide) (fun c1 => ?_) (fun c1 => ?_)
  · refine ev_iconstN 0 dX8_isKey_14 (by decide) ?_
    refine ev_zreturn dX8_isKey_15 rfl (by decide) ?_
    first | exact ⟨by rw [if_neg (fun z => absurd z.1 (Int32.not_le.mpr c1))]; rfl, rfl⟩ | exact ⟨by rw [if_pos ⟨Int32.not_lt.mp c1, (e32 k).mp (Int32.not_le.mp c7)⟩]; rfl, rfl⟩ | exact ⟨by rw [if_neg (fun z => absurd ((e32 k).mpr z.2) (Int32.not_lt.mpr c7))]; rfl, rfl⟩
  · refine ev_iload_n dX8_isKey_4 rfl ?_
    refine ev_bipushN 32 dX8_isKey_5 (by decide) ?_
    refine ev_icmp_ge  14 dX8_isKey_7 (by decide) (fun c7 => ?_) (fun c7 => ?_)
    · refine ev_iconstN 0 dX8_isKey_14 (by decide) ?_
      refine ev_zreturn dX8_isKey_15 rfl (by decide) ?_
      first | exact ⟨by rw [if_neg (fun z => absurd z.1 (Int32.not_le.mpr c1))]; rfl, rfl⟩ | exact ⟨by rw [if_pos ⟨Int32.not_lt.mp c1, (e32 k).mp (Int32.not_le.mp c7)⟩]; rfl, rfl⟩ | exact ⟨by rw [if_neg (fun z => absurd ((e32 k).mpr z.2) (Int32.not_lt.mpr c7))]; rfl, rfl⟩
    · refine ev_iconstN 1 dX8_isKey_10 (by decide) ?_
      refine ev_goto 15 dX8_isKey_11 (by decide) ?_
      refine ev_zreturn dX8_isKey_15 rfl (by decide) ?_
      first | exact ⟨by rw [if_neg (fun z => absurd z.1 (Int32.not_le.mpr c1))]; rfl, rfl⟩ | exact ⟨by rw [if_pos ⟨Int32.not_lt.mp c1, (e32 k).mp (Int32.not_le.mp c7)⟩]; rfl, rfl⟩ | exact ⟨by rw [if_neg (fun z => absurd ((e32 k).mpr z.2) (Int32.not_lt.mpr c7))]; rfl, rfl⟩
set_option maxRecDepth 100000 in
set_option maxHeartbeats 4000000 in
theorem cs_isName {x : Int32} {G : GH} : EvM X mX8_isName d [iV x] G (fun r G' => r = some (iV (nmB x)) ∧ G' = G) := by
  show Ev X mX8_isName d 0 [some (iV x), none, none, none] [] G _
  by_cases hn : x < 0
  · skip
    refine ev_iload_n dX8_isName_0 rfl ?_
    refine ev_if_lt 11 dX8_isName_1 (by decide) (fun c1 => ?_) (fun c1 => absurd hn c1)
    refine ev_iconstN 0 dX8_isName_11 (by decide) ?_
    refine ev_zreturn dX8_isName_12 rfl (by decide) ?_
    exact ⟨by rw [nmB_neg hn]; rfl, rfl⟩
  · obtain ⟨m, hm, rfl⟩ := nI_of hn
    refine ev_iload_n dX8_isName_0 rfl ?_
    refine ev_if_ltN 11 dX8_isName_1 (by decide) (by omega) ?_
    refine ev_iload_n dX8_isName_4 rfl ?_
    refine ev_sipushN 19682 dX8_isName_5 (by decide) ?_
    refine ev_icmp_leN 13 dX8_isName_8 (by decide) (by omega) (by omega) (fun c8 => ?_) (fun c8 => ?_)
    · refine ev_iload_n dX8_isName_13 rfl ?_
      refine ev_sipushN 729 dX8_isName_14 (by decide) ?_
      refine ev_idivN dX8_isName_17 (by omega) (by omega) (by omega) ?_
      refine ev_istore_nS dX8_isName_18 (by decide) rfl ?_
      refine ev_iload_n dX8_isName_19 rfl ?_
      refine ev_bipushN 27 dX8_isName_20 (by decide) ?_
      refine ev_idivN dX8_isName_22 (by omega) (by omega) (by omega) ?_
      refine ev_bipushN 27 dX8_isName_23 (by decide) ?_
      refine ev_iremN dX8_isName_25 (by omega) (by omega) (by omega) ?_
      refine ev_istore_nS dX8_isName_26 (by decide) rfl ?_
      refine ev_iload_n dX8_isName_27 rfl ?_
      refine ev_bipushN 27 dX8_isName_28 (by decide) ?_
      refine ev_iremN dX8_isName_30 (by omega) (by omega) (by omega) ?_
      refine ev_istore_nS dX8_isName_31 (by decide) rfl ?_
      refine ev_iload_n dX8_isName_32 rfl ?_
      refine ev_if_neN 40 dX8_isName_33 (by decide) (by omega) (fun c33 => ?_) (fun c33 => ?_)
      · refine ev_iload_n dX8_isName_40 rfl ?_
        refine ev_if_neN 48 dX8_isName_41 (by decide) (by omega) (fun c41 => ?_) (fun c41 => ?_)
        · refine ev_iconstN 1 dX8_isName_48 (by decide) ?_
          refine ev_goto 53 dX8_isName_49 (by decide) ?_
          refine ev_zreturn dX8_isName_53 rfl (by decide) ?_
          first | exact ⟨by rw [nmB_yes hm (by unfold isNmN; omega)]; rfl, rfl⟩ | exact ⟨by rw [nmB_no hm (by unfold isNmN; omega)]; rfl, rfl⟩
        · refine ev_iload_n dX8_isName_44 rfl ?_
          refine ev_if_neN 52 dX8_isName_45 (by decide) (by omega) (fun c45 => ?_) (fun c45 => ?_)
          · refine ev_iconstN 0 dX8_isName_52 (by decide) ?_
            refine ev_zreturn dX8_isName_53 rfl (by decide) ?_
            first | exact ⟨by rw [nmB_yes hm (by unfold isNmN; omega)]; rfl, rfl⟩ | exact ⟨by rw [nmB_no hm (by unfold isNmN; omega)]; rfl, rfl⟩
          · refine ev_iconstN 1 dX8_isName_48 (by decide) ?_
            refine ev_goto 53 dX8_isName_49 (by decide) ?_
            refine ev_zreturn dX8_isName_53 rfl (by decide) ?_
            first | exact ⟨by rw [nmB_yes hm (by unfold isNmN; omega)]; rfl, rfl⟩ | exact ⟨by rw [nmB_no hm (by unfold isNmN; omega)]; rfl, rfl⟩
      · refine ev_iload_n dX8_isName_36 rfl ?_
        refine ev_if_neN 52 dX8_isName_37 (by decide) (by omega) (fun c37 => ?_) (fun c37 => ?_)
        · refine ev_iconstN 0 dX8_isName_52 (by decide) ?_
          refine ev_zreturn dX8_isName_53 rfl (by decide) ?_
          first | exact ⟨by rw [nmB_yes hm (by unfold isNmN; omega)]; rfl, rfl⟩ | exact ⟨by rw [nmB_no hm (by unfold isNmN; omega)]; rfl, rfl⟩
        · refine ev_iload_n dX8_isName_40 rfl ?_
          refine ev_if_neN 48 dX8_isName_41 (by decide) (by omega) (fun c41 => ?_) (fun c41 => ?_)
          · refine ev_iconstN 1 dX8_isName_48 (by decide) ?_
            refine ev_goto 53 dX8_isName_49 (by decide) ?_
            refine ev_zreturn dX8_isName_53 rfl (by decide) ?_
            first | exact ⟨by rw [nmB_yes hm (by unfold isNmN; omega)]; rfl, rfl⟩ | exact ⟨by rw [nmB_no hm (by unfold isNmN; omega)]; rfl, rfl⟩
          · refine ev_iload_n dX8_isName_44 rfl ?_
            refine ev_if_neN 52 dX8_isName_45 (by decide) (by omega) (fun c45 => ?_) (fun c45 => ?_)
            · refine ev_iconstN 0 dX8_isName_52 (by decide) ?_
              refine ev_zreturn dX8_isName_53 rfl (by decide) ?_
              first | exact ⟨by rw [nmB_yes hm (by unfold isNmN; omega)]; rfl, rfl⟩ | exact ⟨by rw [nmB_no hm (by unfold isNmN; omega)]; rfl, rfl⟩
            · refine ev_iconstN 1 dX8_isName_48 (by decide) ?_
              refine ev_goto 53 dX8_isName_49 (by decide) ?_
              refine ev_zreturn dX8_isName_53 rfl (by decide) ?_
              first | exact ⟨by rw [nmB_yes hm (by unfold isNmN; omega)]; rfl, rfl⟩ | exact ⟨by rw [nmB_no hm (by unfold isNmN; omega)]; rfl, rfl⟩
    · refine ev_iconstN 0 dX8_isName_11 (by decide) ?_
      refine ev_zreturn dX8_isName_12 rfl (by decide) ?_
      first | exact ⟨by rw [nmB_yes hm (by unfold isNmN; omega)]; rfl, rfl⟩ | exact ⟨by rw [nmB_no hm (by unfold isNmN; omega)]; rfl, rfl⟩
theorem cs_partsOf {m : Nat} (hm : m ≤ 12) {G : GH} : EvM X mX8_partsOf d [iV (nI m)] G (fun r G' => r = some (iV (nI (needM m))) ∧ G' = G) := by
  show Ev X mX8_partsOf d 0 [some (iV (nI m))] [] G _
  refine ev_iload_n dX8_partsOf_0 rfl ?_
  refine ev_bipushN 11 dX8_partsOf_1 (by decide) ?_
  refine ev_icmp_neN 8 dX8_partsOf_3 (by decide) (by omega) (by omega) (fun c3 => ?_) (fun c3 => ?_)
  · refine ev_iload_n dX8_partsOf_8 rfl ?_
    refine ev_iconstN 4 dX8_partsOf_9 (by decide) ?_
    refine ev_icmp_ltN 23 dX8_partsOf_10 (by decide) (by omega) (by omega) (fun c10 => ?_) (fun c10 => ?_)
    · refine ev_iconstN 0 dX8_partsOf_23 (by decide) ?_
      refine ev_ireturn dX8_partsOf_24 rfl ?_
      exact ⟨by first | rw [show needM m = 1 by unfold needM; rw [if_neg (by omega), if_pos (by omega)]] | rw [show needM m = 0 by unfold needM; rw [if_pos (by omega)]] | rw [show needM m = 2 by unfold needM; rw [if_neg (by omega), if_neg (by omega)]], rfl⟩
    · refine ev_iload_n dX8_partsOf_13 rfl ?_
      refine ev_bipushN 10 dX8_partsOf_14 (by decide) ?_
      refine ev_icmp_gtN 23 dX8_partsOf_16 (by decide) (by omega) (by omega) (fun c16 => ?_) (fun c16 => ?_)
      · refine ev_iconstN 0 dX8_partsOf_23 (by decide) ?_
        refine ev_ireturn dX8_partsOf_24 rfl ?_
        exact ⟨by first | rw [show needM m = 1 by unfold needM; rw [if_neg (by omega), if_pos (by omega)]] | rw [show needM m = 0 by unfold needM; rw [if_pos (by omega)]] | rw [show needM m = 2 by unfold needM; rw [if_neg (by omega), if_neg (by omega)]], rfl⟩
      · refine ev_iconstN 2 dX8_partsOf_19 (by decide) ?_
        refine ev_goto 24 dX8_partsOf_20 (by decide) ?_
        refine ev_ireturn dX8_partsOf_24 rfl ?_
        exact ⟨by first | rw [show needM m = 1 by unfold needM; rw [if_neg (by omega), if_pos (by omega)]] | rw [show needM m = 0 by unfold needM; rw [if_pos (by omega)]] | rw [show needM m = 2 by unfold needM; rw [if_neg (by omega), if_neg (by omega)]], rfl⟩
  · refine ev_iconstN 1 dX8_partsOf_6 (by decide) ?_
    refine ev_ireturn dX8_partsOf_7 rfl ?_
    exact ⟨by first | rw [show needM m = 1 by unfold needM; rw [if_neg (by omega), if_pos (by omega)]] | rw [show needM m = 0 by unfold needM; rw [if_pos (by omega)]] | rw [show needM m = 2 by unfold needM; rw [if_neg (by omega), if_neg (by omega)]], rfl⟩
theorem cs_countsN {m : Nat} (hm : m ≤ 12) {G : GH} : EvM X mX8_countsN d [iV (nI m)] G (fun r G' => r = some (iV (bZ (decide (m = 3 ∨ m = 12)))) ∧ G' = G) := by
  show Ev X mX8_countsN d 0 [some (iV (nI m))] [] G _
  refine ev_iload_n dX8_countsN_0 rfl ?_
  refine ev_iconstN 3 dX8_countsN_1 (by decide) ?_
  refine ev_icmp_eqN 11 dX8_countsN_2 (by decide) (by omega) (by omega) (fun c2 => ?_) (fun c2 => ?_)
  · refine ev_iconstN 1 dX8_countsN_11 (by decide) ?_
    refine ev_goto 16 dX8_countsN_12 (by decide) ?_
    refine ev_zreturn dX8_countsN_16 rfl (by decide) ?_
    first | (rw [decide_eq_true (by omega)]; exact ⟨rfl, rfl⟩) | (rw [decide_eq_false (by omega)]; exact ⟨rfl, rfl⟩)
  · refine ev_iload_n dX8_countsN_5 rfl ?_
    refine ev_bipushN 12 dX8_countsN_6 (by decide) ?_
    refine ev_icmp_neN 15 dX8_countsN_8 (by decide) (by omega) (by omega) (fun c8 => ?_) (fun c8 => ?_)
    · refine ev_iconstN 0 dX8_countsN_15 (by decide) ?_
      refine ev_zreturn dX8_countsN_16 rfl (by decide) ?_
      first | (rw [decide_eq_true (by omega)]; exact ⟨rfl, rfl⟩) | (rw [decide_eq_false (by omega)]; exact ⟨rfl, rfl⟩)
    · refine ev_iconstN 1 dX8_countsN_11 (by decide) ?_
      refine ev_goto 16 dX8_countsN_12 (by decide) ?_
      refine ev_zreturn dX8_countsN_16 rfl (by decide) ?_
      first | (rw [decide_eq_true (by omega)]; exact ⟨rfl, rfl⟩) | (rw [decide_eq_false (by omega)]; exact ⟨rfl, rfl⟩)
theorem cs_takesBools {m : Nat} (hm : m ≤ 12) {G : GH} : EvM X mX8_takesBools d [iV (nI m)] G (fun r G' => r = some (iV (bZ (decide (9 ≤ m ∧ m ≤ 11)))) ∧ G' = G) := by
  show Ev X mX8_takesBools d 0 [some (iV (nI m))] [] G _
  refine ev_iload_n dX8_takesBools_0 rfl ?_
  refine ev_bipushN 9 dX8_takesBools_1 (by decide) ?_
  refine ev_icmp_eqN 18 dX8_takesBools_3 (by decide) (by omega) (by omega) (fun c3 => ?_) (fun c3 => ?_)
  · refine ev_iconstN 1 dX8_takesBools_18 (by decide) ?_
    refine ev_goto 23 dX8_takesBools_19 (by decide) ?_
    refine ev_zreturn dX8_takesBools_23 rfl (by decide) ?_
    first | (rw [decide_eq_true (by omega)]; exact ⟨rfl, rfl⟩) | (rw [decide_eq_false (by omega)]; exact ⟨rfl, rfl⟩)
  · refine ev_iload_n dX8_takesBools_6 rfl ?_
    refine ev_bipushN 10 dX8_takesBools_7 (by decide) ?_
    refine ev_icmp_eqN 18 dX8_takesBools_9 (by decide) (by omega) (by omega) (fun c9 => ?_) (fun c9 => ?_)
    · refine ev_iconstN 1 dX8_takesBools_18 (by decide) ?_
      refine ev_goto 23 dX8_takesBools_19 (by decide) ?_
      refine ev_zreturn dX8_takesBools_23 rfl (by decide) ?_
      first | (rw [decide_eq_true (by omega)]; exact ⟨rfl, rfl⟩) | (rw [decide_eq_false (by omega)]; exact ⟨rfl, rfl⟩)
    · refine ev_iload_n dX8_takesBools_12 rfl ?_
      refine ev_bipushN 11 dX8_takesBools_13 (by decide) ?_
      refine ev_icmp_neN 22 dX8_takesBools_15 (by decide) (by omega) (by omega) (fun c15 => ?_) (fun c15 => ?_)
      · refine ev_iconstN 0 dX8_takesBools_22 (by decide) ?_
        refine ev_zreturn dX8_takesBools_23 rfl (by decide) ?_
        first | (rw [decide_eq_true (by omega)]; exact ⟨rfl, rfl⟩) | (rw [decide_eq_false (by omega)]; exact ⟨rfl, rfl⟩)
      · refine ev_iconstN 1 dX8_takesBools_18 (by decide) ?_
        refine ev_goto 23 dX8_takesBools_19 (by decide) ?_
        refine ev_zreturn dX8_takesBools_23 rfl (by decide) ?_
        first | (rw [decide_eq_true (by omega)]; exact ⟨rfl, rfl⟩) | (rw [decide_eq_false (by omega)]; exact ⟨rfl, rfl⟩)
theorem cs_fits0 {m : Nat} {G : GH} : EvM X mX8_fits (d + 1) [iV (nI m), rV none] G (fun r G' => r = some (iV 1) ∧ G' = G) := by
  show Ev X mX8_fits (d + 1) 0 [some (iV (nI m)), some (rV none)] [] G _
  refine ev_aload_n dX8_fits_0 rfl ?_
  refine ev_ifnull 15 dX8_fits_1 (by decide) (fun c1 => ?_) (fun x c1 => by cases c1)
  refine ev_iconstN 1 dX8_fits_15 (by decide) ?_
  refine ev_goto 20 dX8_fits_16 (by decide) ?_
  refine ev_zreturn dX8_fits_20 rfl (by decide) ?_
  exact ⟨rfl, rfl⟩
theorem cs_fits1 {m i o : Nat} (hm : m ≤ 12) (hk : K i = 1) (ho : I 64 i = nI o) (hb : o ≤ 12) : EvM X mX8_fits (d + 1) [iV (nI m), rV (some i)] (K, I, J, R, A, B, Ln, n, sl) (fun r G' => r = some (iV (bZ (decide (7 ≤ o) == decide (9 ≤ m ∧ m ≤ 11)))) ∧ G' = (K, I, J, R, A, B, Ln, n, sl)) := by
  show Ev X mX8_fits (d + 1) 0 [some (iV (nI m)), some (rV (some i))] [] (K, I, J, R, A, B, Ln, n, sl) _
  refine ev_aload_n dX8_fits_0 rfl ?_
  refine ev_ifnull 15 dX8_fits_1 (by decide) (fun c1 => by cases c1) (fun x c1 => ?_)
  refine ev_aload_n dX8_fits_4 rfl ?_
  refine ev_callV dX8_fits_5 okX1_isBool inX1_isBool seX1_isBool mlX8_68 hk (by decide) rfl [] rfl rfl (Nat.le_of_ble_eq_true rfl) (Nat.le_of_ble_eq_true rfl) (cs_isBool hk ho hb) (fun r_ G_ h_ => ?_)
  obtain ⟨rfl, rfl⟩ := h_
  try dsimp only [Option.toList, List.cons_append, List.nil_append]
  refine ev_iload_n dX8_fits_8 rfl ?_
  refine ev_callS dX8_fits_9 okX8_takesBools stX8_takesBools mlX8_214 [iV _] rfl rfl (Nat.le_of_ble_eq_true rfl) (Nat.le_of_ble_eq_true rfl) (cs_takesBools hm) (fun r_ G_ h_ => ?_)
  obtain ⟨rfl, rfl⟩ := h_
  try dsimp only [Option.toList, List.cons_append, List.nil_append]
  refine ev_icmp_ne 19 dX8_fits_12 (by decide) (fun c12 => ?_) (fun c12 => ?_)
  · refine ev_iconstN 0 dX8_fits_19 (by decide) ?_
    refine ev_zreturn dX8_fits_20 rfl (by decide) ?_
    first | (rw [bZ_eq] at c12; rw [c12]; exact ⟨by cases decide (9 ≤ m ∧ m ≤ 11) <;> rfl, rfl⟩) | (rw [bZ_eq] at c12; exact ⟨by revert c12; cases decide (7 ≤ o) <;> cases decide (9 ≤ m ∧ m ≤ 11) <;> simp [bZ, nI_0], rfl⟩)
  · refine ev_iconstN 1 dX8_fits_15 (by decide) ?_
    refine ev_goto 20 dX8_fits_16 (by decide) ?_
    refine ev_zreturn dX8_fits_20 rfl (by decide) ?_
    first | (rw [bZ_eq] at c12; rw [c12]; exact ⟨by cases decide (9 ≤ m ∧ m ≤ 11) <;> rfl, rfl⟩) | (rw [bZ_eq] at c12; exact ⟨by revert c12; cases decide (7 ≤ o) <;> cases decide (9 ≤ m ∧ m ≤ 11) <;> simp [bZ, nI_0], rfl⟩)
theorem cs_top0 (hC : CFix K R Ln) (hp : I 513 3 = nI 0) : EvM X mX8_topOfPile d [rV (some 3)] (K, I, J, R, A, B, Ln, n, sl) (fun r G' => r = some (rV none) ∧ G' = (K, I, J, R, A, B, Ln, n, sl)) := by
  show Ev X mX8_topOfPile d 0 [some (rV (some 3))] [] (K, I, J, R, A, B, Ln, n, sl) _
  refine ev_aload_n dX8_topOfPile_0 rfl ?_
  refine ev_getIv dX8_topOfPile_1 fX8_47 hC.m hp ?_
  refine ev_if_leN 21 dX8_topOfPile_4 (by decide) (by omega) (fun c4 => ?_) (fun c4 => absurd c4 (by decide))
  refine ev_null dX8_topOfPile_21 ?_
  refine ev_areturn dX8_topOfPile_22 rfl ?_
  exact ⟨rfl, rfl⟩
theorem cs_top1 (hC : CFix K R Ln) {p i : Nat} (hp : I 513 3 = nI (p + 1)) (hp8 : p < 8) (hb : B 4 p = some i) : EvM X mX8_topOfPile d [rV (some 3)] (K, I, J, R, A, B, Ln, n, sl) (fun r G' => r = some (rV (some i)) ∧ G' = (K, I, J, R, A, B, Ln, n, sl)) := by
  show Ev X mX8_topOfPile d 0 [some (rV (some 3))] [] (K, I, J, R, A, B, Ln, n, sl) _
  refine ev_aload_n dX8_topOfPile_0 rfl ?_
  refine ev_getIv dX8_topOfPile_1 fX8_47 hC.m hp ?_
  refine ev_if_leN 21 dX8_topOfPile_4 (by decide) (by omega) (fun c4 => absurd c4 (by omega)) (fun c4 => ?_)
  refine ev_aload_n dX8_topOfPile_7 rfl ?_
  refine ev_getR dX8_topOfPile_8 fX8_11 hC.m hC.R_pile ?_
  refine ev_aload_n dX8_topOfPile_11 rfl ?_
  refine ev_getIv dX8_topOfPile_12 fX8_47 hC.m hp ?_
  refine ev_iconstN 1 dX8_topOfPile_15 (by decide) ?_
  refine ev_isubN dX8_topOfPile_16 (by omega) ?_
  refine ev_aald (q := 2) dX8_topOfPile_17 hC.K_pile (by decide) (by decide) hC.L_pile (by decide) (by omega) hb ?_
  refine ev_goto 22 dX8_topOfPile_18 (by decide) ?_
  refine ev_areturn dX8_topOfPile_22 rfl ?_
  exact ⟨rfl, rfl⟩
theorem cs_txOf_no (hC : CFix K R Ln) {tn : Nat} (ht : I 517 3 = nI tn) (hb : tn ≤ 60) {t : Int32} (hno : ∀ j, j < tn → ¬ t = nI j) : EvM X mX8_transactionOf d [rV (some 3), iV t] (K, I, J, R, A, B, Ln, n, sl) (fun r G' => r = some (rV none) ∧ G' = (K, I, J, R, A, B, Ln, n, sl)) := by
  show Ev X mX8_transactionOf d 0 [some (rV (some 3)), some (iV t)] [] (K, I, J, R, A, B, Ln, n, sl) _
  refine ev_iload_n dX8_transactionOf_0 rfl ?_
  refine ev_if_lt 21 dX8_transactionOf_1 (by decide) (fun c1 => ?_) (fun c1 => ?_)
  · refine ev_null dX8_transactionOf_21 ?_
    refine ev_areturn dX8_transactionOf_22 rfl ?_
    exact ⟨rfl, rfl⟩
  · refine ev_iload_n dX8_transactionOf_4 rfl ?_
    refine ev_aload_n dX8_transactionOf_5 rfl ?_
    refine ev_getIv dX8_transactionOf_6 fX8_78 hC.m ht ?_
    refine ev_icmp_ge 21 dX8_transactionOf_9 (by decide) (fun c9 => ?_) (fun c9 => ?_)
    · refine ev_null dX8_transactionOf_21 ?_
      refine ev_areturn dX8_transactionOf_22 rfl ?_
      exact ⟨rfl, rfl⟩
    · exfalso
      rcases pk_ix t (n := tn) (by omega) with h | h | ⟨j, hj, rfl⟩
      · exact c1 h
      · exact absurd h (fun z => c9 z)
      · exact hno j hj rfl
theorem cs_txOf (hC : CFix K R Ln) {tn j i : Nat} (ht : I 517 3 = nI tn) (hb : tn ≤ 60) (hj : j < tn) (hi : B 6 j = some i) : EvM X mX8_transactionOf d [rV (some 3), iV (nI j)] (K, I, J, R, A, B, Ln, n, sl) (fun r G' => r = some (rV (some i)) ∧ G' = (K, I, J, R, A, B, Ln, n, sl)) := by
  show Ev X mX8_transactionOf d 0 [some (rV (some 3)), some (iV (nI j))] [] (K, I, J, R, A, B, Ln, n, sl) _
  refine ev_iload_n dX8_transactionOf_0 rfl ?_
  refine ev_if_ltN 21 dX8_transactionOf_1 (by decide) (by omega) ?_
  refine ev_iload_n dX8_transactionOf_4 rfl ?_
  refine ev_aload_n dX8_transactionOf_5 rfl ?_
  refine ev_getIv dX8_transactionOf_6 fX8_78 hC.m ht ?_
  refine ev_icmp_geN 21 dX8_transactionOf_9 (by decide) (by omega) (by omega) (fun c9 => absurd c9 (by omega)) (fun c9 => ?_)
  refine ev_aload_n dX8_transactionOf_12 rfl ?_
  refine ev_getR dX8_transactionOf_13 fX8_20 hC.m hC.R_tx ?_
  refine ev_iload_n dX8_transactionOf_16 rfl ?_
  refine ev_aald (q := 3) dX8_transactionOf_17 hC.K_tx (by decide) (by decide) hC.L_tx (by decide) (by omega) hi ?_
  refine ev_goto 22 dX8_transactionOf_18 (by decide) ?_
  refine ev_areturn dX8_transactionOf_22 rfl ?_
  exact ⟨rfl, rfl⟩
theorem cs_openOne (hC : CFix K R Ln) {tn j i : Nat} (ht : I 517 3 = nI tn) (hb : tn ≤ 60) (hj : j < tn) (hi : B 6 j = some i) (hk : K i = 7) (hs : I 449 i = 1) : EvM X mX8_openOne (d + 1) [rV (some 3), iV (nI j)] (K, I, J, R, A, B, Ln, n, sl) (fun r G' => r = some (rV (some i)) ∧ G' = (K, I, J, R, A, B, Ln, n, sl)) := by
  have so := cs_isOpen (X := X) (d := d) (I := I) (J := J) (R := R) (A := A) (B := B) (Ln := Ln) (n := n) (sl := sl) hk
  rw [decide_eq_true hs] at so
  show Ev X mX8_openOne (d + 1) 0 [some (rV (some 3)), some (iV (nI j)), none] [] (K, I, J, R, A, B, Ln, n, sl) _
  refine ev_aload_n dX8_openOne_0 rfl ?_
  refine ev_iload_n dX8_openOne_1 rfl ?_
  refine ev_callV dX8_openOne_2 okX8_transactionOf inX8_transactionOf seX8_transactionOf mlX8_196 hC.m (by decide) rfl [iV _] rfl rfl (Nat.le_of_ble_eq_true rfl) (Nat.le_of_ble_eq_true rfl) (cs_txOf hC ht hb hj hi) (fun r_ G_ h_ => ?_)
  obtain ⟨rfl, rfl⟩ := h_
  try dsimp only [Option.toList, List.cons_append, List.nil_append]
  refine ev_astore_nS dX8_openOne_5 (by decide) rfl ?_
  refine ev_aload_n dX8_openOne_6 rfl ?_
  refine ev_ifnull 21 dX8_openOne_7 (by decide) (fun c7 => by cases c7) (fun x c7 => ?_)
  refine ev_aload_n dX8_openOne_10 rfl ?_
  refine ev_callV dX8_openOne_11 okX7_isOpen inX7_isOpen seX7_isOpen mlX8_217 hk (by decide) rfl [] rfl rfl (Nat.le_of_ble_eq_true rfl) (Nat.le_of_ble_eq_true rfl) (so) (fun r_ G_ h_ => ?_)
  obtain ⟨rfl, rfl⟩ := h_
  try dsimp only [Option.toList, List.cons_append, List.nil_append]
  refine ev_if_eq 21 dX8_openOne_14 (by decide) (fun c14 => absurd c14 (by decide)) (fun c14 => ?_)
  refine ev_aload_n dX8_openOne_17 rfl ?_
  refine ev_goto 22 dX8_openOne_18 (by decide) ?_
  refine ev_areturn dX8_openOne_22 rfl ?_
  exact ⟨rfl, rfl⟩
theorem cs_openOne_no (hC : CFix K R Ln) {tn : Nat} {ti : Nat → Nat} (ht : I 517 3 = nI tn) (hb : tn ≤ 60) (hti : ∀ j, j < tn → B 6 j = some (ti j) ∧ K (ti j) = 7) {t : Int32} (hno : ∀ j, j < tn → t = nI j → ¬ I 449 (ti j) = 1) : EvM X mX8_openOne (d + 1) [rV (some 3), iV t] (K, I, J, R, A, B, Ln, n, sl) (fun r G' => r = some (rV none) ∧ G' = (K, I, J, R, A, B, Ln, n, sl)) := by
  show Ev X mX8_openOne (d + 1) 0 [some (rV (some 3)), some (iV t), none] [] (K, I, J, R, A, B, Ln, n, sl) _
  by_cases hex : ∃ j, j < tn ∧ t = nI j
  · obtain ⟨j, hj, rfl⟩ := hex
    obtain ⟨hi, hk⟩ := hti j hj
    have so := cs_isOpen (X := X) (d := d) (I := I) (J := J) (R := R) (A := A) (B := B) (Ln := Ln) (n := n) (sl := sl) hk
    rw [decide_eq_false (hno j hj rfl)] at so
    refine ev_aload_n dX8_openOne_0 rfl ?_
    refine ev_iload_n dX8_openOne_1 rfl ?_
    refine ev_callV dX8_openOne_2 okX8_transactionOf inX8_transactionOf seX8_transactionOf mlX8_196 hC.m (by decide) rfl [iV _] rfl rfl (Nat.le_of_ble_eq_true rfl) (Nat.le_of_ble_eq_true rfl) (cs_txOf hC ht hb hj hi) (fun r_ G_ h_ => ?_)
    obtain ⟨rfl, rfl⟩ := h_
    try dsimp only [Option.toList, List.cons_append, List.nil_append]
    refine ev_astore_nS dX8_openOne_5 (by decide) rfl ?_
    refine ev_aload_n dX8_openOne_6 rfl ?_
    refine ev_ifnull 21 dX8_openOne_7 (by decide) (fun c7 => by cases c7) (fun x c7 => ?_)
    refine ev_aload_n dX8_openOne_10 rfl ?_
    refine ev_callV dX8_openOne_11 okX7_isOpen inX7_isOpen seX7_isOpen mlX8_217 hk (by decide) rfl [] rfl rfl (Nat.le_of_ble_eq_true rfl) (Nat.le_of_ble_eq_true rfl) (so) (fun r_ G_ h_ => ?_)
    obtain ⟨rfl, rfl⟩ := h_
    try dsimp only [Option.toList, List.cons_append, List.nil_append]
    refine ev_if_eq 21 dX8_openOne_14 (by decide) (fun c14 => ?_) (fun c14 => absurd c14 (fun z => z rfl))
    refine ev_null dX8_openOne_21 ?_
    refine ev_areturn dX8_openOne_22 rfl ?_
    exact ⟨rfl, rfl⟩
  · have hn : ∀ j, j < tn → ¬ t = nI j := fun j hj z => hex ⟨j, hj, z⟩
    refine ev_aload_n dX8_openOne_0 rfl ?_
    refine ev_iload_n dX8_openOne_1 rfl ?_
    refine ev_callV dX8_openOne_2 okX8_transactionOf inX8_transactionOf seX8_transactionOf mlX8_196 hC.m (by decide) rfl [iV _] rfl rfl (Nat.le_of_ble_eq_true rfl) (Nat.le_of_ble_eq_true rfl) (cs_txOf_no hC ht hb hn) (fun r_ G_ h_ => ?_)
    obtain ⟨rfl, rfl⟩ := h_
    try dsimp only [Option.toList, List.cons_append, List.nil_append]
    refine ev_astore_nS dX8_openOne_5 (by decide) rfl ?_
    refine ev_aload_n dX8_openOne_6 rfl ?_
    refine ev_ifnull 21 dX8_openOne_7 (by decide) (fun c7 => ?_) (fun x c7 => by cases c7)
    refine ev_null dX8_openOne_21 ?_
    refine ev_areturn dX8_openOne_22 rfl ?_
    exact ⟨rfl, rfl⟩
set_option maxRecDepth 100000 in
set_option maxHeartbeats 4000000 in
theorem lp_countOpen {Q : Option LV → GH → Prop} (hC : CFix K R Ln) {tn : Nat} {ti : Nat → Nat} (ht : I 517 3 = nI tn) (hb : tn ≤ 60) (hti : ∀ j, j < tn → B 6 j = some (ti j) ∧ K (ti j) = 7) (hq : Q (some (iV (nI (cnt (fun j => decide (I 449 (ti j) = 1)) tn)))) (K, I, J, R, A, B, Ln, n, sl)) : ∀ (g e : Nat), e + g = tn → Ev X mX8_countOpen (d + 1) 4 [some (rV (some 3)), some (iV (nI (cnt (fun j => decide (I 449 (ti j) = 1)) e))), some (iV (nI (e)))] [] (K, I, J, R, A, B, Ln, n, sl) Q := by
  intro g
  induction g with
  | zero =>
    intro e he
    have e2 : e = tn := by omega
    subst e2
    refine ev_iload_n dX8_countOpen_4 rfl ?_
    refine ev_aload_n dX8_countOpen_5 rfl ?_
    refine ev_getIv dX8_countOpen_6 fX8_78 hC.m ht ?_
    refine ev_icmp_geN 33 dX8_countOpen_9 (by decide) (by omega) (by omega) (fun c9 => ?_) (fun c9 => absurd c9 (by omega))
    refine ev_iload_n dX8_countOpen_33 rfl ?_
    refine ev_ireturn dX8_countOpen_34 rfl ?_
    exact hq
  | succ g ih =>
    intro e he
    obtain ⟨hi, hk⟩ := hti e (by omega)
    have hgo := ih (e + 1) (by omega)
    rw [cnt.eq_2] at hgo
    have so := cs_isOpen (X := X) (d := d) (I := I) (J := J) (R := R) (A := A) (B := B) (Ln := Ln) (n := n) (sl := sl) hk
    by_cases ho : I 449 (ti e) = 1
    · rw [decide_eq_true ho] at so hgo
      refine ev_iload_n dX8_countOpen_4 rfl ?_
      refine ev_aload_n dX8_countOpen_5 rfl ?_
      refine ev_getIv dX8_countOpen_6 fX8_78 hC.m ht ?_
      refine ev_icmp_geN 33 dX8_countOpen_9 (by decide) (by omega) (by omega) (fun c9 => absurd c9 (by omega)) (fun c9 => ?_)
      refine ev_aload_n dX8_countOpen_12 rfl ?_
      refine ev_getR dX8_countOpen_13 fX8_20 hC.m hC.R_tx ?_
      refine ev_iload_n dX8_countOpen_16 rfl ?_
      refine ev_aald (q := 3) dX8_countOpen_17 hC.K_tx (by decide) (by decide) hC.L_tx (by decide) (by omega) hi ?_
      refine ev_callV dX8_countOpen_18 okX7_isOpen inX7_isOpen seX7_isOpen mlX8_217 hk (by decide) rfl [] rfl rfl (Nat.le_of_ble_eq_true rfl) (Nat.le_of_ble_eq_true rfl) (so) (fun r_ G_ h_ => ?_)
      obtain ⟨rfl, rfl⟩ := h_
      try dsimp only [Option.toList, List.cons_append, List.nil_append]
      refine ev_if_eq 27 dX8_countOpen_21 (by decide) (fun c21 => absurd c21 (by decide)) (fun c21 => ?_)
      refine ev_iincNS (b := 1) dX8_countOpen_24 rfl (by decide) (by decide) rfl ?_
      refine ev_iincNS (b := 1) dX8_countOpen_27 rfl (by decide) (by decide) rfl ?_
      refine ev_goto 4 dX8_countOpen_30 (by decide) ?_
      exact hgo
    · rw [decide_eq_false ho] at so hgo
      refine ev_iload_n dX8_countOpen_4 rfl ?_
      refine ev_aload_n dX8_countOpen_5 rfl ?_
      refine ev_getIv dX8_countOpen_6 fX8_78 hC.m ht ?_
      refine ev_icmp_geN 33 dX8_countOpen_9 (by decide) (by omega) (by omega) (fun c9 => absurd c9 (by omega)) (fun c9 => ?_)
      refine ev_aload_n dX8_countOpen_12 rfl ?_
      refine ev_getR dX8_countOpen_13 fX8_20 hC.m hC.R_tx ?_
      refine ev_iload_n dX8_countOpen_16 rfl ?_
      refine ev_aald (q := 3) dX8_countOpen_17 hC.K_tx (by decide) (by decide) hC.L_tx (by decide) (by omega) hi ?_
      refine ev_callV dX8_countOpen_18 okX7_isOpen inX7_isOpen seX7_isOpen mlX8_217 hk (by decide) rfl [] rfl rfl (Nat.le_of_ble_eq_true rfl) (Nat.le_of_ble_eq_true rfl) (so) (fun r_ G_ h_ => ?_)
      obtain ⟨rfl, rfl⟩ := h_
      try dsimp only [Option.toList, List.cons_append, List.nil_append]
      refine ev_if_eq 27 dX8_countOpen_21 (by decide) (fun c21 => ?_) (fun c21 => absurd c21 (fun z => z rfl))
      refine ev_iincNS (b := 1) dX8_countOpen_27 rfl (by decide) (by decide) rfl ?_
      refine ev_goto 4 dX8_countOpen_30 (by decide) ?_
      exact hgo
theorem cs_countOpen (hC : CFix K R Ln) {tn : Nat} {ti : Nat → Nat} (ht : I 517 3 = nI tn) (hb : tn ≤ 60) (hti : ∀ j, j < tn → B 6 j = some (ti j) ∧ K (ti j) = 7) : EvM X mX8_countOpen (d + 1) [rV (some 3)] (K, I, J, R, A, B, Ln, n, sl) (fun r G' => r = some (iV (nI (cnt (fun j => decide (I 449 (ti j) = 1)) tn))) ∧ G' = (K, I, J, R, A, B, Ln, n, sl)) := by
  show Ev X mX8_countOpen (d + 1) 0 [some (rV (some 3)), none, none] [] (K, I, J, R, A, B, Ln, n, sl) _
  refine ev_iconstN 0 dX8_countOpen_0 (by decide) ?_
  refine ev_istore_nS dX8_countOpen_1 (by decide) rfl ?_
  refine ev_iconstN 0 dX8_countOpen_2 (by decide) ?_
  refine ev_istore_nS dX8_countOpen_3 (by decide) rfl ?_
  exact lp_countOpen hC ht hb hti ⟨rfl, rfl⟩ tn 0 (by omega)
/-- the states when the first e open ones are lost -/
def loI (I : Nat → Nat → Int32) (ti : Nat → Nat) (e : Nat) : Nat → Nat → Int32 := fun f i => if f = 449 ∧ I 449 i = 1 ∧ anyN (fun j => decide (ti j = i)) e = true then 5 else I f i
theorem anyN_iff {p : Nat → Bool} : ∀ {e : Nat}, anyN p e = true ↔ ∃ j, j < e ∧ p j = true
  | 0 => by simp [anyN]
  | e + 1 => by
    unfold anyN
    rw [Bool.or_eq_true, anyN_iff]
    constructor
    · rintro (⟨j, hj, h⟩ | h)
      · exact ⟨j, by omega, h⟩
      · exact ⟨e, by omega, h⟩
    · rintro ⟨j, hj, h⟩
      by_cases z : j = e
      · subst z; exact Or.inr h
      · exact Or.inl ⟨j, by omega, h⟩
theorem loI_0 {I : Nat → Nat → Int32} {ti : Nat → Nat} : loI I ti 0 = I := by
  funext f i
  unfold loI
  rw [if_neg (by rintro ⟨-, -, z⟩; cases z)]
theorem loI_ne {I : Nat → Nat → Int32} {ti : Nat → Nat} {e f i : Nat} (h : f ≠ 449) : loI I ti e f i = I f i := if_neg (fun z => h z.1)
theorem loI_at {I : Nat → Nat → Int32} {ti : Nat → Nat} {e : Nat} (h : ∀ j, j < e → ti j ≠ ti e) : loI I ti e 449 (ti e) = I 449 (ti e) := by
  unfold loI
  rw [if_neg]
  rintro ⟨-, -, z⟩
  obtain ⟨j, hj, hz⟩ := anyN_iff.mp z
  exact h j hj (of_decide_eq_true hz)
theorem loI_yes {I : Nat → Nat → Int32} {ti : Nat → Nat} {e : Nat} (h : I 449 (ti e) = 1) : u2 (loI I ti e) 449 (ti e) 5 = loI I ti (e + 1) := by
  funext f i
  unfold u2 loI
  by_cases h1 : f = 449 ∧ i = ti e
  · obtain ⟨rfl, rfl⟩ := h1
    rw [if_pos ⟨rfl, rfl⟩, if_pos ⟨rfl, h, anyN_iff.mpr ⟨e, by omega, decide_eq_true rfl⟩⟩]
  · rw [if_neg h1]
    by_cases h2 : f = 449 ∧ I 449 i = 1 ∧ anyN (fun j => decide (ti j = i)) e = true
    · obtain ⟨j, hj, hz⟩ := anyN_iff.mp h2.2.2
      rw [if_pos h2, if_pos ⟨h2.1, h2.2.1, anyN_iff.mpr ⟨j, by omega, hz⟩⟩]
    · rw [if_neg h2, if_neg]
      rintro ⟨a, b, z⟩
      obtain ⟨j, hj, hz⟩ := anyN_iff.mp z
      by_cases hje : j = e
      · subst hje; exact h1 ⟨a, (of_decide_eq_true hz).symm⟩
      · exact h2 ⟨a, b, anyN_iff.mpr ⟨j, by omega, hz⟩⟩
theorem loI_no {I : Nat → Nat → Int32} {ti : Nat → Nat} {e : Nat} (h : ¬ I 449 (ti e) = 1) : loI I ti e = loI I ti (e + 1) := by
  funext f i
  unfold loI
  by_cases h2 : f = 449 ∧ I 449 i = 1 ∧ anyN (fun j => decide (ti j = i)) e = true
  · obtain ⟨j, hj, hz⟩ := anyN_iff.mp h2.2.2
    rw [if_pos h2, if_pos ⟨h2.1, h2.2.1, anyN_iff.mpr ⟨j, by omega, hz⟩⟩]
  · rw [if_neg h2, if_neg]
    rintro ⟨a, b, z⟩
    obtain ⟨j, hj, hz⟩ := anyN_iff.mp z
    by_cases hje : j = e
    · subst hje; exact h (by rw [of_decide_eq_true hz]; exact b)
    · exact h2 ⟨a, b, anyN_iff.mpr ⟨j, by omega, hz⟩⟩
set_option maxRecDepth 100000 in
set_option maxHeartbeats 4000000 in
theorem lp_lose {Q : Option LV → GH → Prop} (hC : CFix K R Ln) {tn : Nat} {ti : Nat → Nat} (ht : I 517 3 = nI tn) (hb : tn ≤ 60) (hti : ∀ j, j < tn → B 6 j = some (ti j) ∧ K (ti j) = 7) (hinj : ∀ a b, a < tn → b < tn → ti a = ti b → a = b) (hq : Q (some (iV (nI (cnt (fun j => decide (I 449 (ti j) = 1)) tn)))) (K, loI I ti tn, J, R, A, B, Ln, n, sl)) : ∀ (g e : Nat), e + g = tn → Ev X mX8_loseOpenOnes (d + 1) 4 [some (rV (some 3)), some (iV (nI (cnt (fun j => decide (I 449 (ti j) = 1)) e))), some (iV (nI (e)))] [] (K, loI I ti e, J, R, A, B, Ln, n, sl) Q := by
  intro g
  induction g with
  | zero =>
    intro e he
    have e2 : e = tn := by omega
    subst e2
    refine ev_iload_n dX8_loseOpenOnes_4 rfl ?_
    refine ev_aload_n dX8_loseOpenOnes_5 rfl ?_
    refine ev_getIv dX8_loseOpenOnes_6 fX8_78 hC.m ((loI_ne (by decide)).trans ht) ?_
    refine ev_icmp_geN 43 dX8_loseOpenOnes_9 (by decide) (by omega) (by omega) (fun c9 => ?_) (fun c9 => absurd c9 (by omega))
    refine ev_iload_n dX8_loseOpenOnes_43 rfl ?_
    refine ev_ireturn dX8_loseOpenOnes_44 rfl ?_
    exact hq
  | succ g ih =>
    intro e he
    obtain ⟨hi, hk⟩ := hti e (by omega)
    have hgo := ih (e + 1) (by omega)
    rw [cnt.eq_2] at hgo
    have so := cs_isOpen (X := X) (d := d) (I := loI I ti e) (J := J) (R := R) (A := A) (B := B) (Ln := Ln) (n := n) (sl := sl) hk
    rw [loI_at (fun j hj z => by have := hinj j e (by omega) (by omega) z; omega)] at so
    by_cases ho : I 449 (ti e) = 1
    · rw [decide_eq_true ho] at so hgo
      rw [← loI_yes ho] at hgo
      refine ev_iload_n dX8_loseOpenOnes_4 rfl ?_
      refine ev_aload_n dX8_loseOpenOnes_5 rfl ?_
      refine ev_getIv dX8_loseOpenOnes_6 fX8_78 hC.m ((loI_ne (by decide)).trans ht) ?_
      refine ev_icmp_geN 43 dX8_loseOpenOnes_9 (by decide) (by omega) (by omega) (fun c9 => absurd c9 (by omega)) (fun c9 => ?_)
      refine ev_aload_n dX8_loseOpenOnes_12 rfl ?_
      refine ev_getR dX8_loseOpenOnes_13 fX8_20 hC.m hC.R_tx ?_
      refine ev_iload_n dX8_loseOpenOnes_16 rfl ?_
      refine ev_aald (q := 3) dX8_loseOpenOnes_17 hC.K_tx (by decide) (by decide) hC.L_tx (by decide) (by omega) hi ?_
      refine ev_callV dX8_loseOpenOnes_18 okX7_isOpen inX7_isOpen seX7_isOpen mlX8_217 hk (by decide) rfl [] rfl rfl (Nat.le_of_ble_eq_true rfl) (Nat.le_of_ble_eq_true rfl) (so) (fun r_ G_ h_ => ?_)
      obtain ⟨rfl, rfl⟩ := h_
      try dsimp only [Option.toList, List.cons_append, List.nil_append]
      refine ev_if_eq 37 dX8_loseOpenOnes_21 (by decide) (fun c21 => absurd c21 (by decide)) (fun c21 => ?_)
      refine ev_aload_n dX8_loseOpenOnes_24 rfl ?_
      refine ev_getR dX8_loseOpenOnes_25 fX8_20 hC.m hC.R_tx ?_
      refine ev_iload_n dX8_loseOpenOnes_28 rfl ?_
      refine ev_aald (q := 3) dX8_loseOpenOnes_29 hC.K_tx (by decide) (by decide) hC.L_tx (by decide) (by omega) hi ?_
      refine ev_iconstN 5 dX8_loseOpenOnes_30 (by decide) ?_
      refine ev_putI dX8_loseOpenOnes_31 fX8_138 (Or.inl rfl) (Or.inl rfl) hk ?_
      refine ev_iincNS (b := 1) dX8_loseOpenOnes_34 rfl (by decide) (by decide) rfl ?_
      refine ev_iincNS (b := 1) dX8_loseOpenOnes_37 rfl (by decide) (by decide) rfl ?_
      refine ev_goto 4 dX8_loseOpenOnes_40 (by decide) ?_
      exact hgo
    · rw [decide_eq_false ho] at so hgo
      rw [← loI_no ho] at hgo
      refine ev_iload_n dX8_loseOpenOnes_4 rfl ?_
      refine ev_aload_n dX8_loseOpenOnes_5 rfl ?_
      refine ev_getIv dX8_loseOpenOnes_6 fX8_78 hC.m ((loI_ne (by decide)).trans ht) ?_
      refine ev_icmp_geN 43 dX8_loseOpenOnes_9 (by decide) (by omega) (by omega) (fun c9 => absurd c9 (by omega)) (fun c9 => ?_)
      refine ev_aload_n dX8_loseOpenOnes_12 rfl ?_
      refine ev_getR dX8_loseOpenOnes_13 fX8_20 hC.m hC.R_tx ?_
      refine ev_iload_n dX8_loseOpenOnes_16 rfl ?_
      refine ev_aald (q := 3) dX8_loseOpenOnes_17 hC.K_tx (by decide) (by decide) hC.L_tx (by decide) (by omega) hi ?_
      refine ev_callV dX8_loseOpenOnes_18 okX7_isOpen inX7_isOpen seX7_isOpen mlX8_217 hk (by decide) rfl [] rfl rfl (Nat.le_of_ble_eq_true rfl) (Nat.le_of_ble_eq_true rfl) (so) (fun r_ G_ h_ => ?_)
      obtain ⟨rfl, rfl⟩ := h_
      try dsimp only [Option.toList, List.cons_append, List.nil_append]
      refine ev_if_eq 37 dX8_loseOpenOnes_21 (by decide) (fun c21 => ?_) (fun c21 => absurd c21 (fun z => z rfl))
      refine ev_iincNS (b := 1) dX8_loseOpenOnes_37 rfl (by decide) (by decide) rfl ?_
      refine ev_goto 4 dX8_loseOpenOnes_40 (by decide) ?_
      exact hgo
theorem cs_lose (hC : CFix K R Ln) {tn : Nat} {ti : Nat → Nat} (ht : I 517 3 = nI tn) (hb : tn ≤ 60) (hti : ∀ j, j < tn → B 6 j = some (ti j) ∧ K (ti j) = 7) (hinj : ∀ a b, a < tn → b < tn → ti a = ti b → a = b) : EvM X mX8_loseOpenOnes (d + 1) [rV (some 3)] (K, I, J, R, A, B, Ln, n, sl) (fun r G' => r = some (iV (nI (cnt (fun j => decide (I 449 (ti j) = 1)) tn))) ∧ G' = (K, loI I ti tn, J, R, A, B, Ln, n, sl)) := by
  have h := lp_lose (X := X) (d := d) (J := J) (A := A) (n := n) (sl := sl) (Q := fun r G' => r = some (iV (nI (cnt (fun j => decide (I 449 (ti j) = 1)) tn))) ∧ G' = (K, loI I ti tn, J, R, A, B, Ln, n, sl)) hC ht hb hti hinj ⟨rfl, rfl⟩ tn 0 (by omega)
  rw [loI_0] at h
  show Ev X mX8_loseOpenOnes (d + 1) 0 [some (rV (some 3)), none, none] [] (K, I, J, R, A, B, Ln, n, sl) _
  refine ev_iconstN 0 dX8_loseOpenOnes_0 (by decide) ?_
  refine ev_istore_nS dX8_loseOpenOnes_1 (by decide) rfl ?_
  refine ev_iconstN 0 dX8_loseOpenOnes_2 (by decide) ?_
  refine ev_istore_nS dX8_loseOpenOnes_3 (by decide) rfl ?_
  exact h
set_option maxRecDepth 100000 in
set_option maxHeartbeats 4000000 in
theorem lp_chz {Q : Option LV → GH → Prop} (hC : CFix K R Ln) {tn : Nat} {ti : Nat → Nat} (ht : I 517 3 = nI tn) (hb : tn ≤ 60) (hti : ∀ j, j < tn → B 6 j = some (ti j) ∧ K (ti j) = 7) (hq : Q (some (iV (hzI (fun j => I 449 (ti j)) (fun j => I 448 (ti j)) (I 519 3) tn))) (K, I, J, R, A, B, Ln, n, sl)) : ∀ (g e : Nat), e + g = tn → Ev X mX8_horizon (d + 1) 7 [some (rV (some 3)), some (iV (hzI (fun j => I 449 (ti j)) (fun j => I 448 (ti j)) (I 519 3) e)), some (iV (nI (e)))] [] (K, I, J, R, A, B, Ln, n, sl) Q := by
  intro g
  induction g with
  | zero =>
    intro e he
    have e2 : e = tn := by omega
    subst e2
    refine ev_iload_n dX8_horizon_7 rfl ?_
    refine ev_aload_n dX8_horizon_8 rfl ?_
    refine ev_getIv dX8_horizon_9 fX8_78 hC.m ht ?_
    refine ev_icmp_geN 47 dX8_horizon_12 (by decide) (by omega) (by omega) (fun c12 => ?_) (fun c12 => absurd c12 (by omega))
    refine ev_iload_n dX8_horizon_47 rfl ?_
    refine ev_ireturn dX8_horizon_48 rfl ?_
    exact hq
  | succ g ih =>
    intro e he
    obtain ⟨hi, hk⟩ := hti e (by omega)
    have hgo := ih (e + 1) (by omega)
    rw [hzI.eq_2] at hgo
    have so := cs_isOpen (X := X) (d := d) (I := I) (J := J) (R := R) (A := A) (B := B) (Ln := Ln) (n := n) (sl := sl) hk
    by_cases ho : I 449 (ti e) = 1
    · rw [decide_eq_true ho] at so
      simp only [ho, true_and] at hgo
      refine ev_iload_n dX8_horizon_7 rfl ?_
      refine ev_aload_n dX8_horizon_8 rfl ?_
      refine ev_getIv dX8_horizon_9 fX8_78 hC.m ht ?_
      refine ev_icmp_geN 47 dX8_horizon_12 (by decide) (by omega) (by omega) (fun c12 => absurd c12 (by omega)) (fun c12 => ?_)
      refine ev_aload_n dX8_horizon_15 rfl ?_
      refine ev_getR dX8_horizon_16 fX8_20 hC.m hC.R_tx ?_
      refine ev_iload_n dX8_horizon_19 rfl ?_
      refine ev_aald (q := 3) dX8_horizon_20 hC.K_tx (by decide) (by decide) hC.L_tx (by decide) (by omega) hi ?_
      refine ev_callV dX8_horizon_21 okX7_isOpen inX7_isOpen seX7_isOpen mlX8_217 hk (by decide) rfl [] rfl rfl (Nat.le_of_ble_eq_true rfl) (Nat.le_of_ble_eq_true rfl) (so) (fun r_ G_ h_ => ?_)
      obtain ⟨rfl, rfl⟩ := h_
      try dsimp only [Option.toList, List.cons_append, List.nil_append]
      refine ev_if_eq 41 dX8_horizon_24 (by decide) (fun c24 => absurd c24 (by decide)) (fun c24 => ?_)
      refine ev_iload_n dX8_horizon_27 rfl ?_
      refine ev_aload_n dX8_horizon_28 rfl ?_
      refine ev_getR dX8_horizon_29 fX8_20 hC.m hC.R_tx ?_
      refine ev_iload_n dX8_horizon_32 rfl ?_
      refine ev_aald (q := 3) dX8_horizon_33 hC.K_tx (by decide) (by decide) hC.L_tx (by decide) (by omega) hi ?_
      refine ev_getI dX8_horizon_34 fX8_121 hk ?_
      refine ev_minI dX8_horizon_37 mpX8_220 (Nat.le_of_ble_eq_true rfl) ?_
      refine ev_istore_nS dX8_horizon_40 (by decide) rfl ?_
      refine ev_iincNS (b := 1) dX8_horizon_41 rfl (by decide) (by decide) rfl ?_
      refine ev_goto 7 dX8_horizon_44 (by decide) ?_
      exact hgo
    · rw [decide_eq_false ho] at so
      rw [if_neg (fun z => ho z.1)] at hgo
      refine ev_iload_n dX8_horizon_7 rfl ?_
      refine ev_aload_n dX8_horizon_8 rfl ?_
      refine ev_getIv dX8_horizon_9 fX8_78 hC.m ht ?_
      refine ev_icmp_geN 47 dX8_horizon_12 (by decide) (by omega) (by omega) (fun c12 => absurd c12 (by omega)) (fun c12 => ?_)
      refine ev_aload_n dX8_horizon_15 rfl ?_
      refine ev_getR dX8_horizon_16 fX8_20 hC.m hC.R_tx ?_
      refine ev_iload_n dX8_horizon_19 rfl ?_
      refine ev_aald (q := 3) dX8_horizon_20 hC.K_tx (by decide) (by decide) hC.L_tx (by decide) (by omega) hi ?_
      refine ev_callV dX8_horizon_21 okX7_isOpen inX7_isOpen seX7_isOpen mlX8_217 hk (by decide) rfl [] rfl rfl (Nat.le_of_ble_eq_true rfl) (Nat.le_of_ble_eq_true rfl) (so) (fun r_ G_ h_ => ?_)
      obtain ⟨rfl, rfl⟩ := h_
      try dsimp only [Option.toList, List.cons_append, List.nil_append]
      refine ev_if_eq 41 dX8_horizon_24 (by decide) (fun c24 => ?_) (fun c24 => absurd c24 (fun z => z rfl))
      refine ev_iincNS (b := 1) dX8_horizon_41 rfl (by decide) (by decide) rfl ?_
      refine ev_goto 7 dX8_horizon_44 (by decide) ?_
      exact hgo
theorem cs_horizon (hC : CFix K R Ln) {tn : Nat} {ti : Nat → Nat} (ht : I 517 3 = nI tn) (hb : tn ≤ 60) (hti : ∀ j, j < tn → B 6 j = some (ti j) ∧ K (ti j) = 7) : EvM X mX8_horizon (d + 1) [rV (some 3)] (K, I, J, R, A, B, Ln, n, sl) (fun r G' => r = some (iV (hzI (fun j => I 449 (ti j)) (fun j => I 448 (ti j)) (I 519 3) tn)) ∧ G' = (K, I, J, R, A, B, Ln, n, sl)) := by
  show Ev X mX8_horizon (d + 1) 0 [some (rV (some 3)), none, none] [] (K, I, J, R, A, B, Ln, n, sl) _
  refine ev_aload_n dX8_horizon_0 rfl ?_
  refine ev_getI dX8_horizon_1 fX8_75 hC.m ?_
  refine ev_istore_nS dX8_horizon_4 (by decide) rfl ?_
  refine ev_iconstN 0 dX8_horizon_5 (by decide) ?_
  refine ev_istore_nS dX8_horizon_6 (by decide) rfl ?_
  exact lp_chz hC ht hb hti ⟨rfl, rfl⟩ tn 0 (by omega)
end C72
