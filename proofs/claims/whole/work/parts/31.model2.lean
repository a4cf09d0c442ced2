section M2
variable {X : CX} {d : Nat} {K : Nat → Nat} {I : Nat → Nat → Int32} {J : Nat → Nat → Int64} {R : Nat → Nat → Option Nat} {A : Nat → Nat → Int32} {B : Nat → Nat → Option Nat} {Ln : Nat → Nat} {n sl : Nat}
def isNmN (m : Nat) : Prop := m ≤ 19682 ∧ (m / 729 ≠ 0 ∨ m / 27 % 27 = 0) ∧ (m / 27 % 27 ≠ 0 ∨ m % 27 = 0)
def nmB (x : Int32) : Int32 := if ¬ x < 0 ∧ (x.toNatClampNeg ≤ 19682 ∧ (x.toNatClampNeg / 729 ≠ 0 ∨ x.toNatClampNeg / 27 % 27 = 0) ∧ (x.toNatClampNeg / 27 % 27 ≠ 0 ∨ x.toNatClampNeg % 27 = 0)) then 1 else 0
theorem nmB_neg {x : Int32} (h : x < 0) : nmB x = 0 := if_neg (fun z => z.1 h)
theorem nmB_yes {m : Nat} (hm : m < 2147483648) (h : isNmN m) : nmB (nI m) = 1 := by
  unfold nmB
  rw [nI_clamp hm]
  exact if_pos ⟨nI_pos hm, h⟩
theorem nmB_no {m : Nat} (hm : m < 2147483648) (h : ¬ isNmN m) : nmB (nI m) = 0 := by
  unfold nmB
  rw [nI_clamp hm]
  exact if_neg (fun z => h z.2)
theorem nmB_01 (x : Int32) : nmB x = 0 ∨ nmB x = 1 := by
  unfold nmB
  split
  · exact Or.inr rfl
  · exact Or.inl rfl
set_option maxRecDepth 100000 in
set_option maxHeartbeats 4000000 in
theorem sp_isName {x : Int32} {G : GH} : EvM X mX9_isName d [iV x] G (fun r G' => r = some (iV (nmB x)) ∧ G' = G) := by
  show Ev X mX9_isName d 0 [some (iV x), none, none, none] [] G _
  by_cases hn : x < 0
  · refine ev_iload_n dX9_isName_0 rfl ?_
    refine ev_sipushN 729 dX9_isName_1 (by decide) ?_
    refine ev_idiv (y := 729) dX9_isName_4 (by decide) ?_
    refine ev_istore_n _ dX9_isName_5 (by decide) rfl ?_
    refine ev_iload_n dX9_isName_6 rfl ?_
    refine ev_bipushN 27 dX9_isName_7 (by decide) ?_
    refine ev_idiv (y := 27) dX9_isName_9 (by decide) ?_
    refine ev_bipushN 27 dX9_isName_10 (by decide) ?_
    refine ev_irem (y := 27) dX9_isName_12 (by decide) ?_
    refine ev_istore_n _ dX9_isName_13 (by decide) rfl ?_
    refine ev_iload_n dX9_isName_14 rfl ?_
    refine ev_bipushN 27 dX9_isName_15 (by decide) ?_
    refine ev_irem (y := 27) dX9_isName_17 (by decide) ?_
    refine ev_istore_n _ dX9_isName_18 (by decide) rfl ?_
    refine ev_iload_n dX9_isName_19 rfl ?_
    refine ev_if_lt 54 dX9_isName_20 (by decide) (fun c20 => ?_) (fun c20 => absurd hn c20)
    refine ev_iconstN 0 dX9_isName_54 (by decide) ?_
    refine ev_zreturn dX9_isName_55 rfl (by decide) ?_
    exact ⟨by rw [nmB_neg hn]; rfl, rfl⟩
  · obtain ⟨m, hm, rfl⟩ := nI_of hn
    refine ev_iload_n dX9_isName_0 rfl ?_
    refine ev_sipushN 729 dX9_isName_1 (by decide) ?_
    refine ev_idivN dX9_isName_4 (by omega) (by omega) (by omega) ?_
    refine ev_istore_n _ dX9_isName_5 (by decide) rfl ?_
    refine ev_iload_n dX9_isName_6 rfl ?_
    refine ev_bipushN 27 dX9_isName_7 (by decide) ?_
    refine ev_idivN dX9_isName_9 (by omega) (by omega) (by omega) ?_
    refine ev_bipushN 27 dX9_isName_10 (by decide) ?_
    refine ev_iremN dX9_isName_12 (by omega) (by omega) (by omega) ?_
    refine ev_istore_n _ dX9_isName_13 (by decide) rfl ?_
    refine ev_iload_n dX9_isName_14 rfl ?_
    refine ev_bipushN 27 dX9_isName_15 (by decide) ?_
    refine ev_iremN dX9_isName_17 (by omega) (by omega) (by omega) ?_
    refine ev_istore_n _ dX9_isName_18 (by decide) rfl ?_
    refine ev_iload_n dX9_isName_19 rfl ?_
    refine ev_if_ltN 54 dX9_isName_20 (by decide) (by omega) ?_
    refine ev_iload_n dX9_isName_23 rfl ?_
    refine ev_sipushN 19682 dX9_isName_24 (by decide) ?_
    refine ev_icmp_gtN 54 dX9_isName_27 (by decide) (by omega) (by omega) (fun c27 => ?_) (fun c27 => ?_)
    · refine ev_iconstN 0 dX9_isName_54 (by decide) ?_
      refine ev_zreturn dX9_isName_55 rfl (by decide) ?_
      first | exact ⟨by rw [nmB_yes hm (by unfold isNmN; omega)]; rfl, rfl⟩ | exact ⟨by rw [nmB_no hm (by unfold isNmN; omega)]; rfl, rfl⟩
    · refine ev_iload_n dX9_isName_30 rfl ?_
      refine ev_if_gtN 42 dX9_isName_31 (by decide) (by omega) (fun c31 => ?_) (fun c31 => ?_)
      · refine ev_iload_n dX9_isName_42 rfl ?_
        refine ev_if_gtN 50 dX9_isName_43 (by decide) (by omega) (fun c43 => ?_) (fun c43 => ?_)
        · refine ev_iconstN 1 dX9_isName_50 (by decide) ?_
          refine ev_goto 55 dX9_isName_51 (by decide) ?_
          refine ev_zreturn dX9_isName_55 rfl (by decide) ?_
          first | exact ⟨by rw [nmB_yes hm (by unfold isNmN; omega)]; rfl, rfl⟩ | exact ⟨by rw [nmB_no hm (by unfold isNmN; omega)]; rfl, rfl⟩
        · refine ev_iload_n dX9_isName_46 rfl ?_
          refine ev_if_neN 54 dX9_isName_47 (by decide) (by omega) (fun c47 => ?_) (fun c47 => ?_)
          · refine ev_iconstN 0 dX9_isName_54 (by decide) ?_
            refine ev_zreturn dX9_isName_55 rfl (by decide) ?_
            first | exact ⟨by rw [nmB_yes hm (by unfold isNmN; omega)]; rfl, rfl⟩ | exact ⟨by rw [nmB_no hm (by unfold isNmN; omega)]; rfl, rfl⟩
          · refine ev_iconstN 1 dX9_isName_50 (by decide) ?_
            refine ev_goto 55 dX9_isName_51 (by decide) ?_
            refine ev_zreturn dX9_isName_55 rfl (by decide) ?_
            first | exact ⟨by rw [nmB_yes hm (by unfold isNmN; omega)]; rfl, rfl⟩ | exact ⟨by rw [nmB_no hm (by unfold isNmN; omega)]; rfl, rfl⟩
      · refine ev_iload_n dX9_isName_34 rfl ?_
        refine ev_if_neN 54 dX9_isName_35 (by decide) (by omega) (fun c35 => ?_) (fun c35 => ?_)
        · refine ev_iconstN 0 dX9_isName_54 (by decide) ?_
          refine ev_zreturn dX9_isName_55 rfl (by decide) ?_
          first | exact ⟨by rw [nmB_yes hm (by unfold isNmN; omega)]; rfl, rfl⟩ | exact ⟨by rw [nmB_no hm (by unfold isNmN; omega)]; rfl, rfl⟩
        · refine ev_iload_n dX9_isName_38 rfl ?_
          refine ev_if_neN 54 dX9_isName_39 (by decide) (by omega) (fun c39 => ?_) (fun c39 => ?_)
          · refine ev_iconstN 0 dX9_isName_54 (by decide) ?_
            refine ev_zreturn dX9_isName_55 rfl (by decide) ?_
            first | exact ⟨by rw [nmB_yes hm (by unfold isNmN; omega)]; rfl, rfl⟩ | exact ⟨by rw [nmB_no hm (by unfold isNmN; omega)]; rfl, rfl⟩
          · refine ev_iload_n dX9_isName_42 rfl ?_
            refine ev_if_gtN 50 dX9_isName_43 (by decide) (by omega) (fun c43 => ?_) (fun c43 => ?_)
            · refine ev_iconstN 1 dX9_isName_50 (by decide) ?_
              refine ev_goto 55 dX9_isName_51 (by decide) ?_
              refine ev_zreturn dX9_isName_55 rfl (by decide) ?_
              first | exact ⟨by rw [nmB_yes hm (by unfold isNmN; omega)]; rfl, rfl⟩ | exact ⟨by rw [nmB_no hm (by unfold isNmN; omega)]; rfl, rfl⟩
            · refine ev_iload_n dX9_isName_46 rfl ?_
              refine ev_if_neN 54 dX9_isName_47 (by decide) (by omega) (fun c47 => ?_) (fun c47 => ?_)
              · refine ev_iconstN 0 dX9_isName_54 (by decide) ?_
                refine ev_zreturn dX9_isName_55 rfl (by decide) ?_
                first | exact ⟨by rw [nmB_yes hm (by unfold isNmN; omega)]; rfl, rfl⟩ | exact ⟨by rw [nmB_no hm (by unfold isNmN; omega)]; rfl, rfl⟩
              · refine ev_iconstN 1 dX9_isName_50 (by decide) ?_
                refine ev_goto 55 dX9_isName_51 (by decide) ?_
                refine ev_zreturn dX9_isName_55 rfl (by decide) ?_
                first | exact ⟨by rw [nmB_yes hm (by unfold isNmN; omega)]; rfl, rfl⟩ | exact ⟨by rw [nmB_no hm (by unfold isNmN; omega)]; rfl, rfl⟩
def needN (o : Int32) : Nat := if o < 4 ∨ o = 12 then 0 else if o = 11 then 1 else 2
set_option maxRecDepth 100000 in
set_option maxHeartbeats 4000000 in
theorem sp_needs {o : Int32} {G : GH} : EvM X mX9_needs d [iV o] G (fun r G' => r = some (iV (nI (needN o))) ∧ G' = G) := by
  show Ev X mX9_needs d 0 [some (iV o)] [] G _
  unfold needN
  refine ev_iload_n dX9_needs_0 rfl ?_
  refine ev_iconstN 4 dX9_needs_1 (by decide) ?_
  refine ev_icmp_lt (y := 4) 11 dX9_needs_2 (by decide) (fun c2 => ?_) (fun c2 => ?_)
  · refine ev_iconstN 0 dX9_needs_11 (by decide) ?_
    refine ev_goto 26 dX9_needs_12 (by decide) ?_
    refine ev_ireturn dX9_needs_26 rfl ?_
    exact ⟨by simp [*], rfl⟩
  · refine ev_iload_n dX9_needs_5 rfl ?_
    refine ev_bipushN 12 dX9_needs_6 (by decide) ?_
    refine ev_icmp_ne (y := 12) 15 dX9_needs_8 (by decide) (fun c8 => ?_) (fun c8 => ?_)
    · refine ev_iload_n dX9_needs_15 rfl ?_
      refine ev_bipushN 11 dX9_needs_16 (by decide) ?_
      refine ev_icmp_ne (y := 11) 25 dX9_needs_18 (by decide) (fun c18 => ?_) (fun c18 => ?_)
      · refine ev_iconstN 2 dX9_needs_25 (by decide) ?_
        refine ev_ireturn dX9_needs_26 rfl ?_
        exact ⟨by simp [*], rfl⟩
      · refine ev_iconstN 1 dX9_needs_21 (by decide) ?_
        refine ev_goto 26 dX9_needs_22 (by decide) ?_
        refine ev_ireturn dX9_needs_26 rfl ?_
        exact ⟨by simp [*], rfl⟩
    · refine ev_iconstN 0 dX9_needs_11 (by decide) ?_
      refine ev_goto 26 dX9_needs_12 (by decide) ?_
      refine ev_ireturn dX9_needs_26 rfl ?_
      exact ⟨by simp [*], rfl⟩
def startN (a b : Nat) : Prop := (b / 729 = 0 ∨ a / 729 = b / 729) ∧ (b / 27 % 27 = 0 ∨ a / 27 % 27 = b / 27 % 27) ∧ (b % 27 = 0 ∨ a % 27 = b % 27)
def startI (a b : Nat) : Int32 := if (b / 729 = 0 ∨ a / 729 = b / 729) ∧ (b / 27 % 27 = 0 ∨ a / 27 % 27 = b / 27 % 27) ∧ (b % 27 = 0 ∨ a % 27 = b % 27) then 1 else 0
set_option maxRecDepth 100000 in
set_option maxHeartbeats 4000000 in
theorem sp_starts {a b : Nat} {G : GH} (ha : a < 2147483648) (hb : b < 2147483648) : EvM X mX9_starts d [iV (nI a), iV (nI b)] G (fun r G' => r = some (iV (startI a b)) ∧ G' = G) := by
  show Ev X mX9_starts d 0 [some (iV (nI a)), some (iV (nI b)), none, none, none] [] G _
  unfold startI
  refine ev_iload_n dX9_starts_0 rfl ?_
  refine ev_sipushN 729 dX9_starts_1 (by decide) ?_
  refine ev_idivN dX9_starts_4 (by omega) (by omega) (by omega) ?_
  refine ev_istore_n _ dX9_starts_5 (by decide) rfl ?_
  refine ev_iload_n dX9_starts_6 rfl ?_
  refine ev_bipushN 27 dX9_starts_7 (by decide) ?_
  refine ev_idivN dX9_starts_9 (by omega) (by omega) (by omega) ?_
  refine ev_bipushN 27 dX9_starts_10 (by decide) ?_
  refine ev_iremN dX9_starts_12 (by omega) (by omega) (by omega) ?_
  refine ev_istore_n _ dX9_starts_13 (by decide) rfl ?_
  refine ev_iload_n dX9_starts_14 rfl ?_
  refine ev_bipushN 27 dX9_starts_15 (by decide) ?_
  refine ev_iremN dX9_starts_17 (by omega) (by omega) (by omega) ?_
  refine ev_istore _ dX9_starts_18 (by decide) rfl ?_
  refine ev_iload_n dX9_starts_20 rfl ?_
  refine ev_if_eqN 33 dX9_starts_21 (by decide) (by omega) (fun c21 => ?_) (fun c21 => ?_)
  · refine ev_iload_n dX9_starts_33 rfl ?_
    refine ev_if_eqN 48 dX9_starts_34 (by decide) (by omega) (fun c34 => ?_) (fun c34 => ?_)
    · refine ev_iload dX9_starts_48 rfl ?_
      refine ev_if_eqN 62 dX9_starts_50 (by decide) (by omega) (fun c50 => ?_) (fun c50 => ?_)
      · refine ev_iconstN 1 dX9_starts_62 (by decide) ?_
        refine ev_goto 67 dX9_starts_63 (by decide) ?_
        refine ev_zreturn dX9_starts_67 rfl (by decide) ?_
        first | exact ⟨by rw [if_pos (by omega)]; rfl, rfl⟩ | exact ⟨by rw [if_neg (by omega)]; rfl, rfl⟩
      · refine ev_iload_n dX9_starts_53 rfl ?_
        refine ev_bipushN 27 dX9_starts_54 (by decide) ?_
        refine ev_iremN dX9_starts_56 (by omega) (by omega) (by omega) ?_
        refine ev_iload dX9_starts_57 rfl ?_
        refine ev_icmp_neN 66 dX9_starts_59 (by decide) (by omega) (by omega) (fun c59 => ?_) (fun c59 => ?_)
        · refine ev_iconstN 0 dX9_starts_66 (by decide) ?_
          refine ev_zreturn dX9_starts_67 rfl (by decide) ?_
          first | exact ⟨by rw [if_pos (by omega)]; rfl, rfl⟩ | exact ⟨by rw [if_neg (by omega)]; rfl, rfl⟩
        · refine ev_iconstN 1 dX9_starts_62 (by decide) ?_
          refine ev_goto 67 dX9_starts_63 (by decide) ?_
          refine ev_zreturn dX9_starts_67 rfl (by decide) ?_
          first | exact ⟨by rw [if_pos (by omega)]; rfl, rfl⟩ | exact ⟨by rw [if_neg (by omega)]; rfl, rfl⟩
    · refine ev_iload_n dX9_starts_37 rfl ?_
      refine ev_bipushN 27 dX9_starts_38 (by decide) ?_
      refine ev_idivN dX9_starts_40 (by omega) (by omega) (by omega) ?_
      refine ev_bipushN 27 dX9_starts_41 (by decide) ?_
      refine ev_iremN dX9_starts_43 (by omega) (by omega) (by omega) ?_
      refine ev_iload_n dX9_starts_44 rfl ?_
      refine ev_icmp_neN 66 dX9_starts_45 (by decide) (by omega) (by omega) (fun c45 => ?_) (fun c45 => ?_)
      · refine ev_iconstN 0 dX9_starts_66 (by decide) ?_
        refine ev_zreturn dX9_starts_67 rfl (by decide) ?_
        first | exact ⟨by rw [if_pos (by omega)]; rfl, rfl⟩ | exact ⟨by rw [if_neg (by omega)]; rfl, rfl⟩
      · refine ev_iload dX9_starts_48 rfl ?_
        refine ev_if_eqN 62 dX9_starts_50 (by decide) (by omega) (fun c50 => ?_) (fun c50 => ?_)
        · refine ev_iconstN 1 dX9_starts_62 (by decide) ?_
          refine ev_goto 67 dX9_starts_63 (by decide) ?_
          refine ev_zreturn dX9_starts_67 rfl (by decide) ?_
          first | exact ⟨by rw [if_pos (by omega)]; rfl, rfl⟩ | exact ⟨by rw [if_neg (by omega)]; rfl, rfl⟩
        · refine ev_iload_n dX9_starts_53 rfl ?_
          refine ev_bipushN 27 dX9_starts_54 (by decide) ?_
          refine ev_iremN dX9_starts_56 (by omega) (by omega) (by omega) ?_
          refine ev_iload dX9_starts_57 rfl ?_
          refine ev_icmp_neN 66 dX9_starts_59 (by decide) (by omega) (by omega) (fun c59 => ?_) (fun c59 => ?_)
          · refine ev_iconstN 0 dX9_starts_66 (by decide) ?_
            refine ev_zreturn dX9_starts_67 rfl (by decide) ?_
            first | exact ⟨by rw [if_pos (by omega)]; rfl, rfl⟩ | exact ⟨by rw [if_neg (by omega)]; rfl, rfl⟩
          · refine ev_iconstN 1 dX9_starts_62 (by decide) ?_
            refine ev_goto 67 dX9_starts_63 (by decide) ?_
            refine ev_zreturn dX9_starts_67 rfl (by decide) ?_
            first | exact ⟨by rw [if_pos (by omega)]; rfl, rfl⟩ | exact ⟨by rw [if_neg (by omega)]; rfl, rfl⟩
  · refine ev_iload_n dX9_starts_24 rfl ?_
    refine ev_sipushN 729 dX9_starts_25 (by decide) ?_
    refine ev_idivN dX9_starts_28 (by omega) (by omega) (by omega) ?_
    refine ev_iload_n dX9_starts_29 rfl ?_
    refine ev_icmp_neN 66 dX9_starts_30 (by decide) (by omega) (by omega) (fun c30 => ?_) (fun c30 => ?_)
    · refine ev_iconstN 0 dX9_starts_66 (by decide) ?_
      refine ev_zreturn dX9_starts_67 rfl (by decide) ?_
      first | exact ⟨by rw [if_pos (by omega)]; rfl, rfl⟩ | exact ⟨by rw [if_neg (by omega)]; rfl, rfl⟩
    · refine ev_iload_n dX9_starts_33 rfl ?_
      refine ev_if_eqN 48 dX9_starts_34 (by decide) (by omega) (fun c34 => ?_) (fun c34 => ?_)
      · refine ev_iload dX9_starts_48 rfl ?_
        refine ev_if_eqN 62 dX9_starts_50 (by decide) (by omega) (fun c50 => ?_) (fun c50 => ?_)
        · refine ev_iconstN 1 dX9_starts_62 (by decide) ?_
          refine ev_goto 67 dX9_starts_63 (by decide) ?_
          refine ev_zreturn dX9_starts_67 rfl (by decide) ?_
          first | exact ⟨by rw [if_pos (by omega)]; rfl, rfl⟩ | exact ⟨by rw [if_neg (by omega)]; rfl, rfl⟩
        · refine ev_iload_n dX9_starts_53 rfl ?_
          refine ev_bipushN 27 dX9_starts_54 (by decide) ?_
          refine ev_iremN dX9_starts_56 (by omega) (by omega) (by omega) ?_
          refine ev_iload dX9_starts_57 rfl ?_
          refine ev_icmp_neN 66 dX9_starts_59 (by decide) (by omega) (by omega) (fun c59 => ?_) (fun c59 => ?_)
          · refine ev_iconstN 0 dX9_starts_66 (by decide) ?_
            refine ev_zreturn dX9_starts_67 rfl (by decide) ?_
            first | exact ⟨by rw [if_pos (by omega)]; rfl, rfl⟩ | exact ⟨by rw [if_neg (by omega)]; rfl, rfl⟩
          · refine ev_iconstN 1 dX9_starts_62 (by decide) ?_
            refine ev_goto 67 dX9_starts_63 (by decide) ?_
            refine ev_zreturn dX9_starts_67 rfl (by decide) ?_
            first | exact ⟨by rw [if_pos (by omega)]; rfl, rfl⟩ | exact ⟨by rw [if_neg (by omega)]; rfl, rfl⟩
      · refine ev_iload_n dX9_starts_37 rfl ?_
        refine ev_bipushN 27 dX9_starts_38 (by decide) ?_
        refine ev_idivN dX9_starts_40 (by omega) (by omega) (by omega) ?_
        refine ev_bipushN 27 dX9_starts_41 (by decide) ?_
        refine ev_iremN dX9_starts_43 (by omega) (by omega) (by omega) ?_
        refine ev_iload_n dX9_starts_44 rfl ?_
        refine ev_icmp_neN 66 dX9_starts_45 (by decide) (by omega) (by omega) (fun c45 => ?_) (fun c45 => ?_)
        · refine ev_iconstN 0 dX9_starts_66 (by decide) ?_
          refine ev_zreturn dX9_starts_67 rfl (by decide) ?_
          first | exact ⟨by rw [if_pos (by omega)]; rfl, rfl⟩ | exact ⟨by rw [if_neg (by omega)]; rfl, rfl⟩
        · refine ev_iload dX9_starts_48 rfl ?_
          refine ev_if_eqN 62 dX9_starts_50 (by decide) (by omega) (fun c50 => ?_) (fun c50 => ?_)
          · refine ev_iconstN 1 dX9_starts_62 (by decide) ?_
            refine ev_goto 67 dX9_starts_63 (by decide) ?_
            refine ev_zreturn dX9_starts_67 rfl (by decide) ?_
            first | exact ⟨by rw [if_pos (by omega)]; rfl, rfl⟩ | exact ⟨by rw [if_neg (by omega)]; rfl, rfl⟩
          · refine ev_iload_n dX9_starts_53 rfl ?_
            refine ev_bipushN 27 dX9_starts_54 (by decide) ?_
            refine ev_iremN dX9_starts_56 (by omega) (by omega) (by omega) ?_
            refine ev_iload dX9_starts_57 rfl ?_
            refine ev_icmp_neN 66 dX9_starts_59 (by decide) (by omega) (by omega) (fun c59 => ?_) (fun c59 => ?_)
            · refine ev_iconstN 0 dX9_starts_66 (by decide) ?_
              refine ev_zreturn dX9_starts_67 rfl (by decide) ?_
              first | exact ⟨by rw [if_pos (by omega)]; rfl, rfl⟩ | exact ⟨by rw [if_neg (by omega)]; rfl, rfl⟩
            · refine ev_iconstN 1 dX9_starts_62 (by decide) ?_
              refine ev_goto 67 dX9_starts_63 (by decide) ?_
              refine ev_zreturn dX9_starts_67 rfl (by decide) ?_
              first | exact ⟨by rw [if_pos (by omega)]; rfl, rfl⟩ | exact ⟨by rw [if_neg (by omega)]; rfl, rfl⟩
def twoI (o a b : Int32) : Int32 := if o < 7 then (if o = 4 then a + b else if o = 5 then a - b else a * b) else if (if o = 7 then a < b else if o = 8 then a = b else if o = 9 then a = 1 ∧ b = 1 else a = 1 ∨ b = 1) then 1 else 0
set_option maxRecDepth 100000 in
set_option maxHeartbeats 4000000 in
theorem sp_two {o a b : Int32} {G : GH} : EvM X mX9_two d [iV o, iV a, iV b] G (fun r G' => r = some (iV (twoI o a b)) ∧ G' = G) := by
  show Ev X mX9_two d 0 [some (iV o), some (iV a), some (iV b), none] [] G _
  unfold twoI
  refine ev_iload_n dX9_two_0 rfl ?_
  refine ev_bipushN 7 dX9_two_1 (by decide) ?_
  refine ev_icmp_ge (y := 7) 32 dX9_two_3 (by decide) (fun c3 => ?_) (fun c3 => ?_)
  · refine ev_iload_n dX9_two_32 rfl ?_
    refine ev_bipushN 7 dX9_two_33 (by decide) ?_
    refine ev_icmp_ne (y := 7) 51 dX9_two_35 (by decide) (fun c35 => ?_) (fun c35 => ?_)
    · refine ev_iload_n dX9_two_51 rfl ?_
      refine ev_bipushN 8 dX9_two_52 (by decide) ?_
      refine ev_icmp_ne (y := 8) 70 dX9_two_54 (by decide) (fun c54 => ?_) (fun c54 => ?_)
      · refine ev_iload_n dX9_two_70 rfl ?_
        refine ev_bipushN 9 dX9_two_71 (by decide) ?_
        refine ev_icmp_ne (y := 9) 94 dX9_two_73 (by decide) (fun c73 => ?_) (fun c73 => ?_)
        · refine ev_iload_n dX9_two_94 rfl ?_
          refine ev_iconstN 1 dX9_two_95 (by decide) ?_
          refine ev_icmp_eq (y := 1) 104 dX9_two_96 (by decide) (fun c96 => ?_) (fun c96 => ?_)
          · refine ev_iconstN 1 dX9_two_104 (by decide) ?_
            refine ev_goto 109 dX9_two_105 (by decide) ?_
            refine ev_istore_n _ dX9_two_109 (by decide) rfl ?_
            refine ev_iload_n dX9_two_110 rfl ?_
            refine ev_if_eqN 118 dX9_two_111 (by decide) (by omega) (fun c111 => absurd c111 (by decide)) (fun c111 => ?_)
            refine ev_iconstN 1 dX9_two_114 (by decide) ?_
            refine ev_goto 119 dX9_two_115 (by decide) ?_
            refine ev_ireturn dX9_two_119 rfl ?_
            try have z3 := Int32.not_lt.mpr c3
            try have y3 := Int32.not_le.mp c3
            try have z40 := Int32.not_lt.mpr c40
            try have y40 := Int32.not_le.mp c40
            exact ⟨by first | (simp [*]; done) | (simp [*]; rfl), rfl⟩
          · refine ev_iload_n dX9_two_99 rfl ?_
            refine ev_iconstN 1 dX9_two_100 (by decide) ?_
            refine ev_icmp_ne (y := 1) 108 dX9_two_101 (by decide) (fun c101 => ?_) (fun c101 => ?_)
            · refine ev_iconstN 0 dX9_two_108 (by decide) ?_
              refine ev_istore_n _ dX9_two_109 (by decide) rfl ?_
              refine ev_iload_n dX9_two_110 rfl ?_
              refine ev_if_eqN 118 dX9_two_111 (by decide) (by omega) (fun c111 => ?_) (fun c111 => absurd c111 (by decide))
              refine ev_iconstN 0 dX9_two_118 (by decide) ?_
              refine ev_ireturn dX9_two_119 rfl ?_
              try have z3 := Int32.not_lt.mpr c3
              try have y3 := Int32.not_le.mp c3
              try have z40 := Int32.not_lt.mpr c40
              try have y40 := Int32.not_le.mp c40
              exact ⟨by first | (simp [*]; done) | (simp [*]; rfl), rfl⟩
            · refine ev_iconstN 1 dX9_two_104 (by decide) ?_
              refine ev_goto 109 dX9_two_105 (by decide) ?_
              refine ev_istore_n _ dX9_two_109 (by decide) rfl ?_
              refine ev_iload_n dX9_two_110 rfl ?_
              refine ev_if_eqN 118 dX9_two_111 (by decide) (by omega) (fun c111 => absurd c111 (by decide)) (fun c111 => ?_)
              refine ev_iconstN 1 dX9_two_114 (by decide) ?_
              refine ev_goto 119 dX9_two_115 (by decide) ?_
              refine ev_ireturn dX9_two_119 rfl ?_
              try have z3 := Int32.not_lt.mpr c3
              try have y3 := Int32.not_le.mp c3
              try have z40 := Int32.not_lt.mpr c40
              try have y40 := Int32.not_le.mp c40
              exact ⟨by first | (simp [*]; done) | (simp [*]; rfl), rfl⟩
        · refine ev_iload_n dX9_two_76 rfl ?_
          refine ev_iconstN 1 dX9_two_77 (by decide) ?_
          refine ev_icmp_ne (y := 1) 90 dX9_two_78 (by decide) (fun c78 => ?_) (fun c78 => ?_)
          · refine ev_iconstN 0 dX9_two_90 (by decide) ?_
            refine ev_goto 109 dX9_two_91 (by decide) ?_
            refine ev_istore_n _ dX9_two_109 (by decide) rfl ?_
            refine ev_iload_n dX9_two_110 rfl ?_
            refine ev_if_eqN 118 dX9_two_111 (by decide) (by omega) (fun c111 => ?_) (fun c111 => absurd c111 (by decide))
            refine ev_iconstN 0 dX9_two_118 (by decide) ?_
            refine ev_ireturn dX9_two_119 rfl ?_
            try have z3 := Int32.not_lt.mpr c3
            try have y3 := Int32.not_le.mp c3
            try have z40 := Int32.not_lt.mpr c40
            try have y40 := Int32.not_le.mp c40
            exact ⟨by first | (simp [*]; done) | (simp [*]; rfl), rfl⟩
          · refine ev_iload_n dX9_two_81 rfl ?_
            refine ev_iconstN 1 dX9_two_82 (by decide) ?_
            refine ev_icmp_ne (y := 1) 90 dX9_two_83 (by decide) (fun c83 => ?_) (fun c83 => ?_)
            · refine ev_iconstN 0 dX9_two_90 (by decide) ?_
              refine ev_goto 109 dX9_two_91 (by decide) ?_
              refine ev_istore_n _ dX9_two_109 (by decide) rfl ?_
              refine ev_iload_n dX9_two_110 rfl ?_
              refine ev_if_eqN 118 dX9_two_111 (by decide) (by omega) (fun c111 => ?_) (fun c111 => absurd c111 (by decide))
              refine ev_iconstN 0 dX9_two_118 (by decide) ?_
              refine ev_ireturn dX9_two_119 rfl ?_
              try have z3 := Int32.not_lt.mpr c3
              try have y3 := Int32.not_le.mp c3
              try have z40 := Int32.not_lt.mpr c40
              try have y40 := Int32.not_le.mp c40
              exact ⟨by first | (simp [*]; done) | (simp [*]; rfl), rfl⟩
            · refine ev_iconstN 1 dX9_two_86 (by decide) ?_
              refine ev_goto 109 dX9_two_87 (by decide) ?_
              refine ev_istore_n _ dX9_two_109 (by decide) rfl ?_
              refine ev_iload_n dX9_two_110 rfl ?_
              refine ev_if_eqN 118 dX9_two_111 (by decide) (by omega) (fun c111 => absurd c111 (by decide)) (fun c111 => ?_)
              refine ev_iconstN 1 dX9_two_114 (by decide) ?_
              refine ev_goto 119 dX9_two_115 (by decide) ?_
              refine ev_ireturn dX9_two_119 rfl ?_
              try have z3 := Int32.not_lt.mpr c3
              try have y3 := Int32.not_le.mp c3
              try have z40 := Int32.not_lt.mpr c40
              try have y40 := Int32.not_le.mp c40
              exact ⟨by first | (simp [*]; done) | (simp [*]; rfl), rfl⟩
      · refine ev_iload_n dX9_two_57 rfl ?_
        refine ev_iload_n dX9_two_58 rfl ?_
        refine ev_icmp_ne 66 dX9_two_59 (by decide) (fun c59 => ?_) (fun c59 => ?_)
        · refine ev_iconstN 0 dX9_two_66 (by decide) ?_
          refine ev_goto 109 dX9_two_67 (by decide) ?_
          refine ev_istore_n _ dX9_two_109 (by decide) rfl ?_
          refine ev_iload_n dX9_two_110 rfl ?_
          refine ev_if_eqN 118 dX9_two_111 (by decide) (by omega) (fun c111 => ?_) (fun c111 => absurd c111 (by decide))
          refine ev_iconstN 0 dX9_two_118 (by decide) ?_
          refine ev_ireturn dX9_two_119 rfl ?_
          try have z3 := Int32.not_lt.mpr c3
          try have y3 := Int32.not_le.mp c3
          try have z40 := Int32.not_lt.mpr c40
          try have y40 := Int32.not_le.mp c40
          exact ⟨by first | (simp [*]; done) | (simp [*]; rfl), rfl⟩
        · refine ev_iconstN 1 dX9_two_62 (by decide) ?_
          refine ev_goto 109 dX9_two_63 (by decide) ?_
          refine ev_istore_n _ dX9_two_109 (by decide) rfl ?_
          refine ev_iload_n dX9_two_110 rfl ?_
          refine ev_if_eqN 118 dX9_two_111 (by decide) (by omega) (fun c111 => absurd c111 (by decide)) (fun c111 => ?_)
          refine ev_iconstN 1 dX9_two_114 (by decide) ?_
          refine ev_goto 119 dX9_two_115 (by decide) ?_
          refine ev_ireturn dX9_two_119 rfl ?_
          try have z3 := Int32.not_lt.mpr c3
          try have y3 := Int32.not_le.mp c3
          try have z40 := Int32.not_lt.mpr c40
          try have y40 := Int32.not_le.mp c40
          exact ⟨by first | (simp [*]; done) | (simp [*]; rfl), rfl⟩
    · refine ev_iload_n dX9_two_38 rfl ?_
      refine ev_iload_n dX9_two_39 rfl ?_
      refine ev_icmp_ge 47 dX9_two_40 (by decide) (fun c40 => ?_) (fun c40 => ?_)
      · refine ev_iconstN 0 dX9_two_47 (by decide) ?_
        refine ev_goto 109 dX9_two_48 (by decide) ?_
        refine ev_istore_n _ dX9_two_109 (by decide) rfl ?_
        refine ev_iload_n dX9_two_110 rfl ?_
        refine ev_if_eqN 118 dX9_two_111 (by decide) (by omega) (fun c111 => ?_) (fun c111 => absurd c111 (by decide))
        refine ev_iconstN 0 dX9_two_118 (by decide) ?_
        refine ev_ireturn dX9_two_119 rfl ?_
        try have z3 := Int32.not_lt.mpr c3
        try have y3 := Int32.not_le.mp c3
        try have z40 := Int32.not_lt.mpr c40
        try have y40 := Int32.not_le.mp c40
        exact ⟨by first | (simp [*]; done) | (simp [*]; rfl), rfl⟩
      · refine ev_iconstN 1 dX9_two_43 (by decide) ?_
        refine ev_goto 109 dX9_two_44 (by decide) ?_
        refine ev_istore_n _ dX9_two_109 (by decide) rfl ?_
        refine ev_iload_n dX9_two_110 rfl ?_
        refine ev_if_eqN 118 dX9_two_111 (by decide) (by omega) (fun c111 => absurd c111 (by decide)) (fun c111 => ?_)
        refine ev_iconstN 1 dX9_two_114 (by decide) ?_
        refine ev_goto 119 dX9_two_115 (by decide) ?_
        refine ev_ireturn dX9_two_119 rfl ?_
        try have z3 := Int32.not_lt.mpr c3
        try have y3 := Int32.not_le.mp c3
        try have z40 := Int32.not_lt.mpr c40
        try have y40 := Int32.not_le.mp c40
        exact ⟨by first | (simp [*]; done) | (simp [*]; rfl), rfl⟩
  · refine ev_iload_n dX9_two_6 rfl ?_
    refine ev_iconstN 4 dX9_two_7 (by decide) ?_
    refine ev_icmp_ne (y := 4) 17 dX9_two_8 (by decide) (fun c8 => ?_) (fun c8 => ?_)
    · refine ev_iload_n dX9_two_17 rfl ?_
      refine ev_iconstN 5 dX9_two_18 (by decide) ?_
      refine ev_icmp_ne (y := 5) 28 dX9_two_19 (by decide) (fun c19 => ?_) (fun c19 => ?_)
      · refine ev_iload_n dX9_two_28 rfl ?_
        refine ev_iload_n dX9_two_29 rfl ?_
        refine ev_imul dX9_two_30 ?_
        refine ev_ireturn dX9_two_31 rfl ?_
        try have z3 := Int32.not_lt.mpr c3
        try have y3 := Int32.not_le.mp c3
        try have z40 := Int32.not_lt.mpr c40
        try have y40 := Int32.not_le.mp c40
        exact ⟨by first | (simp [*]; done) | (simp [*]; rfl), rfl⟩
      · refine ev_iload_n dX9_two_22 rfl ?_
        refine ev_iload_n dX9_two_23 rfl ?_
        refine ev_isub dX9_two_24 ?_
        refine ev_goto 31 dX9_two_25 (by decide) ?_
        refine ev_ireturn dX9_two_31 rfl ?_
        try have z3 := Int32.not_lt.mpr c3
        try have y3 := Int32.not_le.mp c3
        try have z40 := Int32.not_lt.mpr c40
        try have y40 := Int32.not_le.mp c40
        exact ⟨by first | (simp [*]; done) | (simp [*]; rfl), rfl⟩
    · refine ev_iload_n dX9_two_11 rfl ?_
      refine ev_iload_n dX9_two_12 rfl ?_
      refine ev_iadd dX9_two_13 ?_
      refine ev_goto 31 dX9_two_14 (by decide) ?_
      refine ev_ireturn dX9_two_31 rfl ?_
      try have z3 := Int32.not_lt.mpr c3
      try have y3 := Int32.not_le.mp c3
      try have z40 := Int32.not_lt.mpr c40
      try have y40 := Int32.not_le.mp c40
      exact ⟨by first | (simp [*]; done) | (simp [*]; rfl), rfl⟩
end M2
