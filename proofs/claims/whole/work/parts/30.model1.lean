section M1
variable {X : CX} {d : Nat} {K : Nat → Nat} {I : Nat → Nat → Int32} {J : Nat → Nat → Int64} {R : Nat → Nat → Option Nat} {A : Nat → Nat → Int32} {B : Nat → Nat → Option Nat} {Ln : Nat → Nat} {n sl : Nat}
theorem sp_isKey {k : Int32} {G : GH} : EvM X mX9_isKey d [iV k] G (fun r G' => r = some (iV (if 0 ≤ k ∧ k ≤ 31 then 1 else 0)) ∧ G' = G) := by
  show Ev X mX9_isKey d 0 [some (iV k)] [] G _
  refine ev_iload_n dX9_isKey_0 rfl ?_
  refine ev_if_lt 14 dX9_isKey_1 (by decide) (fun c1 => ?_) (fun c1 => ?_)
  · refine ev_iconstN 0 dX9_isKey_14 (by decide) ?_
    refine ev_zreturn dX9_isKey_15 rfl (by decide) ?_
    first | exact ⟨by rw [if_neg (by intro h; first | exact absurd h.1 (Int32.not_le.mpr c1) | exact absurd h.2 (Int32.not_le.mpr c7))]; rfl, rfl⟩ | exact ⟨by rw [if_pos ⟨Int32.not_lt.mp c1, Int32.not_lt.mp c7⟩]; rfl, rfl⟩
  · refine ev_iload_n dX9_isKey_4 rfl ?_
    refine ev_bipushN 31 dX9_isKey_5 (by decide) ?_
    refine ev_icmp_gt 14 dX9_isKey_7 (by decide) (fun c7 => ?_) (fun c7 => ?_)
    · refine ev_iconstN 0 dX9_isKey_14 (by decide) ?_
      refine ev_zreturn dX9_isKey_15 rfl (by decide) ?_
      first | exact ⟨by rw [if_neg (by intro h; first | exact absurd h.1 (Int32.not_le.mpr c1) | exact absurd h.2 (Int32.not_le.mpr c7))]; rfl, rfl⟩ | exact ⟨by rw [if_pos ⟨Int32.not_lt.mp c1, Int32.not_lt.mp c7⟩]; rfl, rfl⟩
    · refine ev_iconstN 1 dX9_isKey_10 (by decide) ?_
      refine ev_goto 15 dX9_isKey_11 (by decide) ?_
      refine ev_zreturn dX9_isKey_15 rfl (by decide) ?_
      first | exact ⟨by rw [if_neg (by intro h; first | exact absurd h.1 (Int32.not_le.mpr c1) | exact absurd h.2 (Int32.not_le.mpr c7))]; rfl, rfl⟩ | exact ⟨by rw [if_pos ⟨Int32.not_lt.mp c1, Int32.not_lt.mp c7⟩]; rfl, rfl⟩
/-- the entry that the reference's 'seen' finds among the first e -/
def seenN (A : Nat → Nat → Int32) (s v k t : Int32) : Nat → Option Nat
  | 0 => none
  | e + 1 => if A 16 e = s ∧ A 17 e = v ∧ A 18 e = k ∧ A 19 e ≤ t ∧ (∀ b, seenN A s v k t e = some b → A 19 b < A 19 e) then some e else seenN A s v k t e
def oI : Option Nat → Int32
  | none => -1
  | some e => nI e
theorem seenN_lt {s v k t : Int32} : ∀ {e b : Nat}, seenN A s v k t e = some b → b < e
  | 0, b, h => by cases h
  | e + 1, b, h => by
    unfold seenN at h
    split at h
    · cases h; omega
    · have := seenN_lt h; omega

theorem seenN_no {s v k t : Int32} {e : Nat} (h : ¬ (A 16 e = s ∧ A 17 e = v ∧ A 18 e = k ∧ A 19 e ≤ t ∧ (∀ b, seenN A s v k t e = some b → A 19 b < A 19 e))) : seenN A s v k t e = seenN A s v k t (e + 1) := by
  rw [seenN.eq_2, if_neg h]
theorem seenN_yes {s v k t : Int32} {e : Nat} (h : A 16 e = s ∧ A 17 e = v ∧ A 18 e = k ∧ A 19 e ≤ t ∧ (∀ b, seenN A s v k t e = some b → A 19 b < A 19 e)) : some e = seenN A s v k t (e + 1) := by
  rw [seenN.eq_2, if_pos h]
set_option maxRecDepth 100000 in
set_option maxHeartbeats 4000000 in
theorem lp_seen {Q : Option LV → GH → Prop} (hM : MFix K R Ln) {many : Nat} (hm : I 582 11 = nI many) (hb : many ≤ 520) {s v k t : Int32} (hq : Q (some (iV (oI (seenN A s v k t many)))) (K, I, J, R, A, B, Ln, n, sl)) : ∀ (f e : Nat), e + f = many → Ev X mX9_seen d 6 [some (rV (some 11)), some (iV s), some (iV v), some (iV k), some (iV t), some (iV (oI (seenN A s v k t e))), some (iV (nI e))] [] (K, I, J, R, A, B, Ln, n, sl) Q := by
  intro f
  induction f with
  | zero =>
    intro e he
    refine ev_iload dX9_seen_6 rfl ?_
    refine ev_aload_n dX9_seen_8 rfl ?_
    refine ev_getIv dX9_seen_9 fX9_106 hM.m hm ?_
    refine ev_icmp_geN 92 dX9_seen_12 (by decide) (by omega) (by omega) (fun c12 => ?_) (fun c12 => absurd c12 (by omega))
    refine ev_iload dX9_seen_92 rfl ?_
    refine ev_ireturn dX9_seen_94 rfl ?_
    rw [show e = many by omega]; exact hq
  | succ f ih =>
    intro e he
    have kont : ∀ z : Int32, z = oI (seenN A s v k t (e + 1)) → Ev X mX9_seen d 86 [some (rV (some 11)), some (iV s), some (iV v), some (iV k), some (iV t), some (iV z), some (iV (nI e))] [] (K, I, J, R, A, B, Ln, n, sl) Q := by
      intro z hz
      subst hz
      refine ev_iincN (b := 1) _ dX9_seen_86 rfl (by decide) (by decide) rfl ?_
      refine ev_goto 6 dX9_seen_89 (by decide) ?_
      exact ih (e + 1) (by omega)
    cases ho : seenN A s v k t e with
    | none =>
      refine ev_iload dX9_seen_6 rfl ?_
      refine ev_aload_n dX9_seen_8 rfl ?_
      refine ev_getIv dX9_seen_9 fX9_106 hM.m hm ?_
      refine ev_icmp_geN 92 dX9_seen_12 (by decide) (by omega) (by omega) (fun c12 => absurd c12 (by omega)) (fun c12 => ?_)
      refine ev_aload_n dX9_seen_15 rfl ?_
      refine ev_getR dX9_seen_16 fX9_23 hM.m hM.R_space ?_
      refine ev_iload dX9_seen_19 rfl ?_
      refine ev_iald dX9_seen_21 hM.K_space hM.L_space (by decide) (by omega) ?_
      refine ev_iload_n dX9_seen_22 rfl ?_
      refine ev_icmp_ne 86 dX9_seen_23 (by decide) (fun c23 => ?_) (fun c23 => ?_)
      · first | exact kont _ (by rw [← seenN_no (A := A) (s := s) (v := v) (k := k) (t := t) (e := e) (fun h => by obtain ⟨h1, h2, h3, h4, h5⟩ := h; first | exact c23 h1 | exact c34 h2 | exact c45 h3 | exact absurd h4 (Int32.not_le.mpr c57)), ho]) | exact kont _ (by rw [← seenN_yes (A := A) (s := s) (v := v) (k := k) (t := t) (e := e) ⟨c23, c34, c45, Int32.not_lt.mp c57, fun b hb => by rw [ho] at hb; cases hb⟩]; rfl)
      · refine ev_aload_n dX9_seen_26 rfl ?_
        refine ev_getR dX9_seen_27 fX9_26 hM.m hM.R_value ?_
        refine ev_iload dX9_seen_30 rfl ?_
        refine ev_iald dX9_seen_32 hM.K_value hM.L_value (by decide) (by omega) ?_
        refine ev_iload_n dX9_seen_33 rfl ?_
        refine ev_icmp_ne 86 dX9_seen_34 (by decide) (fun c34 => ?_) (fun c34 => ?_)
        · first | exact kont _ (by rw [← seenN_no (A := A) (s := s) (v := v) (k := k) (t := t) (e := e) (fun h => by obtain ⟨h1, h2, h3, h4, h5⟩ := h; first | exact c23 h1 | exact c34 h2 | exact c45 h3 | exact absurd h4 (Int32.not_le.mpr c57)), ho]) | exact kont _ (by rw [← seenN_yes (A := A) (s := s) (v := v) (k := k) (t := t) (e := e) ⟨c23, c34, c45, Int32.not_lt.mp c57, fun b hb => by rw [ho] at hb; cases hb⟩]; rfl)
        · refine ev_aload_n dX9_seen_37 rfl ?_
          refine ev_getR dX9_seen_38 fX9_29 hM.m hM.R_key ?_
          refine ev_iload dX9_seen_41 rfl ?_
          refine ev_iald dX9_seen_43 hM.K_key hM.L_key (by decide) (by omega) ?_
          refine ev_iload_n dX9_seen_44 rfl ?_
          refine ev_icmp_ne 86 dX9_seen_45 (by decide) (fun c45 => ?_) (fun c45 => ?_)
          · first | exact kont _ (by rw [← seenN_no (A := A) (s := s) (v := v) (k := k) (t := t) (e := e) (fun h => by obtain ⟨h1, h2, h3, h4, h5⟩ := h; first | exact c23 h1 | exact c34 h2 | exact c45 h3 | exact absurd h4 (Int32.not_le.mpr c57)), ho]) | exact kont _ (by rw [← seenN_yes (A := A) (s := s) (v := v) (k := k) (t := t) (e := e) ⟨c23, c34, c45, Int32.not_lt.mp c57, fun b hb => by rw [ho] at hb; cases hb⟩]; rfl)
          · refine ev_aload_n dX9_seen_48 rfl ?_
            refine ev_getR dX9_seen_49 fX9_32 hM.m hM.R_stamp ?_
            refine ev_iload dX9_seen_52 rfl ?_
            refine ev_iald dX9_seen_54 hM.K_stamp hM.L_stamp (by decide) (by omega) ?_
            refine ev_iload dX9_seen_55 rfl ?_
            refine ev_icmp_gt 86 dX9_seen_57 (by decide) (fun c57 => ?_) (fun c57 => ?_)
            · first | exact kont _ (by rw [← seenN_no (A := A) (s := s) (v := v) (k := k) (t := t) (e := e) (fun h => by obtain ⟨h1, h2, h3, h4, h5⟩ := h; first | exact c23 h1 | exact c34 h2 | exact c45 h3 | exact absurd h4 (Int32.not_le.mpr c57)), ho]) | exact kont _ (by rw [← seenN_yes (A := A) (s := s) (v := v) (k := k) (t := t) (e := e) ⟨c23, c34, c45, Int32.not_lt.mp c57, fun b hb => by rw [ho] at hb; cases hb⟩]; rfl)
            · refine ev_iload dX9_seen_60 rfl ?_
              refine ev_if_lt 82 dX9_seen_62 (by decide) (fun c62 => ?_) (fun c62 => absurd c62 (by decide))
              refine ev_iload dX9_seen_82 rfl ?_
              refine ev_istore _ dX9_seen_84 (by decide) rfl ?_
              first | exact kont _ (by rw [← seenN_no (A := A) (s := s) (v := v) (k := k) (t := t) (e := e) (fun h => by obtain ⟨h1, h2, h3, h4, h5⟩ := h; first | exact c23 h1 | exact c34 h2 | exact c45 h3 | exact absurd h4 (Int32.not_le.mpr c57)), ho]) | exact kont _ (by rw [← seenN_yes (A := A) (s := s) (v := v) (k := k) (t := t) (e := e) ⟨c23, c34, c45, Int32.not_lt.mp c57, fun b hb => by rw [ho] at hb; cases hb⟩]; rfl)
    | some b0 =>
      have hb0 : b0 < e := seenN_lt ho
      show Ev X mX9_seen d 6 [some (rV (some 11)), some (iV s), some (iV v), some (iV k), some (iV t), some (iV (nI b0)), some (iV (nI e))] [] (K, I, J, R, A, B, Ln, n, sl) Q
      refine ev_iload dX9_seen_6 rfl ?_
      refine ev_aload_n dX9_seen_8 rfl ?_
      refine ev_getIv dX9_seen_9 fX9_106 hM.m hm ?_
      refine ev_icmp_geN 92 dX9_seen_12 (by decide) (by omega) (by omega) (fun c12 => absurd c12 (by omega)) (fun c12 => ?_)
      refine ev_aload_n dX9_seen_15 rfl ?_
      refine ev_getR dX9_seen_16 fX9_23 hM.m hM.R_space ?_
      refine ev_iload dX9_seen_19 rfl ?_
      refine ev_iald dX9_seen_21 hM.K_space hM.L_space (by decide) (by omega) ?_
      refine ev_iload_n dX9_seen_22 rfl ?_
      refine ev_icmp_ne 86 dX9_seen_23 (by decide) (fun c23 => ?_) (fun c23 => ?_)
      · first | exact kont _ (by rw [← seenN_no (A := A) (s := s) (v := v) (k := k) (t := t) (e := e) (fun h => by obtain ⟨h1, h2, h3, h4, h5⟩ := h; first | exact c23 h1 | exact c34 h2 | exact c45 h3 | exact absurd h4 (Int32.not_le.mpr c57) | exact absurd (h5 _ ho) (Int32.not_lt.mpr c79)), ho]; rfl) | exact kont _ (by rw [← seenN_yes (A := A) (s := s) (v := v) (k := k) (t := t) (e := e) ⟨c23, c34, c45, Int32.not_lt.mp c57, fun b hb => by rw [ho] at hb; cases hb; exact Int32.not_le.mp c79⟩]; rfl)
      · refine ev_aload_n dX9_seen_26 rfl ?_
        refine ev_getR dX9_seen_27 fX9_26 hM.m hM.R_value ?_
        refine ev_iload dX9_seen_30 rfl ?_
        refine ev_iald dX9_seen_32 hM.K_value hM.L_value (by decide) (by omega) ?_
        refine ev_iload_n dX9_seen_33 rfl ?_
        refine ev_icmp_ne 86 dX9_seen_34 (by decide) (fun c34 => ?_) (fun c34 => ?_)
        · first | exact kont _ (by rw [← seenN_no (A := A) (s := s) (v := v) (k := k) (t := t) (e := e) (fun h => by obtain ⟨h1, h2, h3, h4, h5⟩ := h; first | exact c23 h1 | exact c34 h2 | exact c45 h3 | exact absurd h4 (Int32.not_le.mpr c57) | exact absurd (h5 _ ho) (Int32.not_lt.mpr c79)), ho]; rfl) | exact kont _ (by rw [← seenN_yes (A := A) (s := s) (v := v) (k := k) (t := t) (e := e) ⟨c23, c34, c45, Int32.not_lt.mp c57, fun b hb => by rw [ho] at hb; cases hb; exact Int32.not_le.mp c79⟩]; rfl)
        · refine ev_aload_n dX9_seen_37 rfl ?_
          refine ev_getR dX9_seen_38 fX9_29 hM.m hM.R_key ?_
          refine ev_iload dX9_seen_41 rfl ?_
          refine ev_iald dX9_seen_43 hM.K_key hM.L_key (by decide) (by omega) ?_
          refine ev_iload_n dX9_seen_44 rfl ?_
          refine ev_icmp_ne 86 dX9_seen_45 (by decide) (fun c45 => ?_) (fun c45 => ?_)
          · first | exact kont _ (by rw [← seenN_no (A := A) (s := s) (v := v) (k := k) (t := t) (e := e) (fun h => by obtain ⟨h1, h2, h3, h4, h5⟩ := h; first | exact c23 h1 | exact c34 h2 | exact c45 h3 | exact absurd h4 (Int32.not_le.mpr c57) | exact absurd (h5 _ ho) (Int32.not_lt.mpr c79)), ho]; rfl) | exact kont _ (by rw [← seenN_yes (A := A) (s := s) (v := v) (k := k) (t := t) (e := e) ⟨c23, c34, c45, Int32.not_lt.mp c57, fun b hb => by rw [ho] at hb; cases hb; exact Int32.not_le.mp c79⟩]; rfl)
          · refine ev_aload_n dX9_seen_48 rfl ?_
            refine ev_getR dX9_seen_49 fX9_32 hM.m hM.R_stamp ?_
            refine ev_iload dX9_seen_52 rfl ?_
            refine ev_iald dX9_seen_54 hM.K_stamp hM.L_stamp (by decide) (by omega) ?_
            refine ev_iload dX9_seen_55 rfl ?_
            refine ev_icmp_gt 86 dX9_seen_57 (by decide) (fun c57 => ?_) (fun c57 => ?_)
            · first | exact kont _ (by rw [← seenN_no (A := A) (s := s) (v := v) (k := k) (t := t) (e := e) (fun h => by obtain ⟨h1, h2, h3, h4, h5⟩ := h; first | exact c23 h1 | exact c34 h2 | exact c45 h3 | exact absurd h4 (Int32.not_le.mpr c57) | exact absurd (h5 _ ho) (Int32.not_lt.mpr c79)), ho]; rfl) | exact kont _ (by rw [← seenN_yes (A := A) (s := s) (v := v) (k := k) (t := t) (e := e) ⟨c23, c34, c45, Int32.not_lt.mp c57, fun b hb => by rw [ho] at hb; cases hb; exact Int32.not_le.mp c79⟩]; rfl)
            · refine ev_iload dX9_seen_60 rfl ?_
              refine ev_if_ltN 82 dX9_seen_62 (by decide) (by omega) ?_
              refine ev_aload_n dX9_seen_65 rfl ?_
              refine ev_getR dX9_seen_66 fX9_32 hM.m hM.R_stamp ?_
              refine ev_iload dX9_seen_69 rfl ?_
              refine ev_iald dX9_seen_71 hM.K_stamp hM.L_stamp (by decide) (by omega) ?_
              refine ev_aload_n dX9_seen_72 rfl ?_
              refine ev_getR dX9_seen_73 fX9_32 hM.m hM.R_stamp ?_
              refine ev_iload dX9_seen_76 rfl ?_
              refine ev_iald dX9_seen_78 hM.K_stamp hM.L_stamp (by decide) (by omega) ?_
              refine ev_icmp_le 86 dX9_seen_79 (by decide) (fun c79 => ?_) (fun c79 => ?_)
              · first | exact kont _ (by rw [← seenN_no (A := A) (s := s) (v := v) (k := k) (t := t) (e := e) (fun h => by obtain ⟨h1, h2, h3, h4, h5⟩ := h; first | exact c23 h1 | exact c34 h2 | exact c45 h3 | exact absurd h4 (Int32.not_le.mpr c57) | exact absurd (h5 _ ho) (Int32.not_lt.mpr c79)), ho]; rfl) | exact kont _ (by rw [← seenN_yes (A := A) (s := s) (v := v) (k := k) (t := t) (e := e) ⟨c23, c34, c45, Int32.not_lt.mp c57, fun b hb => by rw [ho] at hb; cases hb; exact Int32.not_le.mp c79⟩]; rfl)
              · refine ev_iload dX9_seen_82 rfl ?_
                refine ev_istore _ dX9_seen_84 (by decide) rfl ?_
                first | exact kont _ (by rw [← seenN_no (A := A) (s := s) (v := v) (k := k) (t := t) (e := e) (fun h => by obtain ⟨h1, h2, h3, h4, h5⟩ := h; first | exact c23 h1 | exact c34 h2 | exact c45 h3 | exact absurd h4 (Int32.not_le.mpr c57) | exact absurd (h5 _ ho) (Int32.not_lt.mpr c79)), ho]; rfl) | exact kont _ (by rw [← seenN_yes (A := A) (s := s) (v := v) (k := k) (t := t) (e := e) ⟨c23, c34, c45, Int32.not_lt.mp c57, fun b hb => by rw [ho] at hb; cases hb; exact Int32.not_le.mp c79⟩]; rfl)

end M1
