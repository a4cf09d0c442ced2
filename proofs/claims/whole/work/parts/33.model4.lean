section M4
variable {X : CX} {d : Nat} {K : Nat → Nat} {I : Nat → Nat → Int32} {J : Nat → Nat → Int64} {R : Nat → Nat → Option Nat} {A : Nat → Nat → Int32} {B : Nat → Nat → Option Nat} {Ln : Nat → Nat} {n sl : Nat}
set_option maxRecDepth 100000 in
set_option maxHeartbeats 4000000 in
theorem sp_seen (hM : MFix K R Ln) {many : Nat} (hm : I 582 11 = nI many) (hb : many ≤ 520) {s v k t : Int32} : EvM X mX9_seen d [rV (some 11), iV s, iV v, iV k, iV t] (K, I, J, R, A, B, Ln, n, sl) (fun r G' => r = some (iV (oI (seenN A s v k t many))) ∧ G' = (K, I, J, R, A, B, Ln, n, sl)) := by
  show Ev X mX9_seen d 0 [some (rV (some 11)), some (iV s), some (iV v), some (iV k), some (iV t), none, none] [] (K, I, J, R, A, B, Ln, n, sl) _
  refine ev_iconst (-1) dX9_seen_0 (by decide) ?_
  refine ev_istore _ dX9_seen_1 (by decide) rfl ?_
  refine ev_iconstN 0 dX9_seen_3 (by decide) ?_
  refine ev_istore _ dX9_seen_4 (by decide) rfl ?_
  exact lp_seen hM hm hb ⟨rfl, rfl⟩ many 0 (by omega)
/-- the live entry that is seen in space 0 -/
def raN (A : Nat → Nat → Int32) (k t : Int32) (many : Nat) : Option Nat := match seenN A 0 0 k t many with
  | some b => if A 20 b = 0 then none else some b
  | none => none
def rwV (A : Nat → Nat → Int32) (o : Option Nat) (f : Nat) : Int32 := match o with
  | some b => A 21 (3 * b + f)
  | none => 0
theorem raN_lt {A : Nat → Nat → Int32} {k t : Int32} {many b : Nat} (h : raN A k t many = some b) : b < many := by
  unfold raN at h
  split at h
  · next b' hb =>
    split at h
    · cases h
    · cases h
      exact seenN_lt hb
  · cases h
set_option maxRecDepth 100000 in
set_option maxHeartbeats 4000000 in
theorem sp_rowAt (hM : MFix K R Ln) {many : Nat} (hm : I 582 11 = nI many) (hb : many ≤ 520) {k t : Int32} : EvM X mX9_rowAt (d + 1) [rV (some 11), iV k, iV t] (K, I, J, R, A, B, Ln, n, sl) (fun r G' => ∃ A', G' = (K, I, J, R, A', B, Ln, n, sl) ∧ r = some (iV (bZ (raN A k t many).isSome)) ∧ (∀ i, i ≠ 29 → A' i = A i) ∧ ∀ f, f < 3 → A' 29 f = rwV A (raN A k t many) f) := by
  show Ev X mX9_rowAt (d + 1) 0 [some (rV (some 11)), some (iV k), some (iV t), none, none, none] [] (K, I, J, R, A, B, Ln, n, sl) _
  cases ho : seenN A 0 0 k t many with
  | none =>
    refine ev_aload_n dX9_rowAt_0 rfl ?_
    refine ev_iconstN 0 dX9_rowAt_1 (by decide) ?_
    refine ev_iconstN 0 dX9_rowAt_2 (by decide) ?_
    refine ev_iload_n dX9_rowAt_3 rfl ?_
    refine ev_iload_n dX9_rowAt_4 rfl ?_
    refine ev_callV dX9_rowAt_5 okX9_seen inX9_seen seX9_seen mlX9_109 hM.m (by decide) rfl [iV _, iV _, iV _, iV _] rfl rfl (Nat.le_of_ble_eq_true rfl) (Nat.le_of_ble_eq_true rfl) (sp_seen hM hm hb) (fun r_ G_ h_ => ?_)
    obtain ⟨rfl, rfl⟩ := h_
    rw [show nI 0 = (0 : Int32) from rfl, ho]
    try dsimp only [Option.toList, List.cons_append, List.nil_append]
    refine ev_istore_n _ dX9_rowAt_8 (by decide) rfl ?_
    refine ev_iload_n dX9_rowAt_9 rfl ?_
    refine ev_if_lt 26 dX9_rowAt_10 (by decide) (fun c10 => ?_) (fun c10 => absurd c10 (by decide))
    refine ev_iconstN 0 dX9_rowAt_26 (by decide) ?_
    refine ev_istore _ dX9_rowAt_27 (by decide) rfl ?_
    refine ev_iconstN 0 dX9_rowAt_29 (by decide) ?_
    refine ev_istore _ dX9_rowAt_30 (by decide) rfl ?_
    refine ev_iload dX9_rowAt_32 rfl ?_
    refine ev_iconstN 3 dX9_rowAt_34 (by decide) ?_
    refine ev_icmp_geN 71 dX9_rowAt_35 (by decide) (by omega) (by omega) (fun c35 => absurd c35 (by decide)) (fun c35 => ?_)
    refine ev_aload_n dX9_rowAt_38 rfl ?_
    refine ev_getR dX9_rowAt_39 fX9_62 hM.m hM.R_row ?_
    refine ev_iload dX9_rowAt_42 rfl ?_
    refine ev_iload dX9_rowAt_44 rfl ?_
    refine ev_if_eqN 63 dX9_rowAt_46 (by decide) (by omega) (fun c46 => ?_) (fun c46 => absurd c46 (by decide))
    refine ev_iconstN 0 dX9_rowAt_63 (by decide) ?_
    refine ev_iast dX9_rowAt_64 hM.K_row hM.L_row (by decide) (by omega) ?_
    refine ev_iincN (b := 1) _ dX9_rowAt_65 rfl (by decide) (by decide) rfl ?_
    refine ev_goto 32 dX9_rowAt_68 (by decide) ?_
    refine ev_iload dX9_rowAt_32 rfl ?_
    refine ev_iconstN 3 dX9_rowAt_34 (by decide) ?_
    refine ev_icmp_geN 71 dX9_rowAt_35 (by decide) (by omega) (by omega) (fun c35 => absurd c35 (by decide)) (fun c35 => ?_)
    refine ev_aload_n dX9_rowAt_38 rfl ?_
    refine ev_getR dX9_rowAt_39 fX9_62 hM.m hM.R_row ?_
    refine ev_iload dX9_rowAt_42 rfl ?_
    refine ev_iload dX9_rowAt_44 rfl ?_
    refine ev_if_eqN 63 dX9_rowAt_46 (by decide) (by omega) (fun c46 => ?_) (fun c46 => absurd c46 (by decide))
    refine ev_iconstN 0 dX9_rowAt_63 (by decide) ?_
    refine ev_iast dX9_rowAt_64 hM.K_row hM.L_row (by decide) (by omega) ?_
    refine ev_iincN (b := 1) _ dX9_rowAt_65 rfl (by decide) (by decide) rfl ?_
    refine ev_goto 32 dX9_rowAt_68 (by decide) ?_
    refine ev_iload dX9_rowAt_32 rfl ?_
    refine ev_iconstN 3 dX9_rowAt_34 (by decide) ?_
    refine ev_icmp_geN 71 dX9_rowAt_35 (by decide) (by omega) (by omega) (fun c35 => absurd c35 (by decide)) (fun c35 => ?_)
    refine ev_aload_n dX9_rowAt_38 rfl ?_
    refine ev_getR dX9_rowAt_39 fX9_62 hM.m hM.R_row ?_
    refine ev_iload dX9_rowAt_42 rfl ?_
    refine ev_iload dX9_rowAt_44 rfl ?_
    refine ev_if_eqN 63 dX9_rowAt_46 (by decide) (by omega) (fun c46 => ?_) (fun c46 => absurd c46 (by decide))
    refine ev_iconstN 0 dX9_rowAt_63 (by decide) ?_
    refine ev_iast dX9_rowAt_64 hM.K_row hM.L_row (by decide) (by omega) ?_
    refine ev_iincN (b := 1) _ dX9_rowAt_65 rfl (by decide) (by decide) rfl ?_
    refine ev_goto 32 dX9_rowAt_68 (by decide) ?_
    refine ev_iload dX9_rowAt_32 rfl ?_
    refine ev_iconstN 3 dX9_rowAt_34 (by decide) ?_
    refine ev_icmp_geN 71 dX9_rowAt_35 (by decide) (by omega) (by omega) (fun c35 => ?_) (fun c35 => absurd c35 (by decide))
    refine ev_iload dX9_rowAt_71 rfl ?_
    refine ev_zreturn dX9_rowAt_73 rfl (by decide) ?_
    refine ⟨_, rfl, by first | (simp [raN, bZ, *]; done) | (simp [raN, bZ, *]; rfl), fun i hi => by simp only [u2_row' hi], fun f hf => ?_⟩
    rcases (show f = 0 ∨ f = 1 ∨ f = 2 by omega) with rfl | rfl | rfl <;> simp [raN, rwV, u2, *] <;> rfl
  | some b0 =>
    have hb0 := seenN_lt ho
    refine ev_aload_n dX9_rowAt_0 rfl ?_
    refine ev_iconstN 0 dX9_rowAt_1 (by decide) ?_
    refine ev_iconstN 0 dX9_rowAt_2 (by decide) ?_
    refine ev_iload_n dX9_rowAt_3 rfl ?_
    refine ev_iload_n dX9_rowAt_4 rfl ?_
    refine ev_callV dX9_rowAt_5 okX9_seen inX9_seen seX9_seen mlX9_109 hM.m (by decide) rfl [iV _, iV _, iV _, iV _] rfl rfl (Nat.le_of_ble_eq_true rfl) (Nat.le_of_ble_eq_true rfl) (sp_seen hM hm hb) (fun r_ G_ h_ => ?_)
    obtain ⟨rfl, rfl⟩ := h_
    rw [show nI 0 = (0 : Int32) from rfl, ho]
    show Ev _ _ _ _ _ [iV (nI b0)] _ _
    try dsimp only [Option.toList, List.cons_append, List.nil_append]
    refine ev_istore_n _ dX9_rowAt_8 (by decide) rfl ?_
    refine ev_iload_n dX9_rowAt_9 rfl ?_
    refine ev_if_ltN 26 dX9_rowAt_10 (by decide) (by omega) ?_
    refine ev_aload_n dX9_rowAt_13 rfl ?_
    refine ev_getR dX9_rowAt_14 fX9_35 hM.m hM.R_live ?_
    refine ev_iload_n dX9_rowAt_17 rfl ?_
    refine ev_zald dX9_rowAt_18 hM.K_live hM.L_live (by decide) (by omega) ?_
    refine ev_if_eq 26 dX9_rowAt_19 (by decide) (fun c19 => ?_) (fun c19 => ?_)
    · refine ev_iconstN 0 dX9_rowAt_26 (by decide) ?_
      refine ev_istore _ dX9_rowAt_27 (by decide) rfl ?_
      refine ev_iconstN 0 dX9_rowAt_29 (by decide) ?_
      refine ev_istore _ dX9_rowAt_30 (by decide) rfl ?_
      refine ev_iload dX9_rowAt_32 rfl ?_
      refine ev_iconstN 3 dX9_rowAt_34 (by decide) ?_
      refine ev_icmp_geN 71 dX9_rowAt_35 (by decide) (by omega) (by omega) (fun c35 => absurd c35 (by decide)) (fun c35 => ?_)
      refine ev_aload_n dX9_rowAt_38 rfl ?_
      refine ev_getR dX9_rowAt_39 fX9_62 hM.m hM.R_row ?_
      refine ev_iload dX9_rowAt_42 rfl ?_
      refine ev_iload dX9_rowAt_44 rfl ?_
      refine ev_if_eqN 63 dX9_rowAt_46 (by decide) (by omega) (fun c46 => ?_) (fun c46 => absurd c46 (by decide))
      refine ev_iconstN 0 dX9_rowAt_63 (by decide) ?_
      refine ev_iast dX9_rowAt_64 hM.K_row hM.L_row (by decide) (by omega) ?_
      refine ev_iincN (b := 1) _ dX9_rowAt_65 rfl (by decide) (by decide) rfl ?_
      refine ev_goto 32 dX9_rowAt_68 (by decide) ?_
      refine ev_iload dX9_rowAt_32 rfl ?_
      refine ev_iconstN 3 dX9_rowAt_34 (by decide) ?_
      refine ev_icmp_geN 71 dX9_rowAt_35 (by decide) (by omega) (by omega) (fun c35 => absurd c35 (by decide)) (fun c35 => ?_)
      refine ev_aload_n dX9_rowAt_38 rfl ?_
      refine ev_getR dX9_rowAt_39 fX9_62 hM.m hM.R_row ?_
      refine ev_iload dX9_rowAt_42 rfl ?_
      refine ev_iload dX9_rowAt_44 rfl ?_
      refine ev_if_eqN 63 dX9_rowAt_46 (by decide) (by omega) (fun c46 => ?_) (fun c46 => absurd c46 (by decide))
      refine ev_iconstN 0 dX9_rowAt_63 (by decide) ?_
      refine ev_iast dX9_rowAt_64 hM.K_row hM.L_row (by decide) (by omega) ?_
      refine ev_iincN (b := 1) _ dX9_rowAt_65 rfl (by decide) (by decide) rfl ?_
      refine ev_goto 32 dX9_rowAt_68 (by decide) ?_
      refine ev_iload dX9_rowAt_32 rfl ?_
      refine ev_iconstN 3 dX9_rowAt_34 (by decide) ?_
      refine ev_icmp_geN 71 dX9_rowAt_35 (by decide) (by omega) (by omega) (fun c35 => absurd c35 (by decide)) (fun c35 => ?_)
      refine ev_aload_n dX9_rowAt_38 rfl ?_
      refine ev_getR dX9_rowAt_39 fX9_62 hM.m hM.R_row ?_
      refine ev_iload dX9_rowAt_42 rfl ?_
      refine ev_iload dX9_rowAt_44 rfl ?_
      refine ev_if_eqN 63 dX9_rowAt_46 (by decide) (by omega) (fun c46 => ?_) (fun c46 => absurd c46 (by decide))
      refine ev_iconstN 0 dX9_rowAt_63 (by decide) ?_
      refine ev_iast dX9_rowAt_64 hM.K_row hM.L_row (by decide) (by omega) ?_
      refine ev_iincN (b := 1) _ dX9_rowAt_65 rfl (by decide) (by decide) rfl ?_
      refine ev_goto 32 dX9_rowAt_68 (by decide) ?_
      refine ev_iload dX9_rowAt_32 rfl ?_
      refine ev_iconstN 3 dX9_rowAt_34 (by decide) ?_
      refine ev_icmp_geN 71 dX9_rowAt_35 (by decide) (by omega) (by omega) (fun c35 => ?_) (fun c35 => absurd c35 (by decide))
      refine ev_iload dX9_rowAt_71 rfl ?_
      refine ev_zreturn dX9_rowAt_73 rfl (by decide) ?_
      refine ⟨_, rfl, by first | (simp [raN, bZ, *]; done) | (simp [raN, bZ, *]; rfl), fun i hi => by simp only [u2_row' hi], fun f hf => ?_⟩
      rcases (show f = 0 ∨ f = 1 ∨ f = 2 by omega) with rfl | rfl | rfl <;> simp [raN, rwV, u2, *] <;> rfl
    · refine ev_iconstN 1 dX9_rowAt_22 (by decide) ?_
      refine ev_goto 27 dX9_rowAt_23 (by decide) ?_
      refine ev_istore _ dX9_rowAt_27 (by decide) rfl ?_
      refine ev_iconstN 0 dX9_rowAt_29 (by decide) ?_
      refine ev_istore _ dX9_rowAt_30 (by decide) rfl ?_
      refine ev_iload dX9_rowAt_32 rfl ?_
      refine ev_iconstN 3 dX9_rowAt_34 (by decide) ?_
      refine ev_icmp_geN 71 dX9_rowAt_35 (by decide) (by omega) (by omega) (fun c35 => absurd c35 (by decide)) (fun c35 => ?_)
      refine ev_aload_n dX9_rowAt_38 rfl ?_
      refine ev_getR dX9_rowAt_39 fX9_62 hM.m hM.R_row ?_
      refine ev_iload dX9_rowAt_42 rfl ?_
      refine ev_iload dX9_rowAt_44 rfl ?_
      refine ev_if_eqN 63 dX9_rowAt_46 (by decide) (by omega) (fun c46 => absurd c46 (by decide)) (fun c46 => ?_)
      refine ev_aload_n dX9_rowAt_49 rfl ?_
      refine ev_getR dX9_rowAt_50 fX9_38 hM.m hM.R_fields ?_
      refine ev_iconstN 3 dX9_rowAt_53 (by decide) ?_
      refine ev_iload_n dX9_rowAt_54 rfl ?_
      refine ev_imulN dX9_rowAt_55 ?_
      refine ev_iload dX9_rowAt_56 rfl ?_
      refine ev_iaddN dX9_rowAt_58 ?_
      refine ev_iald dX9_rowAt_59 hM.K_fields hM.L_fields (by decide) (by omega) ?_
      refine ev_goto 64 dX9_rowAt_60 (by decide) ?_
      refine ev_iast dX9_rowAt_64 hM.K_row hM.L_row (by decide) (by omega) ?_
      refine ev_iincN (b := 1) _ dX9_rowAt_65 rfl (by decide) (by decide) rfl ?_
      refine ev_goto 32 dX9_rowAt_68 (by decide) ?_
      refine ev_iload dX9_rowAt_32 rfl ?_
      refine ev_iconstN 3 dX9_rowAt_34 (by decide) ?_
      refine ev_icmp_geN 71 dX9_rowAt_35 (by decide) (by omega) (by omega) (fun c35 => absurd c35 (by decide)) (fun c35 => ?_)
      refine ev_aload_n dX9_rowAt_38 rfl ?_
      refine ev_getR dX9_rowAt_39 fX9_62 hM.m hM.R_row ?_
      refine ev_iload dX9_rowAt_42 rfl ?_
      refine ev_iload dX9_rowAt_44 rfl ?_
      refine ev_if_eqN 63 dX9_rowAt_46 (by decide) (by omega) (fun c46 => absurd c46 (by decide)) (fun c46 => ?_)
      refine ev_aload_n dX9_rowAt_49 rfl ?_
      refine ev_getR dX9_rowAt_50 fX9_38 hM.m hM.R_fields ?_
      refine ev_iconstN 3 dX9_rowAt_53 (by decide) ?_
      refine ev_iload_n dX9_rowAt_54 rfl ?_
      refine ev_imulN dX9_rowAt_55 ?_
      refine ev_iload dX9_rowAt_56 rfl ?_
      refine ev_iaddN dX9_rowAt_58 ?_
      refine ev_iald dX9_rowAt_59 hM.K_fields hM.L_fields (by decide) (by omega) ?_
      refine ev_goto 64 dX9_rowAt_60 (by decide) ?_
      refine ev_iast dX9_rowAt_64 hM.K_row hM.L_row (by decide) (by omega) ?_
      refine ev_iincN (b := 1) _ dX9_rowAt_65 rfl (by decide) (by decide) rfl ?_
      refine ev_goto 32 dX9_rowAt_68 (by decide) ?_
      refine ev_iload dX9_rowAt_32 rfl ?_
      refine ev_iconstN 3 dX9_rowAt_34 (by decide) ?_
      refine ev_icmp_geN 71 dX9_rowAt_35 (by decide) (by omega) (by omega) (fun c35 => absurd c35 (by decide)) (fun c35 => ?_)
      refine ev_aload_n dX9_rowAt_38 rfl ?_
      refine ev_getR dX9_rowAt_39 fX9_62 hM.m hM.R_row ?_
      refine ev_iload dX9_rowAt_42 rfl ?_
      refine ev_iload dX9_rowAt_44 rfl ?_
      refine ev_if_eqN 63 dX9_rowAt_46 (by decide) (by omega) (fun c46 => absurd c46 (by decide)) (fun c46 => ?_)
      refine ev_aload_n dX9_rowAt_49 rfl ?_
      refine ev_getR dX9_rowAt_50 fX9_38 hM.m hM.R_fields ?_
      refine ev_iconstN 3 dX9_rowAt_53 (by decide) ?_
      refine ev_iload_n dX9_rowAt_54 rfl ?_
      refine ev_imulN dX9_rowAt_55 ?_
      refine ev_iload dX9_rowAt_56 rfl ?_
      refine ev_iaddN dX9_rowAt_58 ?_
      refine ev_iald dX9_rowAt_59 hM.K_fields hM.L_fields (by decide) (by omega) ?_
      refine ev_goto 64 dX9_rowAt_60 (by decide) ?_
      refine ev_iast dX9_rowAt_64 hM.K_row hM.L_row (by decide) (by omega) ?_
      refine ev_iincN (b := 1) _ dX9_rowAt_65 rfl (by decide) (by decide) rfl ?_
      refine ev_goto 32 dX9_rowAt_68 (by decide) ?_
      refine ev_iload dX9_rowAt_32 rfl ?_
      refine ev_iconstN 3 dX9_rowAt_34 (by decide) ?_
      refine ev_icmp_geN 71 dX9_rowAt_35 (by decide) (by omega) (by omega) (fun c35 => ?_) (fun c35 => absurd c35 (by decide))
      refine ev_iload dX9_rowAt_71 rfl ?_
      refine ev_zreturn dX9_rowAt_73 rfl (by decide) ?_
      refine ⟨_, rfl, by first | (simp [raN, bZ, *]; done) | (simp [raN, bZ, *]; rfl), fun i hi => by simp only [u2_row' hi], fun f hf => ?_⟩
      rcases (show f = 0 ∨ f = 1 ∨ f = 2 by omega) with rfl | rfl | rfl <;> simp [raN, rwV, u2, *] <;> rfl
def rfO (A : Nat → Nat → Int32) (t k many : Nat) : Bool := if A 27 (32 * t + k) = 0 then (raN A (nI k) (A 26 t) many).isSome else decide (A 27 (32 * t + k) = 1)
def rfV (A : Nat → Nat → Int32) (t k many f : Nat) : Int32 := if A 27 (32 * t + k) = 0 then rwV A (raN A (nI k) (A 26 t) many) f else if A 27 (32 * t + k) = 1 then A 28 (3 * (32 * t + k) + f) else 0
set_option maxRecDepth 100000 in
set_option maxHeartbeats 4000000 in
theorem sp_rowFor (hM : MFix K R Ln) {many : Nat} (hm : I 582 11 = nI many) (hb : many ≤ 520) {t k : Nat} (ht : t < 60) (hk : k < 32) : EvM X mX9_rowFor (d + 2) [rV (some 11), iV (nI t), iV (nI k)] (K, I, J, R, A, B, Ln, n, sl) (fun r G' => ∃ A', G' = (K, I, J, R, A', B, Ln, n, sl) ∧ r = some (iV (bZ (rfO A t k many))) ∧ (∀ i, i ≠ 29 → A' i = A i) ∧ ∀ f, f < 3 → A' 29 f = rfV A t k many f) := by
  show Ev X mX9_rowFor (d + 2) 0 [some (rV (some 11)), some (iV (nI t)), some (iV (nI k)), none, none] [] (K, I, J, R, A, B, Ln, n, sl) _
  by_cases h0 : A 27 (32 * t + k) = 0
  · refine ev_aload_n dX9_rowFor_0 rfl ?_
    refine ev_getR dX9_rowFor_1 fX9_56 hM.m hM.R_writes ?_
    refine ev_bipushN 32 dX9_rowFor_4 (by decide) ?_
    refine ev_iload_n dX9_rowFor_6 rfl ?_
    refine ev_imulN dX9_rowFor_7 ?_
    refine ev_iload_n dX9_rowFor_8 rfl ?_
    refine ev_iaddN dX9_rowFor_9 ?_
    refine ev_iald dX9_rowFor_10 hM.K_writes hM.L_writes (by decide) (by omega) ?_
    refine ev_istore_n _ dX9_rowFor_11 (by decide) rfl ?_
    refine ev_iload_n dX9_rowFor_12 rfl ?_
    refine ev_if_ne 28 dX9_rowFor_13 (by decide) (fun c13 => absurd c13 (fun z => z h0)) (fun c13 => ?_)
    refine ev_aload_n dX9_rowFor_16 rfl ?_
    refine ev_iload_n dX9_rowFor_17 rfl ?_
    refine ev_aload_n dX9_rowFor_18 rfl ?_
    refine ev_getR dX9_rowFor_19 fX9_53 hM.m hM.R_began ?_
    refine ev_iload_n dX9_rowFor_22 rfl ?_
    refine ev_iald dX9_rowFor_23 hM.K_began hM.L_began (by decide) (by omega) ?_
    refine ev_callV dX9_rowFor_24 okX9_rowAt inX9_rowAt seX9_rowAt mlX9_113 hM.m (by decide) rfl [iV _, iV _] rfl rfl (Nat.le_of_ble_eq_true rfl) (Nat.le_of_ble_eq_true rfl) (sp_rowAt hM hm hb) (fun r_ G_ h_ => ?_)
    obtain ⟨A1, rfl, rfl, hA1, hr1⟩ := h_
    try dsimp only [Option.toList, List.cons_append, List.nil_append]
    refine ev_zreturn dX9_rowFor_27 rfl (bZ_01 _) ?_
    refine ⟨A1, rfl, by simp [rfO, h0], hA1, fun f hf => by rw [hr1 f hf]; simp [rfV, h0]⟩
  · by_cases h1 : A 27 (32 * t + k) = 1
    · refine ev_aload_n dX9_rowFor_0 rfl ?_
      refine ev_getR dX9_rowFor_1 fX9_56 hM.m hM.R_writes ?_
      refine ev_bipushN 32 dX9_rowFor_4 (by decide) ?_
      refine ev_iload_n dX9_rowFor_6 rfl ?_
      refine ev_imulN dX9_rowFor_7 ?_
      refine ev_iload_n dX9_rowFor_8 rfl ?_
      refine ev_iaddN dX9_rowFor_9 ?_
      refine ev_iald dX9_rowFor_10 hM.K_writes hM.L_writes (by decide) (by omega) ?_
      refine ev_istore_n _ dX9_rowFor_11 (by decide) rfl ?_
      refine ev_iload_n dX9_rowFor_12 rfl ?_
      refine ev_if_ne 28 dX9_rowFor_13 (by decide) (fun c13 => ?_) (fun c13 => absurd c13 h0)
      refine ev_iconstN 0 dX9_rowFor_28 (by decide) ?_
      refine ev_istore _ dX9_rowFor_29 (by decide) rfl ?_
      refine ev_iload dX9_rowFor_31 rfl ?_
      refine ev_iconstN 3 dX9_rowFor_33 (by decide) ?_
      refine ev_icmp_geN 75 dX9_rowFor_34 (by decide) (by omega) (by omega) (fun c34 => absurd c34 (by decide)) (fun c34 => ?_)
      refine ev_aload_n dX9_rowFor_37 rfl ?_
      refine ev_getR dX9_rowFor_38 fX9_62 hM.m hM.R_row ?_
      refine ev_iload dX9_rowFor_41 rfl ?_
      refine ev_iload_n dX9_rowFor_43 rfl ?_
      refine ev_iconstN 1 dX9_rowFor_44 (by decide) ?_
      refine ev_icmp_ne (y := 1) 67 dX9_rowFor_45 (by decide) (fun c45 => absurd c45 (fun z => z h1)) (fun c45 => ?_)
      refine ev_aload_n dX9_rowFor_48 rfl ?_
      refine ev_getR dX9_rowFor_49 fX9_59 hM.m hM.R_rows ?_
      refine ev_iconstN 3 dX9_rowFor_52 (by decide) ?_
      refine ev_bipushN 32 dX9_rowFor_53 (by decide) ?_
      refine ev_iload_n dX9_rowFor_55 rfl ?_
      refine ev_imulN dX9_rowFor_56 ?_
      refine ev_iload_n dX9_rowFor_57 rfl ?_
      refine ev_iaddN dX9_rowFor_58 ?_
      refine ev_imulN dX9_rowFor_59 ?_
      refine ev_iload dX9_rowFor_60 rfl ?_
      refine ev_iaddN dX9_rowFor_62 ?_
      refine ev_iald dX9_rowFor_63 hM.K_rows hM.L_rows (by decide) (by omega) ?_
      refine ev_goto 68 dX9_rowFor_64 (by decide) ?_
      refine ev_iast dX9_rowFor_68 hM.K_row hM.L_row (by decide) (by omega) ?_
      refine ev_iincN (b := 1) _ dX9_rowFor_69 rfl (by decide) (by decide) rfl ?_
      refine ev_goto 31 dX9_rowFor_72 (by decide) ?_
      refine ev_iload dX9_rowFor_31 rfl ?_
      refine ev_iconstN 3 dX9_rowFor_33 (by decide) ?_
      refine ev_icmp_geN 75 dX9_rowFor_34 (by decide) (by omega) (by omega) (fun c34 => absurd c34 (by decide)) (fun c34 => ?_)
      refine ev_aload_n dX9_rowFor_37 rfl ?_
      refine ev_getR dX9_rowFor_38 fX9_62 hM.m hM.R_row ?_
      refine ev_iload dX9_rowFor_41 rfl ?_
      refine ev_iload_n dX9_rowFor_43 rfl ?_
      refine ev_iconstN 1 dX9_rowFor_44 (by decide) ?_
      refine ev_icmp_ne (y := 1) 67 dX9_rowFor_45 (by decide) (fun c45 => absurd c45 (fun z => z h1)) (fun c45 => ?_)
      refine ev_aload_n dX9_rowFor_48 rfl ?_
      refine ev_getR dX9_rowFor_49 fX9_59 hM.m hM.R_rows ?_
      refine ev_iconstN 3 dX9_rowFor_52 (by decide) ?_
      refine ev_bipushN 32 dX9_rowFor_53 (by decide) ?_
      refine ev_iload_n dX9_rowFor_55 rfl ?_
      refine ev_imulN dX9_rowFor_56 ?_
      refine ev_iload_n dX9_rowFor_57 rfl ?_
      refine ev_iaddN dX9_rowFor_58 ?_
      refine ev_imulN dX9_rowFor_59 ?_
      refine ev_iload dX9_rowFor_60 rfl ?_
      refine ev_iaddN dX9_rowFor_62 ?_
      refine ev_iald dX9_rowFor_63 hM.K_rows hM.L_rows (by decide) (by omega) ?_
      refine ev_goto 68 dX9_rowFor_64 (by decide) ?_
      refine ev_iast dX9_rowFor_68 hM.K_row hM.L_row (by decide) (by omega) ?_
      refine ev_iincN (b := 1) _ dX9_rowFor_69 rfl (by decide) (by decide) rfl ?_
      refine ev_goto 31 dX9_rowFor_72 (by decide) ?_
      refine ev_iload dX9_rowFor_31 rfl ?_
      refine ev_iconstN 3 dX9_rowFor_33 (by decide) ?_
      refine ev_icmp_geN 75 dX9_rowFor_34 (by decide) (by omega) (by omega) (fun c34 => absurd c34 (by decide)) (fun c34 => ?_)
      refine ev_aload_n dX9_rowFor_37 rfl ?_
      refine ev_getR dX9_rowFor_38 fX9_62 hM.m hM.R_row ?_
      refine ev_iload dX9_rowFor_41 rfl ?_
      refine ev_iload_n dX9_rowFor_43 rfl ?_
      refine ev_iconstN 1 dX9_rowFor_44 (by decide) ?_
      refine ev_icmp_ne (y := 1) 67 dX9_rowFor_45 (by decide) (fun c45 => absurd c45 (fun z => z h1)) (fun c45 => ?_)
      refine ev_aload_n dX9_rowFor_48 rfl ?_
      refine ev_getR dX9_rowFor_49 fX9_59 hM.m hM.R_rows ?_
      refine ev_iconstN 3 dX9_rowFor_52 (by decide) ?_
      refine ev_bipushN 32 dX9_rowFor_53 (by decide) ?_
      refine ev_iload_n dX9_rowFor_55 rfl ?_
      refine ev_imulN dX9_rowFor_56 ?_
      refine ev_iload_n dX9_rowFor_57 rfl ?_
      refine ev_iaddN dX9_rowFor_58 ?_
      refine ev_imulN dX9_rowFor_59 ?_
      refine ev_iload dX9_rowFor_60 rfl ?_
      refine ev_iaddN dX9_rowFor_62 ?_
      refine ev_iald dX9_rowFor_63 hM.K_rows hM.L_rows (by decide) (by omega) ?_
      refine ev_goto 68 dX9_rowFor_64 (by decide) ?_
      refine ev_iast dX9_rowFor_68 hM.K_row hM.L_row (by decide) (by omega) ?_
      refine ev_iincN (b := 1) _ dX9_rowFor_69 rfl (by decide) (by decide) rfl ?_
      refine ev_goto 31 dX9_rowFor_72 (by decide) ?_
      refine ev_iload dX9_rowFor_31 rfl ?_
      refine ev_iconstN 3 dX9_rowFor_33 (by decide) ?_
      refine ev_icmp_geN 75 dX9_rowFor_34 (by decide) (by omega) (by omega) (fun c34 => ?_) (fun c34 => absurd c34 (by decide))
      refine ev_iload_n dX9_rowFor_75 rfl ?_
      refine ev_iconstN 1 dX9_rowFor_76 (by decide) ?_
      refine ev_icmp_ne (y := 1) 84 dX9_rowFor_77 (by decide) (fun c77 => absurd c77 (fun z => z h1)) (fun c77 => ?_)
      refine ev_iconstN 1 dX9_rowFor_80 (by decide) ?_
      refine ev_goto 85 dX9_rowFor_81 (by decide) ?_
      refine ev_zreturn dX9_rowFor_85 rfl (by decide) ?_
      refine ⟨_, rfl, by first | (simp [rfO, bZ, h0, h1]; done) | (simp [rfO, bZ, h0, h1]; rfl), fun i hi => by simp only [u2_row' hi], fun f hf => ?_⟩
      rcases (show f = 0 ∨ f = 1 ∨ f = 2 by omega) with rfl | rfl | rfl <;> simp [rfV, u2, h0, h1] <;> rfl
    · refine ev_aload_n dX9_rowFor_0 rfl ?_
      refine ev_getR dX9_rowFor_1 fX9_56 hM.m hM.R_writes ?_
      refine ev_bipushN 32 dX9_rowFor_4 (by decide) ?_
      refine ev_iload_n dX9_rowFor_6 rfl ?_
      refine ev_imulN dX9_rowFor_7 ?_
      refine ev_iload_n dX9_rowFor_8 rfl ?_
      refine ev_iaddN dX9_rowFor_9 ?_
      refine ev_iald dX9_rowFor_10 hM.K_writes hM.L_writes (by decide) (by omega) ?_
      refine ev_istore_n _ dX9_rowFor_11 (by decide) rfl ?_
      refine ev_iload_n dX9_rowFor_12 rfl ?_
      refine ev_if_ne 28 dX9_rowFor_13 (by decide) (fun c13 => ?_) (fun c13 => absurd c13 h0)
      refine ev_iconstN 0 dX9_rowFor_28 (by decide) ?_
      refine ev_istore _ dX9_rowFor_29 (by decide) rfl ?_
      refine ev_iload dX9_rowFor_31 rfl ?_
      refine ev_iconstN 3 dX9_rowFor_33 (by decide) ?_
      refine ev_icmp_geN 75 dX9_rowFor_34 (by decide) (by omega) (by omega) (fun c34 => absurd c34 (by decide)) (fun c34 => ?_)
      refine ev_aload_n dX9_rowFor_37 rfl ?_
      refine ev_getR dX9_rowFor_38 fX9_62 hM.m hM.R_row ?_
      refine ev_iload dX9_rowFor_41 rfl ?_
      refine ev_iload_n dX9_rowFor_43 rfl ?_
      refine ev_iconstN 1 dX9_rowFor_44 (by decide) ?_
      refine ev_icmp_ne (y := 1) 67 dX9_rowFor_45 (by decide) (fun c45 => ?_) (fun c45 => absurd c45 h1)
      refine ev_iconstN 0 dX9_rowFor_67 (by decide) ?_
      refine ev_iast dX9_rowFor_68 hM.K_row hM.L_row (by decide) (by omega) ?_
      refine ev_iincN (b := 1) _ dX9_rowFor_69 rfl (by decide) (by decide) rfl ?_
      refine ev_goto 31 dX9_rowFor_72 (by decide) ?_
      refine ev_iload dX9_rowFor_31 rfl ?_
      refine ev_iconstN 3 dX9_rowFor_33 (by decide) ?_
      refine ev_icmp_geN 75 dX9_rowFor_34 (by decide) (by omega) (by omega) (fun c34 => absurd c34 (by decide)) (fun c34 => ?_)
      refine ev_aload_n dX9_rowFor_37 rfl ?_
      refine ev_getR dX9_rowFor_38 fX9_62 hM.m hM.R_row ?_
      refine ev_iload dX9_rowFor_41 rfl ?_
      refine ev_iload_n dX9_rowFor_43 rfl ?_
      refine ev_iconstN 1 dX9_rowFor_44 (by decide) ?_
      refine ev_icmp_ne (y := 1) 67 dX9_rowFor_45 (by decide) (fun c45 => ?_) (fun c45 => absurd c45 h1)
      refine ev_iconstN 0 dX9_rowFor_67 (by decide) ?_
      refine ev_iast dX9_rowFor_68 hM.K_row hM.L_row (by decide) (by omega) ?_
      refine ev_iincN (b := 1) _ dX9_rowFor_69 rfl (by decide) (by decide) rfl ?_
      refine ev_goto 31 dX9_rowFor_72 (by decide) ?_
      refine ev_iload dX9_rowFor_31 rfl ?_
      refine ev_iconstN 3 dX9_rowFor_33 (by decide) ?_
      refine ev_icmp_geN 75 dX9_rowFor_34 (by decide) (by omega) (by omega) (fun c34 => absurd c34 (by decide)) (fun c34 => ?_)
      refine ev_aload_n dX9_rowFor_37 rfl ?_
      refine ev_getR dX9_rowFor_38 fX9_62 hM.m hM.R_row ?_
      refine ev_iload dX9_rowFor_41 rfl ?_
      refine ev_iload_n dX9_rowFor_43 rfl ?_
      refine ev_iconstN 1 dX9_rowFor_44 (by decide) ?_
      refine ev_icmp_ne (y := 1) 67 dX9_rowFor_45 (by decide) (fun c45 => ?_) (fun c45 => absurd c45 h1)
      refine ev_iconstN 0 dX9_rowFor_67 (by decide) ?_
      refine ev_iast dX9_rowFor_68 hM.K_row hM.L_row (by decide) (by omega) ?_
      refine ev_iincN (b := 1) _ dX9_rowFor_69 rfl (by decide) (by decide) rfl ?_
      refine ev_goto 31 dX9_rowFor_72 (by decide) ?_
      refine ev_iload dX9_rowFor_31 rfl ?_
      refine ev_iconstN 3 dX9_rowFor_33 (by decide) ?_
      refine ev_icmp_geN 75 dX9_rowFor_34 (by decide) (by omega) (by omega) (fun c34 => ?_) (fun c34 => absurd c34 (by decide))
      refine ev_iload_n dX9_rowFor_75 rfl ?_
      refine ev_iconstN 1 dX9_rowFor_76 (by decide) ?_
      refine ev_icmp_ne (y := 1) 84 dX9_rowFor_77 (by decide) (fun c77 => ?_) (fun c77 => absurd c77 h1)
      refine ev_iconstN 0 dX9_rowFor_84 (by decide) ?_
      refine ev_zreturn dX9_rowFor_85 rfl (by decide) ?_
      refine ⟨_, rfl, by first | (simp [rfO, bZ, h0, h1]; done) | (simp [rfO, bZ, h0, h1]; rfl), fun i hi => by simp only [u2_row' hi], fun f hf => ?_⟩
      rcases (show f = 0 ∨ f = 1 ∨ f = 2 by omega) with rfl | rfl | rfl <;> simp [rfV, u2, h0, h1] <;> rfl
def endN (A : Nat → Nat → Int32) (x : Int32) (fst : Bool) : Nat → Option Nat
  | 0 => none
  | e + 1 => if A 22 e = x ∧ (∀ b, endN A x fst e = some b → bfB (A 16) (A 17) (A 18) (A 19) e b = fst) then some e else endN A x fst e
theorem endN_lt {x : Int32} {fst : Bool} : ∀ {e b : Nat}, endN A x fst e = some b → b < e
  | 0, b, h => by cases h
  | e + 1, b, h => by
    unfold endN at h
    split at h
    · cases h; omega
    · have := endN_lt h; omega
theorem bZ_eq {a b : Bool} : bZ a = bZ b ↔ a = b := by cases a <;> cases b <;> simp [bZ]
theorem endN_no {x : Int32} {fst : Bool} {e : Nat} (h : ¬ (A 22 e = x ∧ (∀ b, endN A x fst e = some b → bfB (A 16) (A 17) (A 18) (A 19) e b = fst))) : endN A x fst e = endN A x fst (e + 1) := by
  rw [endN.eq_2, if_neg h]
theorem endN_yes {x : Int32} {fst : Bool} {e : Nat} (h : A 22 e = x ∧ (∀ b, endN A x fst e = some b → bfB (A 16) (A 17) (A 18) (A 19) e b = fst)) : some e = endN A x fst (e + 1) := by
  rw [endN.eq_2, if_pos h]
set_option maxRecDepth 100000 in
set_option maxHeartbeats 4000000 in
theorem lp_end {Q : Option LV → GH → Prop} (hM : MFix K R Ln) {many : Nat} (hm : I 582 11 = nI many) (hb : many ≤ 520) {x : Int32} {fst : Bool} (hq : Q (some (iV (oI (endN A x fst many)))) (K, I, J, R, A, B, Ln, n, sl)) : ∀ (f e : Nat), e + f = many → Ev X mX9_end (d + 2) 5 [some (rV (some 11)), some (iV x), some (iV (bZ fst)), some (iV (oI (endN A x fst e))), some (iV (nI e))] [] (K, I, J, R, A, B, Ln, n, sl) Q := by
  intro f
  induction f with
  | zero =>
    intro e he
    refine ev_iload dX9_end_5 rfl ?_
    refine ev_aload_n dX9_end_7 rfl ?_
    refine ev_getIv dX9_end_8 fX9_106 hM.m hm ?_
    refine ev_icmp_geN 49 dX9_end_11 (by decide) (by omega) (by omega) (fun c11 => ?_) (fun c11 => absurd c11 (by omega))
    refine ev_iload_n dX9_end_49 rfl ?_
    refine ev_ireturn dX9_end_50 rfl ?_
    rw [show e = many by omega]; exact hq
  | succ f ih =>
    intro e he
    have kont : ∀ z : Int32, z = oI (endN A x fst (e + 1)) → Ev X mX9_end (d + 2) 43 [some (rV (some 11)), some (iV x), some (iV (bZ fst)), some (iV (z)), some (iV (nI e))] [] (K, I, J, R, A, B, Ln, n, sl) Q := by
      intro z hz
      subst hz
      refine ev_iincN (b := 1) _ dX9_end_43 rfl (by decide) (by decide) rfl ?_
      refine ev_goto 5 dX9_end_46 (by decide) ?_
      exact ih (e + 1) (by omega)
    cases ho : endN A x fst e with
    | none =>
      refine ev_iload dX9_end_5 rfl ?_
      refine ev_aload_n dX9_end_7 rfl ?_
      refine ev_getIv dX9_end_8 fX9_106 hM.m hm ?_
      refine ev_icmp_geN 49 dX9_end_11 (by decide) (by omega) (by omega) (fun c11 => absurd c11 (by omega)) (fun c11 => ?_)
      refine ev_aload_n dX9_end_14 rfl ?_
      refine ev_getR dX9_end_15 fX9_41 hM.m hM.R_file ?_
      refine ev_iload dX9_end_18 rfl ?_
      refine ev_iald dX9_end_20 hM.K_file hM.L_file (by decide) (by omega) ?_
      refine ev_iload_n dX9_end_21 rfl ?_
      refine ev_icmp_ne 43 dX9_end_22 (by decide) (fun c22 => ?_) (fun c22 => ?_)
      · first | exact kont _ (by rw [← endN_no (A := A) (x := x) (fst := fst) (e := e) (fun h => by first | exact c22 h.1 | exact c37 (bZ_eq.mpr (h.2 _ ho))), ho]; try rfl) | exact kont _ (by rw [← endN_yes (A := A) (x := x) (fst := fst) (e := e) ⟨c22, fun b hb => by rw [ho] at hb; cases hb⟩]; rfl)
      · refine ev_iload_n dX9_end_25 rfl ?_
        refine ev_if_lt 40 dX9_end_26 (by decide) (fun c26 => ?_) (fun c26 => absurd c26 (by decide))
        refine ev_iload dX9_end_40 rfl ?_
        refine ev_istore_n _ dX9_end_42 (by decide) rfl ?_
        first | exact kont _ (by rw [← endN_no (A := A) (x := x) (fst := fst) (e := e) (fun h => by first | exact c22 h.1 | exact c37 (bZ_eq.mpr (h.2 _ ho))), ho]; try rfl) | exact kont _ (by rw [← endN_yes (A := A) (x := x) (fst := fst) (e := e) ⟨c22, fun b hb => by rw [ho] at hb; cases hb⟩]; rfl)
    | some b0 =>
      have hb0 : b0 < e := endN_lt ho
      show Ev X mX9_end (d + 2) 5 [some (rV (some 11)), some (iV x), some (iV (bZ fst)), some (iV (nI b0)), some (iV (nI e))] [] (K, I, J, R, A, B, Ln, n, sl) Q
      refine ev_iload dX9_end_5 rfl ?_
      refine ev_aload_n dX9_end_7 rfl ?_
      refine ev_getIv dX9_end_8 fX9_106 hM.m hm ?_
      refine ev_icmp_geN 49 dX9_end_11 (by decide) (by omega) (by omega) (fun c11 => absurd c11 (by omega)) (fun c11 => ?_)
      refine ev_aload_n dX9_end_14 rfl ?_
      refine ev_getR dX9_end_15 fX9_41 hM.m hM.R_file ?_
      refine ev_iload dX9_end_18 rfl ?_
      refine ev_iald dX9_end_20 hM.K_file hM.L_file (by decide) (by omega) ?_
      refine ev_iload_n dX9_end_21 rfl ?_
      refine ev_icmp_ne 43 dX9_end_22 (by decide) (fun c22 => ?_) (fun c22 => ?_)
      · first | exact kont _ (by rw [← endN_no (A := A) (x := x) (fst := fst) (e := e) (fun h => by first | exact c22 h.1 | exact c37 (bZ_eq.mpr (h.2 _ ho))), ho]; try rfl) | exact kont _ (by rw [← endN_yes (A := A) (x := x) (fst := fst) (e := e) ⟨c22, fun b hb => by rw [ho] at hb; cases hb; exact bZ_eq.mp c37⟩]; rfl)
      · refine ev_iload_n dX9_end_25 rfl ?_
        refine ev_if_ltN 40 dX9_end_26 (by decide) (by omega) ?_
        refine ev_aload_n dX9_end_29 rfl ?_
        refine ev_iload dX9_end_30 rfl ?_
        refine ev_iload_n dX9_end_32 rfl ?_
        refine ev_callV dX9_end_33 okX9_before inX9_before seX9_before mlX9_182 hM.m (by decide) rfl [iV _, iV _] rfl rfl (Nat.le_of_ble_eq_true rfl) (Nat.le_of_ble_eq_true rfl) (sp_before hM (by omega) (by omega)) (fun r_ G_ h_ => ?_)
        obtain ⟨rfl, rfl⟩ := h_
        try dsimp only [Option.toList, List.cons_append, List.nil_append]
        refine ev_iload_n dX9_end_36 rfl ?_
        refine ev_icmp_ne 43 dX9_end_37 (by decide) (fun c37 => ?_) (fun c37 => ?_)
        · first | exact kont _ (by rw [← endN_no (A := A) (x := x) (fst := fst) (e := e) (fun h => by first | exact c22 h.1 | exact c37 (bZ_eq.mpr (h.2 _ ho))), ho]; try rfl) | exact kont _ (by rw [← endN_yes (A := A) (x := x) (fst := fst) (e := e) ⟨c22, fun b hb => by rw [ho] at hb; cases hb; exact bZ_eq.mp c37⟩]; rfl)
        · refine ev_iload dX9_end_40 rfl ?_
          refine ev_istore_n _ dX9_end_42 (by decide) rfl ?_
          first | exact kont _ (by rw [← endN_no (A := A) (x := x) (fst := fst) (e := e) (fun h => by first | exact c22 h.1 | exact c37 (bZ_eq.mpr (h.2 _ ho))), ho]; try rfl) | exact kont _ (by rw [← endN_yes (A := A) (x := x) (fst := fst) (e := e) ⟨c22, fun b hb => by rw [ho] at hb; cases hb; exact bZ_eq.mp c37⟩]; rfl)
theorem sp_end (hM : MFix K R Ln) {many : Nat} (hm : I 582 11 = nI many) (hb : many ≤ 520) {x : Int32} {fst : Bool} : EvM X mX9_end (d + 2) [rV (some 11), iV x, iV (bZ fst)] (K, I, J, R, A, B, Ln, n, sl) (fun r G' => r = some (iV (oI (endN A x fst many))) ∧ G' = (K, I, J, R, A, B, Ln, n, sl)) := by
  show Ev X mX9_end (d + 2) 0 [some (rV (some 11)), some (iV x), some (iV (bZ fst)), none, none] [] (K, I, J, R, A, B, Ln, n, sl) _
  refine ev_iconst (-1) dX9_end_0 (by decide) ?_
  refine ev_istore_n _ dX9_end_1 (by decide) rfl ?_
  refine ev_iconstN 0 dX9_end_2 (by decide) ?_
  refine ev_istore _ dX9_end_3 (by decide) rfl ?_
  exact lp_end hM hm hb ⟨rfl, rfl⟩ many 0 (by omega)
end M4
