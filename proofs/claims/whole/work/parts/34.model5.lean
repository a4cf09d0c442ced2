section M5
variable {X : CX} {d : Nat} {K : Nat → Nat} {I : Nat → Nat → Int32} {J : Nat → Nat → Int64} {R : Nat → Nat → Option Nat} {A : Nat → Nat → Int32} {B : Nat → Nat → Option Nat} {Ln : Nat → Nat} {n sl : Nat}
set_option maxRecDepth 100000 in
set_option maxHeartbeats 4000000 in
theorem sp_addFile (hM : MFix K R Ln) {md fn : Nat} {x : Int32} (hd : I 593 11 = nI md) (hf : I 590 11 = nI fn) (hb : fn < 520) : EvM X mX9_addFile d [rV (some 11), iV x] (K, I, J, R, A, B, Ln, n, sl) (fun r G' => r = none ∧ G' = (K, u2 (u2 I 593 11 (nI (md + 1))) 590 11 (nI (fn + 1)), J, R, u2 (u2 A 23 fn (nI (md + 1))) 24 fn x, B, Ln, n, sl)) := by
  show Ev X mX9_addFile d 0 [some (rV (some 11)), some (iV x)] [] (K, I, J, R, A, B, Ln, n, sl) _
  refine ev_aload_n dX9_addFile_0 rfl ?_
  refine ev_dup dX9_addFile_1 rfl ?_
  refine ev_getIv dX9_addFile_2 fX9_164 hM.m hd ?_
  refine ev_iconstN 1 dX9_addFile_5 (by decide) ?_
  refine ev_iaddN dX9_addFile_6 ?_
  refine ev_putI dX9_addFile_7 fX9_164 (Or.inl rfl) (Or.inl rfl) hM.m ?_
  refine ev_aload_n dX9_addFile_10 rfl ?_
  refine ev_getR dX9_addFile_11 fX9_44 hM.m hM.R_number ?_
  refine ev_aload_n dX9_addFile_14 rfl ?_
  refine ev_getIv dX9_addFile_15 fX9_167 hM.m ((u2_ne1 (by decide)).trans hf) ?_
  refine ev_aload_n dX9_addFile_18 rfl ?_
  refine ev_getIv dX9_addFile_19 fX9_164 hM.m u2_self ?_
  refine ev_iast dX9_addFile_22 hM.K_number hM.L_number (by decide) (by omega) ?_
  refine ev_aload_n dX9_addFile_23 rfl ?_
  refine ev_getR dX9_addFile_24 fX9_47 hM.m hM.R_level ?_
  refine ev_aload_n dX9_addFile_27 rfl ?_
  refine ev_getIv dX9_addFile_28 fX9_167 hM.m ((u2_ne1 (by decide)).trans hf) ?_
  refine ev_iload_n dX9_addFile_31 rfl ?_
  refine ev_iast dX9_addFile_32 hM.K_level hM.L_level (by decide) (by omega) ?_
  refine ev_aload_n dX9_addFile_33 rfl ?_
  refine ev_dup dX9_addFile_34 rfl ?_
  refine ev_getIv dX9_addFile_35 fX9_167 hM.m ((u2_ne1 (by decide)).trans hf) ?_
  refine ev_iconstN 1 dX9_addFile_38 (by decide) ?_
  refine ev_iaddN dX9_addFile_39 ?_
  refine ev_putI dX9_addFile_40 fX9_167 (Or.inl rfl) (Or.inl rfl) hM.m ?_
  refine ev_return dX9_addFile_43 rfl ?_
  exact ⟨rfl, rfl⟩
abbrev EE : Type := Int32 × Int32 × Int32 × Int32 × Int32 × Int32 × Int32 × Int32 × Int32
/-- entry e of the reference's arrays: space, value, key, stamp, live, file, the row -/
def entA (A : Nat → Nat → Int32) (e : Nat) : EE := (A 16 e, A 17 e, A 18 e, A 19 e, A 20 e, A 22 e, A 21 (3 * e), A 21 (3 * e + 1), A 21 (3 * e + 2))
/-- the arrays of the entries are as they were, up to those that are named -/
def AEq (S : List Nat) (A A' : Nat → Nat → Int32) : Prop := ∀ i, i ∉ S → A' i = A i
set_option maxRecDepth 100000 in
set_option maxHeartbeats 4000000 in
theorem sp_entry (hM : MFix K R Ln) {many la : Nat} {s v k z : Int32} (hm : I 582 11 = nI many) (hb : many < 520) (hl : I 594 11 = nI la) (hz : z = 0 ∨ z = 1) : EvM X mX9_entry d [rV (some 11), iV s, iV v, iV k, iV z] (K, I, J, R, A, B, Ln, n, sl) (fun r G' => r = none ∧ ∃ A', G' = (K, u2 I 582 11 (nI (many + 1)), J, R, A', B, Ln, n, sl) ∧ AEq [16, 17, 18, 19, 20, 21, 22] A A' ∧ (∀ e, e < many → entA A' e = entA A e) ∧ entA A' many = (s, v, k, nI (la + 1), z, 0, A 29 0, A 29 1, A 29 2)) := by
  show Ev X mX9_entry d 0 [some (rV (some 11)), some (iV s), some (iV v), some (iV k), some (iV z), none] [] (K, I, J, R, A, B, Ln, n, sl) _
  refine ev_aload_n dX9_entry_0 rfl ?_
  refine ev_getR dX9_entry_1 fX9_23 hM.m hM.R_space ?_
  refine ev_aload_n dX9_entry_4 rfl ?_
  refine ev_getIv dX9_entry_5 fX9_106 hM.m hm ?_
  refine ev_iload_n dX9_entry_8 rfl ?_
  refine ev_iast dX9_entry_9 hM.K_space hM.L_space (by decide) (by omega) ?_
  refine ev_aload_n dX9_entry_10 rfl ?_
  refine ev_getR dX9_entry_11 fX9_26 hM.m hM.R_value ?_
  refine ev_aload_n dX9_entry_14 rfl ?_
  refine ev_getIv dX9_entry_15 fX9_106 hM.m hm ?_
  refine ev_iload_n dX9_entry_18 rfl ?_
  refine ev_iast dX9_entry_19 hM.K_value hM.L_value (by decide) (by omega) ?_
  refine ev_aload_n dX9_entry_20 rfl ?_
  refine ev_getR dX9_entry_21 fX9_29 hM.m hM.R_key ?_
  refine ev_aload_n dX9_entry_24 rfl ?_
  refine ev_getIv dX9_entry_25 fX9_106 hM.m hm ?_
  refine ev_iload_n dX9_entry_28 rfl ?_
  refine ev_iast dX9_entry_29 hM.K_key hM.L_key (by decide) (by omega) ?_
  refine ev_aload_n dX9_entry_30 rfl ?_
  refine ev_getR dX9_entry_31 fX9_32 hM.m hM.R_stamp ?_
  refine ev_aload_n dX9_entry_34 rfl ?_
  refine ev_getIv dX9_entry_35 fX9_106 hM.m hm ?_
  refine ev_aload_n dX9_entry_38 rfl ?_
  refine ev_getIv dX9_entry_39 fX9_103 hM.m hl ?_
  refine ev_iconstN 1 dX9_entry_42 (by decide) ?_
  refine ev_iaddN dX9_entry_43 ?_
  refine ev_iast dX9_entry_44 hM.K_stamp hM.L_stamp (by decide) (by omega) ?_
  refine ev_aload_n dX9_entry_45 rfl ?_
  refine ev_getR dX9_entry_46 fX9_35 hM.m hM.R_live ?_
  refine ev_aload_n dX9_entry_49 rfl ?_
  refine ev_getIv dX9_entry_50 fX9_106 hM.m hm ?_
  refine ev_iload dX9_entry_53 rfl ?_
  refine ev_zast dX9_entry_55 hM.K_live hM.L_live (by decide) (by omega) hz ?_
  refine ev_aload_n dX9_entry_56 rfl ?_
  refine ev_getR dX9_entry_57 fX9_41 hM.m hM.R_file ?_
  refine ev_aload_n dX9_entry_60 rfl ?_
  refine ev_getIv dX9_entry_61 fX9_106 hM.m hm ?_
  refine ev_iconstN 0 dX9_entry_64 (by decide) ?_
  refine ev_iast dX9_entry_65 hM.K_file hM.L_file (by decide) (by omega) ?_
  refine ev_iconstN 0 dX9_entry_66 (by decide) ?_
  refine ev_istore _ dX9_entry_67 (by decide) rfl ?_
  refine ev_iload dX9_entry_69 rfl ?_
  refine ev_iconstN 3 dX9_entry_71 (by decide) ?_
  refine ev_icmp_geN 102 dX9_entry_72 (by decide) (by omega) (by omega) (fun c72 => absurd c72 (by decide)) (fun c72 => ?_)
  refine ev_aload_n dX9_entry_75 rfl ?_
  refine ev_getR dX9_entry_76 fX9_38 hM.m hM.R_fields ?_
  refine ev_iconstN 3 dX9_entry_79 (by decide) ?_
  refine ev_aload_n dX9_entry_80 rfl ?_
  refine ev_getIv dX9_entry_81 fX9_106 hM.m hm ?_
  refine ev_imulN dX9_entry_84 ?_
  refine ev_iload dX9_entry_85 rfl ?_
  refine ev_iaddN dX9_entry_87 ?_
  refine ev_aload_n dX9_entry_88 rfl ?_
  refine ev_getR dX9_entry_89 fX9_62 hM.m hM.R_row ?_
  refine ev_iload dX9_entry_92 rfl ?_
  refine ev_iald dX9_entry_94 hM.K_row hM.L_row (by decide) (by omega) ?_
  refine ev_iast dX9_entry_95 hM.K_fields hM.L_fields (by decide) (by omega) ?_
  refine ev_iincN (b := 1) _ dX9_entry_96 rfl (by decide) (by decide) rfl ?_
  refine ev_goto 69 dX9_entry_99 (by decide) ?_
  refine ev_iload dX9_entry_69 rfl ?_
  refine ev_iconstN 3 dX9_entry_71 (by decide) ?_
  refine ev_icmp_geN 102 dX9_entry_72 (by decide) (by omega) (by omega) (fun c72 => absurd c72 (by decide)) (fun c72 => ?_)
  refine ev_aload_n dX9_entry_75 rfl ?_
  refine ev_getR dX9_entry_76 fX9_38 hM.m hM.R_fields ?_
  refine ev_iconstN 3 dX9_entry_79 (by decide) ?_
  refine ev_aload_n dX9_entry_80 rfl ?_
  refine ev_getIv dX9_entry_81 fX9_106 hM.m hm ?_
  refine ev_imulN dX9_entry_84 ?_
  refine ev_iload dX9_entry_85 rfl ?_
  refine ev_iaddN dX9_entry_87 ?_
  refine ev_aload_n dX9_entry_88 rfl ?_
  refine ev_getR dX9_entry_89 fX9_62 hM.m hM.R_row ?_
  refine ev_iload dX9_entry_92 rfl ?_
  refine ev_iald dX9_entry_94 hM.K_row hM.L_row (by decide) (by omega) ?_
  refine ev_iast dX9_entry_95 hM.K_fields hM.L_fields (by decide) (by omega) ?_
  refine ev_iincN (b := 1) _ dX9_entry_96 rfl (by decide) (by decide) rfl ?_
  refine ev_goto 69 dX9_entry_99 (by decide) ?_
  refine ev_iload dX9_entry_69 rfl ?_
  refine ev_iconstN 3 dX9_entry_71 (by decide) ?_
  refine ev_icmp_geN 102 dX9_entry_72 (by decide) (by omega) (by omega) (fun c72 => absurd c72 (by decide)) (fun c72 => ?_)
  refine ev_aload_n dX9_entry_75 rfl ?_
  refine ev_getR dX9_entry_76 fX9_38 hM.m hM.R_fields ?_
  refine ev_iconstN 3 dX9_entry_79 (by decide) ?_
  refine ev_aload_n dX9_entry_80 rfl ?_
  refine ev_getIv dX9_entry_81 fX9_106 hM.m hm ?_
  refine ev_imulN dX9_entry_84 ?_
  refine ev_iload dX9_entry_85 rfl ?_
  refine ev_iaddN dX9_entry_87 ?_
  refine ev_aload_n dX9_entry_88 rfl ?_
  refine ev_getR dX9_entry_89 fX9_62 hM.m hM.R_row ?_
  refine ev_iload dX9_entry_92 rfl ?_
  refine ev_iald dX9_entry_94 hM.K_row hM.L_row (by decide) (by omega) ?_
  refine ev_iast dX9_entry_95 hM.K_fields hM.L_fields (by decide) (by omega) ?_
  refine ev_iincN (b := 1) _ dX9_entry_96 rfl (by decide) (by decide) rfl ?_
  refine ev_goto 69 dX9_entry_99 (by decide) ?_
  refine ev_iload dX9_entry_69 rfl ?_
  refine ev_iconstN 3 dX9_entry_71 (by decide) ?_
  refine ev_icmp_geN 102 dX9_entry_72 (by decide) (by omega) (by omega) (fun c72 => ?_) (fun c72 => absurd c72 (by decide))
  refine ev_aload_n dX9_entry_102 rfl ?_
  refine ev_dup dX9_entry_103 rfl ?_
  refine ev_getIv dX9_entry_104 fX9_106 hM.m hm ?_
  refine ev_iconstN 1 dX9_entry_107 (by decide) ?_
  refine ev_iaddN dX9_entry_108 ?_
  refine ev_putI dX9_entry_109 fX9_106 (Or.inl rfl) (Or.inl rfl) hM.m ?_
  refine ev_return dX9_entry_112 rfl ?_
  refine ⟨rfl, _, rfl, fun i hi => ?_, fun e he => ?_, ?_⟩
  · simp only [List.mem_cons, List.not_mem_nil, or_false, not_or] at hi
    funext j
    simp only [u2]
    simp [hi]
  · have h1 : ¬ e = many := by omega
    have h2 : ∀ a b, a < 3 → b < 3 → ¬ 3 * e + a = 3 * many + b := fun a b _ _ => by omega
    simp [entA, u2, h1, h2 0 0, h2 0 1, h2 0 2, h2 1 0, h2 1 1, h2 1 2, h2 2 0, h2 2 1, h2 2 2]
    have g0 := h2 0 0 (by omega) (by omega)
    have g1 := h2 0 1 (by omega) (by omega)
    have g2 := h2 0 2 (by omega) (by omega)
    refine ⟨?_, ?_, ?_⟩
    all_goals (repeat rw [if_neg (by omega)])
  · simp [entA, u2]
    try rfl
end M5
