/-- the heap at the law's entry -/
def zK : Nat → Nat := fun _ => 900
def zI : Nat → Nat → Int32 := fun _ _ => 0
def zJ : Nat → Nat → Int64 := fun _ _ => 0
def zR : Nat → Nat → Option Nat := fun _ _ => none
def zL : Nat → Nat := fun _ => 0
def wK8 : Nat → Nat := va_up (va_up (va_up (va_up (va_up (va_up (va_up (va_up (zK) 3 8) 4 102) 5 102) 6 103) 7 6) 8 105) 9 10) 10 100
def wL8 : Nat → Nat := va_up (va_up (va_up (va_up (va_up (zL) 4 8) 5 3) 6 60) 8 500) 10 32
def wR8 : Nat → Nat → Option Nat := u2 (u2 (u2 (u2 (u2 (u2 (u2 (u2 (zR) 512 3 (some 4)) 514 3 (some 5)) 516 3 (some 6)) 384 7 (some 8)) 641 9 (some 0)) 387 7 (some 9)) 518 3 (some 7)) 520 3 (some 10)
def wI8 : Nat → Nat → Int32 := u2 (u2 (zI) 640 9 (nI 0)) 522 3 (-1)
def wK9 : Nat → Nat := va_up (va_up (va_up (va_up (va_up (va_up (va_up (va_up (va_up (va_up (va_up (va_up (va_up (va_up (va_up (va_up (va_up (va_up (va_up (va_up (va_up (va_up (va_up (wK8) 11 9) 12 100) 13 100) 14 100) 15 101) 16 100) 17 100) 18 100) 19 100) 20 101) 21 100) 22 100) 23 100) 24 100) 25 100) 26 100) 27 100) 28 100) 29 100) 30 100) 31 100) 32 100) 33 101
def wL9 : Nat → Nat := va_up (va_up (va_up (va_up (va_up (va_up (va_up (va_up (va_up (va_up (va_up (va_up (va_up (va_up (va_up (va_up (va_up (va_up (va_up (va_up (va_up (va_up (wL8) 12 11) 13 165) 14 165) 15 11) 16 520) 17 520) 18 520) 19 520) 20 520) 21 1560) 22 520) 23 520) 24 520) 25 60) 26 60) 27 1920) 28 5760) 29 3) 30 16) 31 32) 32 520) 33 520
def wR9 : Nat → Nat → Option Nat := u2 (u2 (u2 (u2 (u2 (u2 (u2 (u2 (u2 (u2 (u2 (u2 (u2 (u2 (u2 (u2 (u2 (u2 (u2 (u2 (u2 (u2 (wR8) 578 11 (some 12)) 579 11 (some 13)) 580 11 (some 14)) 581 11 (some 15)) 583 11 (some 16)) 584 11 (some 17)) 585 11 (some 18)) 586 11 (some 19)) 587 11 (some 20)) 588 11 (some 21)) 589 11 (some 22)) 591 11 (some 23)) 592 11 (some 24)) 596 11 (some 25)) 597 11 (some 26)) 598 11 (some 27)) 599 11 (some 28)) 600 11 (some 29)) 601 11 (some 30)) 602 11 (some 31)) 611 11 (some 32)) 613 11 (some 33)
def wI9 : Nat → Nat → Int32 := u2 (wI8) 604 11 (-1)
section C98V
variable {X : CX} {d : Nat} {K : Nat → Nat} {I : Nat → Nat → Int32} {J : Nat → Nat → Int64} {R : Nat → Nat → Option Nat} {A : Nat → Nat → Int32} {B : Nat → Nat → Option Nat} {Ln : Nat → Nat} {n sl : Nat} {a m : Nat} {cs fs : List Nat} {s : SA} {many tn la : Nat} {ti : Nat → Nat} {pn : Nat} {px : Nat → Nat} {pe : Nat → EX} {ixn : Nat} {ie : Nat → EX} {rn : Nat} {p : PP}
set_option maxRecDepth 100000 in
set_option maxHeartbeats 4000000 in
theorem in_ac {i : Nat} : EvM X mJxa1e45_init_da8c8 (d + 1) [rV (some i)] (K, I, J, R, A, B, Ln, n, sl) (fun r G' => r = none ∧ G' = (K, I, J, R, A, B, Ln, n, sl)) := by
  show Ev X mJxa1e45_init_da8c8 (d + 1) 0 [some (rV (some i))] [] (K, I, J, R, A, B, Ln, n, sl) _
  refine ev_aload_n dJxa1e45_init_da8c8_0 rfl ?_
  refine ev_objInit dJxa1e45_init_da8c8_1 oiJxa1e45_1 oi_in oi_code (Nat.le_of_ble_eq_true rfl) ?_
  refine ev_return dJxa1e45_init_da8c8_4 rfl ?_
  exact ⟨rfl, rfl⟩
theorem in_ali {i : Nat} (hk : K i = 10) : EvM X mJxc12de_init_da8c8 (d + 2) [rV (some i)] (K, I, J, R, A, B, Ln, n, sl) (fun r G' => r = none ∧ G' = (K, u2 I 640 i (nI 0), J, R, A, B, Ln, n, sl)) := by
  show Ev X mJxc12de_init_da8c8 (d + 2) 0 [some (rV (some i))] [] (K, I, J, R, A, B, Ln, n, sl) _
  refine ev_aload_n dJxc12de_init_da8c8_0 rfl ?_
  refine ev_callI dJxc12de_init_da8c8_1 okJxa1e45_init_da8c8 inJxa1e45_init_da8c8 rfl rfl mlJxc12de_1 [] rfl rfl (Nat.le_of_ble_eq_true rfl) (Nat.le_of_ble_eq_true rfl) (in_ac) (fun r_ G_ h_ => ?_)
  obtain ⟨rfl, rfl⟩ := h_
  try dsimp only [Option.toList, List.cons_append, List.nil_append]
  refine ev_aload_n dJxc12de_init_da8c8_4 rfl ?_
  refine ev_iconstN 0 dJxc12de_init_da8c8_5 (by decide) ?_
  refine ev_putI dJxc12de_init_da8c8_6 fJxc12de_7 (by first | exact Or.inl rfl | exact Or.inr ⟨rfl, rfl, rfl, mfJxc12de_7⟩) (by first | exact Or.inl rfl | exact Or.inr (Or.inl rfl) | exact Or.inr (Or.inr rfl)) hk ?_
  refine ev_return dJxc12de_init_da8c8_9 rfl ?_
  exact ⟨rfl, rfl⟩
theorem in_al {i : Nat} (hk : K i = 10) : EvM X mJx4a65c_init_da8c8 (d + 3) [rV (some i)] (K, I, J, R, A, B, Ln, n, sl) (fun r G' => r = none ∧ G' = (K, u2 I 640 i (nI 0), J, u2 R 641 i (some 0), A, B, Ln, n, sl)) := by
  show Ev X mJx4a65c_init_da8c8 (d + 3) 0 [some (rV (some i))] [] (K, I, J, R, A, B, Ln, n, sl) _
  refine ev_aload_n dJx4a65c_init_da8c8_0 rfl ?_
  refine ev_callI dJx4a65c_init_da8c8_1 okJxc12de_init_da8c8 inJxc12de_init_da8c8 rfl rfl mlJx4a65c_1 [] rfl rfl (Nat.le_of_ble_eq_true rfl) (Nat.le_of_ble_eq_true rfl) (in_ali hk) (fun r_ G_ h_ => ?_)
  obtain ⟨rfl, rfl⟩ := h_
  try dsimp only [Option.toList, List.cons_append, List.nil_append]
  refine ev_aload_n dJx4a65c_init_da8c8_4 rfl ?_
  refine ev_getE dJx4a65c_init_da8c8_5 ge_l ?_
  refine ev_putR dJx4a65c_init_da8c8_8 fJx4a65c_9 (by first | exact Or.inl rfl | exact Or.inr ⟨rfl, rfl, rfl, mfJx4a65c_9⟩) hk ?_
  refine ev_return dJx4a65c_init_da8c8_11 rfl ?_
  exact ⟨rfl, rfl⟩
theorem in_st {i : Nat} (hk : K i = 6) (hi : i < n) : EvM X mX6_init (d + 4) [rV (some i)] (K, I, J, R, A, B, Ln, n, sl) (fun r G' => r = none ∧ G' = (va_up (va_up K n 105) (n + 1) 10, u2 I 640 (n + 1) (nI 0), J, u2 (u2 (u2 R 384 i (some n)) 641 (n + 1) (some 0)) 387 i (some (n + 1)), A, B, va_up Ln n 500, n + 1 + 1, sl + 500 + 3)) := by
  have hk1 : va_up K n 105 i = 6 := (va_up_ne _ _ (by omega)).trans hk
  have hk2 : va_up (va_up K n 105) (n + 1) 10 i = 6 := (va_up_ne _ _ (by omega)).trans hk1
  show Ev X mX6_init (d + 4) 0 [some (rV (some i))] [] (K, I, J, R, A, B, Ln, n, sl) _
  refine ev_aload_n dX6_init_0 rfl ?_
  refine ev_objInit dX6_init_1 oiX6_3 oi_in oi_code (Nat.le_of_ble_eq_true rfl) ?_
  refine ev_aload_n dX6_init_4 rfl ?_
  refine ev_sipushN 500 dX6_init_5 (by decide) ?_
  refine ev_newR (q := 5) dX6_init_8 clX6_9 (by decide) (by decide) (by decide) ?_
  refine ev_putR dX6_init_11 fX6_11 (by first | exact Or.inl rfl | exact Or.inr ⟨rfl, rfl, rfl, mfX6_11⟩) hk1 ?_
  refine ev_aload_n dX6_init_14 rfl ?_
  refine ev_new dX6_init_15 nwX6_17 ?_
  refine ev_dup dX6_init_18 rfl ?_
  refine ev_callI dX6_init_19 okJx4a65c_init_da8c8 inJx4a65c_init_da8c8 rfl rfl mlX6_19 [] rfl rfl (Nat.le_of_ble_eq_true rfl) (Nat.le_of_ble_eq_true rfl) (in_al (va_up_self _ _ _)) (fun r_ G_ h_ => ?_)
  obtain ⟨rfl, rfl⟩ := h_
  try dsimp only [Option.toList, List.cons_append, List.nil_append]
  refine ev_putR dX6_init_22 fX6_20 (by first | exact Or.inl rfl | exact Or.inr ⟨rfl, rfl, rfl, mfX6_20⟩) hk2 ?_
  refine ev_return dX6_init_25 rfl ?_
  exact ⟨rfl, rfl⟩
set_option maxRecDepth 100000 in
set_option maxHeartbeats 4000000 in
theorem in_rows : EvM X mX8_init (d + 6) [rV (some 3)] (va_up zK 3 8, zI, zJ, zR, zI, zR, zL, 4, 13) (fun r G' => r = none ∧ G' = (wK8, wI8, zJ, wR8, zI, zR, wL8, 11, 624)) := by
  show Ev X mX8_init (d + 6) 0 [some (rV (some 3))] [] (va_up zK 3 8, zI, zJ, zR, zI, zR, zL, 4, 13) _
  refine ev_aload_n dX8_init_0 rfl ?_
  refine ev_objInit dX8_init_1 oiX8_1 oi_in oi_code (Nat.le_of_ble_eq_true rfl) ?_
  refine ev_aload_n dX8_init_4 rfl ?_
  refine ev_bipushN 8 dX8_init_5 (by decide) ?_
  refine ev_newR (q := 2) dX8_init_7 clX8_9 (by decide) (by decide) (by decide) ?_
  refine ev_putR dX8_init_10 fX8_11 (by first | exact Or.inl rfl | exact Or.inr ⟨rfl, rfl, rfl, mfX8_11⟩) rfl ?_
  refine ev_aload_n dX8_init_13 rfl ?_
  refine ev_iconstN 3 dX8_init_14 (by decide) ?_
  refine ev_newR (q := 2) dX8_init_15 clX8_9 (by decide) (by decide) (by decide) ?_
  refine ev_putR dX8_init_18 fX8_15 (by first | exact Or.inl rfl | exact Or.inr ⟨rfl, rfl, rfl, mfX8_15⟩) rfl ?_
  refine ev_aload_n dX8_init_21 rfl ?_
  refine ev_bipushN 60 dX8_init_22 (by decide) ?_
  refine ev_newR (q := 3) dX8_init_24 clX8_18 (by decide) (by decide) (by decide) ?_
  refine ev_putR dX8_init_27 fX8_20 (by first | exact Or.inl rfl | exact Or.inr ⟨rfl, rfl, rfl, mfX8_20⟩) rfl ?_
  refine ev_aload_n dX8_init_30 rfl ?_
  refine ev_new dX8_init_31 nwX8_24 ?_
  refine ev_dup dX8_init_34 rfl ?_
  refine ev_callI dX8_init_35 okX6_init inX6_init rfl rfl mlX8_26 [] rfl rfl (Nat.le_of_ble_eq_true rfl) (Nat.le_of_ble_eq_true rfl) (in_st rfl (by decide)) (fun r_ G_ h_ => ?_)
  obtain ⟨rfl, rfl⟩ := h_
  try dsimp only [Option.toList, List.cons_append, List.nil_append]
  refine ev_putR dX8_init_38 fX8_27 (by first | exact Or.inl rfl | exact Or.inr ⟨rfl, rfl, rfl, mfX8_27⟩) rfl ?_
  refine ev_aload_n dX8_init_41 rfl ?_
  refine ev_bipushN 32 dX8_init_42 (by decide) ?_
  refine ev_newI dX8_init_44 (by decide) ?_
  refine ev_putR dX8_init_46 fX8_31 (by first | exact Or.inl rfl | exact Or.inr ⟨rfl, rfl, rfl, mfX8_31⟩) rfl ?_
  refine ev_aload_n dX8_init_49 rfl ?_
  refine ev_iconst (-1) dX8_init_50 (by decide) ?_
  refine ev_putI dX8_init_51 fX8_35 (by first | exact Or.inl rfl | exact Or.inr ⟨rfl, rfl, rfl, mfX8_35⟩) (by first | exact Or.inl rfl | exact Or.inr (Or.inl rfl) | exact Or.inr (Or.inr rfl)) rfl ?_
  refine ev_return dX8_init_54 rfl ?_
  exact ⟨rfl, rfl⟩
set_option maxRecDepth 100000 in
set_option maxHeartbeats 4000000 in
theorem in_model : EvM X mX9_init (d + 6) [rV (some 11)] (va_up wK8 11 9, wI8, zJ, wR8, zI, zR, wL8, 12, 662) (fun r G' => r = none ∧ G' = (wK9, wI9, zJ, wR9, zI, zR, wL9, 34, 15625)) := by
  show Ev X mX9_init (d + 6) 0 [some (rV (some 11))] [] (va_up wK8 11 9, wI8, zJ, wR8, zI, zR, wL8, 12, 662) _
  refine ev_aload_n dX9_init_0 rfl ?_
  refine ev_objInit dX9_init_1 oiX9_1 oi_in oi_code (Nat.le_of_ble_eq_true rfl) ?_
  refine ev_aload_n dX9_init_4 rfl ?_
  refine ev_bipushN 11 dX9_init_5 (by decide) ?_
  refine ev_newI dX9_init_7 (by decide) ?_
  refine ev_putR dX9_init_9 fX9_7 (by first | exact Or.inl rfl | exact Or.inr ⟨rfl, rfl, rfl, mfX9_7⟩) rfl ?_
  refine ev_aload_n dX9_init_12 rfl ?_
  refine ev_sipushN 165 dX9_init_13 (by decide) ?_
  refine ev_newI dX9_init_16 (by decide) ?_
  refine ev_putR dX9_init_18 fX9_13 (by first | exact Or.inl rfl | exact Or.inr ⟨rfl, rfl, rfl, mfX9_13⟩) rfl ?_
  refine ev_aload_n dX9_init_21 rfl ?_
  refine ev_sipushN 165 dX9_init_22 (by decide) ?_
  refine ev_newI dX9_init_25 (by decide) ?_
  refine ev_putR dX9_init_27 fX9_16 (by first | exact Or.inl rfl | exact Or.inr ⟨rfl, rfl, rfl, mfX9_16⟩) rfl ?_
  refine ev_aload_n dX9_init_30 rfl ?_
  refine ev_bipushN 11 dX9_init_31 (by decide) ?_
  refine ev_newZ dX9_init_33 (by decide) ?_
  refine ev_putR dX9_init_35 fX9_19 (by first | exact Or.inl rfl | exact Or.inr ⟨rfl, rfl, rfl, mfX9_19⟩) rfl ?_
  refine ev_aload_n dX9_init_38 rfl ?_
  refine ev_sipushN 520 dX9_init_39 (by decide) ?_
  refine ev_newI dX9_init_42 (by decide) ?_
  refine ev_putR dX9_init_44 fX9_23 (by first | exact Or.inl rfl | exact Or.inr ⟨rfl, rfl, rfl, mfX9_23⟩) rfl ?_
  refine ev_aload_n dX9_init_47 rfl ?_
  refine ev_sipushN 520 dX9_init_48 (by decide) ?_
  refine ev_newI dX9_init_51 (by decide) ?_
  refine ev_putR dX9_init_53 fX9_26 (by first | exact Or.inl rfl | exact Or.inr ⟨rfl, rfl, rfl, mfX9_26⟩) rfl ?_
  refine ev_aload_n dX9_init_56 rfl ?_
  refine ev_sipushN 520 dX9_init_57 (by decide) ?_
  refine ev_newI dX9_init_60 (by decide) ?_
  refine ev_putR dX9_init_62 fX9_29 (by first | exact Or.inl rfl | exact Or.inr ⟨rfl, rfl, rfl, mfX9_29⟩) rfl ?_
  refine ev_aload_n dX9_init_65 rfl ?_
  refine ev_sipushN 520 dX9_init_66 (by decide) ?_
  refine ev_newI dX9_init_69 (by decide) ?_
  refine ev_putR dX9_init_71 fX9_32 (by first | exact Or.inl rfl | exact Or.inr ⟨rfl, rfl, rfl, mfX9_32⟩) rfl ?_
  refine ev_aload_n dX9_init_74 rfl ?_
  refine ev_sipushN 520 dX9_init_75 (by decide) ?_
  refine ev_newZ dX9_init_78 (by decide) ?_
  refine ev_putR dX9_init_80 fX9_35 (by first | exact Or.inl rfl | exact Or.inr ⟨rfl, rfl, rfl, mfX9_35⟩) rfl ?_
  refine ev_aload_n dX9_init_83 rfl ?_
  refine ev_sipushN 1560 dX9_init_84 (by decide) ?_
  refine ev_newI dX9_init_87 (by decide) ?_
  refine ev_putR dX9_init_89 fX9_38 (by first | exact Or.inl rfl | exact Or.inr ⟨rfl, rfl, rfl, mfX9_38⟩) rfl ?_
  refine ev_aload_n dX9_init_92 rfl ?_
  refine ev_sipushN 520 dX9_init_93 (by decide) ?_
  refine ev_newI dX9_init_96 (by decide) ?_
  refine ev_putR dX9_init_98 fX9_41 (by first | exact Or.inl rfl | exact Or.inr ⟨rfl, rfl, rfl, mfX9_41⟩) rfl ?_
  refine ev_aload_n dX9_init_101 rfl ?_
  refine ev_sipushN 520 dX9_init_102 (by decide) ?_
  refine ev_newI dX9_init_105 (by decide) ?_
  refine ev_putR dX9_init_107 fX9_44 (by first | exact Or.inl rfl | exact Or.inr ⟨rfl, rfl, rfl, mfX9_44⟩) rfl ?_
  refine ev_aload_n dX9_init_110 rfl ?_
  refine ev_sipushN 520 dX9_init_111 (by decide) ?_
  refine ev_newI dX9_init_114 (by decide) ?_
  refine ev_putR dX9_init_116 fX9_47 (by first | exact Or.inl rfl | exact Or.inr ⟨rfl, rfl, rfl, mfX9_47⟩) rfl ?_
  refine ev_aload_n dX9_init_119 rfl ?_
  refine ev_bipushN 60 dX9_init_120 (by decide) ?_
  refine ev_newI dX9_init_122 (by decide) ?_
  refine ev_putR dX9_init_124 fX9_50 (by first | exact Or.inl rfl | exact Or.inr ⟨rfl, rfl, rfl, mfX9_50⟩) rfl ?_
  refine ev_aload_n dX9_init_127 rfl ?_
  refine ev_bipushN 60 dX9_init_128 (by decide) ?_
  refine ev_newI dX9_init_130 (by decide) ?_
  refine ev_putR dX9_init_132 fX9_53 (by first | exact Or.inl rfl | exact Or.inr ⟨rfl, rfl, rfl, mfX9_53⟩) rfl ?_
  refine ev_aload_n dX9_init_135 rfl ?_
  refine ev_sipushN 1920 dX9_init_136 (by decide) ?_
  refine ev_newI dX9_init_139 (by decide) ?_
  refine ev_putR dX9_init_141 fX9_56 (by first | exact Or.inl rfl | exact Or.inr ⟨rfl, rfl, rfl, mfX9_56⟩) rfl ?_
  refine ev_aload_n dX9_init_144 rfl ?_
  refine ev_sipushN 5760 dX9_init_145 (by decide) ?_
  refine ev_newI dX9_init_148 (by decide) ?_
  refine ev_putR dX9_init_150 fX9_59 (by first | exact Or.inl rfl | exact Or.inr ⟨rfl, rfl, rfl, mfX9_59⟩) rfl ?_
  refine ev_aload_n dX9_init_153 rfl ?_
  refine ev_iconstN 3 dX9_init_154 (by decide) ?_
  refine ev_newI dX9_init_155 (by decide) ?_
  refine ev_putR dX9_init_157 fX9_62 (by first | exact Or.inl rfl | exact Or.inr ⟨rfl, rfl, rfl, mfX9_62⟩) rfl ?_
  refine ev_aload_n dX9_init_160 rfl ?_
  refine ev_bipushN 16 dX9_init_161 (by decide) ?_
  refine ev_newI dX9_init_163 (by decide) ?_
  refine ev_putR dX9_init_165 fX9_65 (by first | exact Or.inl rfl | exact Or.inr ⟨rfl, rfl, rfl, mfX9_65⟩) rfl ?_
  refine ev_aload_n dX9_init_168 rfl ?_
  refine ev_bipushN 32 dX9_init_169 (by decide) ?_
  refine ev_newI dX9_init_171 (by decide) ?_
  refine ev_putR dX9_init_173 fX9_68 (by first | exact Or.inl rfl | exact Or.inr ⟨rfl, rfl, rfl, mfX9_68⟩) rfl ?_
  refine ev_aload_n dX9_init_176 rfl ?_
  refine ev_iconst (-1) dX9_init_177 (by decide) ?_
  refine ev_putI dX9_init_178 fX9_71 (by first | exact Or.inl rfl | exact Or.inr ⟨rfl, rfl, rfl, mfX9_71⟩) (by first | exact Or.inl rfl | exact Or.inr (Or.inl rfl) | exact Or.inr (Or.inr rfl)) rfl ?_
  refine ev_aload_n dX9_init_181 rfl ?_
  refine ev_sipushN 520 dX9_init_182 (by decide) ?_
  refine ev_newI dX9_init_185 (by decide) ?_
  refine ev_putR dX9_init_187 fX9_75 (by first | exact Or.inl rfl | exact Or.inr ⟨rfl, rfl, rfl, mfX9_75⟩) rfl ?_
  refine ev_aload_n dX9_init_190 rfl ?_
  refine ev_sipushN 520 dX9_init_191 (by decide) ?_
  refine ev_newZ dX9_init_194 (by decide) ?_
  refine ev_putR dX9_init_196 fX9_78 (by first | exact Or.inl rfl | exact Or.inr ⟨rfl, rfl, rfl, mfX9_78⟩) rfl ?_
  refine ev_return dX9_init_199 rfl ?_
  exact ⟨rfl, rfl⟩
end C98V
