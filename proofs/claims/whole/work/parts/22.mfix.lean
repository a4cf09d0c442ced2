/-- the reference's object and its arrays, where the law makes them -/
def MFix (K : Nat → Nat) (R : Nat → Nat → Option Nat) (Ln : Nat → Nat) : Prop := K 11 = 9 ∧ (R 578 11 = some 12 ∧ K 12 = 100 ∧ Ln 12 = 11) ∧ (R 579 11 = some 13 ∧ K 13 = 100 ∧ Ln 13 = 165) ∧ (R 580 11 = some 14 ∧ K 14 = 100 ∧ Ln 14 = 165) ∧ (R 581 11 = some 15 ∧ K 15 = 101 ∧ Ln 15 = 11) ∧ (R 583 11 = some 16 ∧ K 16 = 100 ∧ Ln 16 = 520) ∧ (R 584 11 = some 17 ∧ K 17 = 100 ∧ Ln 17 = 520) ∧ (R 585 11 = some 18 ∧ K 18 = 100 ∧ Ln 18 = 520) ∧ (R 586 11 = some 19 ∧ K 19 = 100 ∧ Ln 19 = 520) ∧ (R 587 11 = some 20 ∧ K 20 = 101 ∧ Ln 20 = 520) ∧ (R 588 11 = some 21 ∧ K 21 = 100 ∧ Ln 21 = 1560) ∧ (R 589 11 = some 22 ∧ K 22 = 100 ∧ Ln 22 = 520) ∧ (R 591 11 = some 23 ∧ K 23 = 100 ∧ Ln 23 = 520) ∧ (R 592 11 = some 24 ∧ K 24 = 100 ∧ Ln 24 = 520) ∧ (R 596 11 = some 25 ∧ K 25 = 100 ∧ Ln 25 = 60) ∧ (R 597 11 = some 26 ∧ K 26 = 100 ∧ Ln 26 = 60) ∧ (R 598 11 = some 27 ∧ K 27 = 100 ∧ Ln 27 = 1920) ∧ (R 599 11 = some 28 ∧ K 28 = 100 ∧ Ln 28 = 5760) ∧ (R 600 11 = some 29 ∧ K 29 = 100 ∧ Ln 29 = 3) ∧ (R 601 11 = some 30 ∧ K 30 = 100 ∧ Ln 30 = 16) ∧ (R 602 11 = some 31 ∧ K 31 = 100 ∧ Ln 31 = 32) ∧ (R 611 11 = some 32 ∧ K 32 = 100 ∧ Ln 32 = 520) ∧ (R 613 11 = some 33 ∧ K 33 = 101 ∧ Ln 33 = 520)
section MFIX
variable {K : Nat → Nat} {R : Nat → Nat → Option Nat} {Ln : Nat → Nat}
theorem MFix.m (h : MFix K R Ln) : K 11 = 9 := h.1
theorem MFix.R_nodes (h : MFix K R Ln) : R 578 11 = some 12 := h.2.1.1
theorem MFix.K_nodes (h : MFix K R Ln) : K 12 = 100 := h.2.1.2.1
theorem MFix.L_nodes (h : MFix K R Ln) : Ln 12 = 11 := h.2.1.2.2
theorem MFix.R_op (h : MFix K R Ln) : R 579 11 = some 13 := h.2.2.1.1
theorem MFix.K_op (h : MFix K R Ln) : K 13 = 100 := h.2.2.1.2.1
theorem MFix.L_op (h : MFix K R Ln) : Ln 13 = 165 := h.2.2.1.2.2
theorem MFix.R_with (h : MFix K R Ln) : R 580 11 = some 14 := h.2.2.2.1.1
theorem MFix.K_with (h : MFix K R Ln) : K 14 = 100 := h.2.2.2.1.2.1
theorem MFix.L_with (h : MFix K R Ln) : Ln 14 = 165 := h.2.2.2.1.2.2
theorem MFix.R_bool (h : MFix K R Ln) : R 581 11 = some 15 := h.2.2.2.2.1.1
theorem MFix.K_bool (h : MFix K R Ln) : K 15 = 101 := h.2.2.2.2.1.2.1
theorem MFix.L_bool (h : MFix K R Ln) : Ln 15 = 11 := h.2.2.2.2.1.2.2
theorem MFix.R_space (h : MFix K R Ln) : R 583 11 = some 16 := h.2.2.2.2.2.1.1
theorem MFix.K_space (h : MFix K R Ln) : K 16 = 100 := h.2.2.2.2.2.1.2.1
theorem MFix.L_space (h : MFix K R Ln) : Ln 16 = 520 := h.2.2.2.2.2.1.2.2
theorem MFix.R_value (h : MFix K R Ln) : R 584 11 = some 17 := h.2.2.2.2.2.2.1.1
theorem MFix.K_value (h : MFix K R Ln) : K 17 = 100 := h.2.2.2.2.2.2.1.2.1
theorem MFix.L_value (h : MFix K R Ln) : Ln 17 = 520 := h.2.2.2.2.2.2.1.2.2
theorem MFix.R_key (h : MFix K R Ln) : R 585 11 = some 18 := h.2.2.2.2.2.2.2.1.1
theorem MFix.K_key (h : MFix K R Ln) : K 18 = 100 := h.2.2.2.2.2.2.2.1.2.1
theorem MFix.L_key (h : MFix K R Ln) : Ln 18 = 520 := h.2.2.2.2.2.2.2.1.2.2
theorem MFix.R_stamp (h : MFix K R Ln) : R 586 11 = some 19 := h.2.2.2.2.2.2.2.2.1.1
theorem MFix.K_stamp (h : MFix K R Ln) : K 19 = 100 := h.2.2.2.2.2.2.2.2.1.2.1
theorem MFix.L_stamp (h : MFix K R Ln) : Ln 19 = 520 := h.2.2.2.2.2.2.2.2.1.2.2
theorem MFix.R_live (h : MFix K R Ln) : R 587 11 = some 20 := h.2.2.2.2.2.2.2.2.2.1.1
theorem MFix.K_live (h : MFix K R Ln) : K 20 = 101 := h.2.2.2.2.2.2.2.2.2.1.2.1
theorem MFix.L_live (h : MFix K R Ln) : Ln 20 = 520 := h.2.2.2.2.2.2.2.2.2.1.2.2
theorem MFix.R_fields (h : MFix K R Ln) : R 588 11 = some 21 := h.2.2.2.2.2.2.2.2.2.2.1.1
theorem MFix.K_fields (h : MFix K R Ln) : K 21 = 100 := h.2.2.2.2.2.2.2.2.2.2.1.2.1
theorem MFix.L_fields (h : MFix K R Ln) : Ln 21 = 1560 := h.2.2.2.2.2.2.2.2.2.2.1.2.2
theorem MFix.R_file (h : MFix K R Ln) : R 589 11 = some 22 := h.2.2.2.2.2.2.2.2.2.2.2.1.1
theorem MFix.K_file (h : MFix K R Ln) : K 22 = 100 := h.2.2.2.2.2.2.2.2.2.2.2.1.2.1
theorem MFix.L_file (h : MFix K R Ln) : Ln 22 = 520 := h.2.2.2.2.2.2.2.2.2.2.2.1.2.2
theorem MFix.R_number (h : MFix K R Ln) : R 591 11 = some 23 := h.2.2.2.2.2.2.2.2.2.2.2.2.1.1
theorem MFix.K_number (h : MFix K R Ln) : K 23 = 100 := h.2.2.2.2.2.2.2.2.2.2.2.2.1.2.1
theorem MFix.L_number (h : MFix K R Ln) : Ln 23 = 520 := h.2.2.2.2.2.2.2.2.2.2.2.2.1.2.2
theorem MFix.R_level (h : MFix K R Ln) : R 592 11 = some 24 := h.2.2.2.2.2.2.2.2.2.2.2.2.2.1.1
theorem MFix.K_level (h : MFix K R Ln) : K 24 = 100 := h.2.2.2.2.2.2.2.2.2.2.2.2.2.1.2.1
theorem MFix.L_level (h : MFix K R Ln) : Ln 24 = 520 := h.2.2.2.2.2.2.2.2.2.2.2.2.2.1.2.2
theorem MFix.R_state (h : MFix K R Ln) : R 596 11 = some 25 := h.2.2.2.2.2.2.2.2.2.2.2.2.2.2.1.1
theorem MFix.K_state (h : MFix K R Ln) : K 25 = 100 := h.2.2.2.2.2.2.2.2.2.2.2.2.2.2.1.2.1
theorem MFix.L_state (h : MFix K R Ln) : Ln 25 = 60 := h.2.2.2.2.2.2.2.2.2.2.2.2.2.2.1.2.2
theorem MFix.R_began (h : MFix K R Ln) : R 597 11 = some 26 := h.2.2.2.2.2.2.2.2.2.2.2.2.2.2.2.1.1
theorem MFix.K_began (h : MFix K R Ln) : K 26 = 100 := h.2.2.2.2.2.2.2.2.2.2.2.2.2.2.2.1.2.1
theorem MFix.L_began (h : MFix K R Ln) : Ln 26 = 60 := h.2.2.2.2.2.2.2.2.2.2.2.2.2.2.2.1.2.2
theorem MFix.R_writes (h : MFix K R Ln) : R 598 11 = some 27 := h.2.2.2.2.2.2.2.2.2.2.2.2.2.2.2.2.1.1
theorem MFix.K_writes (h : MFix K R Ln) : K 27 = 100 := h.2.2.2.2.2.2.2.2.2.2.2.2.2.2.2.2.1.2.1
theorem MFix.L_writes (h : MFix K R Ln) : Ln 27 = 1920 := h.2.2.2.2.2.2.2.2.2.2.2.2.2.2.2.2.1.2.2
theorem MFix.R_rows (h : MFix K R Ln) : R 599 11 = some 28 := h.2.2.2.2.2.2.2.2.2.2.2.2.2.2.2.2.2.1.1
theorem MFix.K_rows (h : MFix K R Ln) : K 28 = 100 := h.2.2.2.2.2.2.2.2.2.2.2.2.2.2.2.2.2.1.2.1
theorem MFix.L_rows (h : MFix K R Ln) : Ln 28 = 5760 := h.2.2.2.2.2.2.2.2.2.2.2.2.2.2.2.2.2.1.2.2
theorem MFix.R_row (h : MFix K R Ln) : R 600 11 = some 29 := h.2.2.2.2.2.2.2.2.2.2.2.2.2.2.2.2.2.2.1.1
theorem MFix.K_row (h : MFix K R Ln) : K 29 = 100 := h.2.2.2.2.2.2.2.2.2.2.2.2.2.2.2.2.2.2.1.2.1
theorem MFix.L_row (h : MFix K R Ln) : Ln 29 = 3 := h.2.2.2.2.2.2.2.2.2.2.2.2.2.2.2.2.2.2.1.2.2
theorem MFix.R_numbers (h : MFix K R Ln) : R 601 11 = some 30 := h.2.2.2.2.2.2.2.2.2.2.2.2.2.2.2.2.2.2.2.1.1
theorem MFix.K_numbers (h : MFix K R Ln) : K 30 = 100 := h.2.2.2.2.2.2.2.2.2.2.2.2.2.2.2.2.2.2.2.1.2.1
theorem MFix.L_numbers (h : MFix K R Ln) : Ln 30 = 16 := h.2.2.2.2.2.2.2.2.2.2.2.2.2.2.2.2.2.2.2.1.2.2
theorem MFix.R_results (h : MFix K R Ln) : R 602 11 = some 31 := h.2.2.2.2.2.2.2.2.2.2.2.2.2.2.2.2.2.2.2.2.1.1
theorem MFix.K_results (h : MFix K R Ln) : K 31 = 100 := h.2.2.2.2.2.2.2.2.2.2.2.2.2.2.2.2.2.2.2.2.1.2.1
theorem MFix.L_results (h : MFix K R Ln) : Ln 31 = 32 := h.2.2.2.2.2.2.2.2.2.2.2.2.2.2.2.2.2.2.2.2.1.2.2
theorem MFix.R_order (h : MFix K R Ln) : R 611 11 = some 32 := h.2.2.2.2.2.2.2.2.2.2.2.2.2.2.2.2.2.2.2.2.2.1.1
theorem MFix.K_order (h : MFix K R Ln) : K 32 = 100 := h.2.2.2.2.2.2.2.2.2.2.2.2.2.2.2.2.2.2.2.2.2.1.2.1
theorem MFix.L_order (h : MFix K R Ln) : Ln 32 = 520 := h.2.2.2.2.2.2.2.2.2.2.2.2.2.2.2.2.2.2.2.2.2.1.2.2
theorem MFix.R_taken (h : MFix K R Ln) : R 613 11 = some 33 := h.2.2.2.2.2.2.2.2.2.2.2.2.2.2.2.2.2.2.2.2.2.2.1
theorem MFix.K_taken (h : MFix K R Ln) : K 33 = 101 := h.2.2.2.2.2.2.2.2.2.2.2.2.2.2.2.2.2.2.2.2.2.2.2.1
theorem MFix.L_taken (h : MFix K R Ln) : Ln 33 = 520 := h.2.2.2.2.2.2.2.2.2.2.2.2.2.2.2.2.2.2.2.2.2.2.2.2
end MFIX
