section M26
variable {X : CX} {d : Nat} {K : Nat → Nat} {I : Nat → Nat → Int32} {J : Nat → Nat → Int64} {R : Nat → Nat → Option Nat} {A : Nat → Nat → Int32} {B : Nat → Nat → Option Nat} {Ln : Nat → Nat} {n sl : Nat}
theorem cnt_list {α : Type} {P : α → Bool} {p : Nat → Bool} : ∀ (k : Nat) (l : List α), l.length = k → (∀ j x, l[j]? = some x → p j = P x) → cnt p k = (l.filter P).length
  | 0, l, hl, _ => by
    have : l = [] := List.eq_nil_of_length_eq_zero hl
    subst this
    rfl
  | k + 1, l, hl, h => by
    obtain ⟨q, x, rfl, hq⟩ := snoc_of hl
    have h1 := cnt_list k q hq (fun j y hj => h j y (by rw [List.getElem?_append_left (List.getElem?_eq_some_iff.mp hj).1]; exact hj))
    have h2 := h k x (by rw [List.getElem?_append_right (by omega), hq, Nat.sub_self]; rfl)
    unfold cnt
    rw [h1, List.filter_append, List.length_append, h2]
    cases hp : P x <;> simp [hp]
theorem FlA.cnt {A : Nat → Nat → Int32} {fl : List (Int32 × Int32)} (h : FlA A fl) (x : Int32) : cnt (fun e => decide (A 24 e = x)) fl.length = (fl.filter (fun p => decide (p.2 = x))).length := cnt_list _ fl rfl (fun j p hj => by rw [(h j p hj).2])
/-- what 'file' says of a file -/
def afV (A : Nat → Nat → Int32) (many : Nat) (x : Int32) (w : Nat) : Int32 := if w = 0 then x else if w = 1 then nI (cnt (fun e => decide (A 22 e = x)) many) else (if (w - 2) % 3 = 0 then A 16 (eN A many (decide (w < 5)) x) else if (w - 2) % 3 = 1 then A 17 (eN A many (decide (w < 5)) x) else A 18 (eN A many (decide (w < 5)) x))
set_option maxRecDepth 100000 in
set_option maxHeartbeats 4000000 in
theorem sp_aboutFile (hM : MFix K R Ln) {many : Nat} (hm : I 582 11 = nI many) (hbm : many ≤ 520) {x : Int32} {w : Nat} (hw : w < 8) (hx : HasE A many x) : EvM X mX9_aboutFile (d + 3) [rV (some 11), iV x, iV (nI w)] (K, I, J, R, A, B, Ln, n, sl) (fun r G' => r = some (iV (afV A many x w)) ∧ G' = (K, I, J, R, A, B, Ln, n, sl)) := by
  have hend : ∀ b, EvM X mX9_end (d + 2) [rV (some 11), iV x, iV (bZ b)] (K, I, J, R, A, B, Ln, n, sl) (fun r G' => r = some (iV (nI (eN A many b x))) ∧ G' = (K, I, J, R, A, B, Ln, n, sl)) := fun b => by
    have h := sp_end (X := X) (d := d) (J := J) (A := A) (B := B) (n := n) (sl := sl) (x := x) (fst := b) hM hm hbm
    rw [hx.get b] at h
    exact h
  have hlt : ∀ b, eN A many b x < 520 := fun b => Nat.lt_of_lt_of_le (endN_lt (hx.get b)) hbm
  rcases (show w = 0 ∨ w = 1 ∨ w = 2 ∨ w = 3 ∨ w = 4 ∨ w = 5 ∨ w = 6 ∨ w = 7 by omega) with rfl | rfl | rfl | rfl | rfl | rfl | rfl | rfl
  · show Ev X mX9_aboutFile (d + 3) 0 [some (rV (some 11)), some (iV x), some (iV (nI 0)), none, none] [] (K, I, J, R, A, B, Ln, n, sl) _
    refine ev_iload_n dX9_aboutFile_0 rfl ?_
    refine ev_iconstN 2 dX9_aboutFile_1 (by decide) ?_
    refine ev_icmp_geN 19 dX9_aboutFile_2 (by decide) (by omega) (by omega) (fun c2 => absurd c2 (by decide)) (fun c2 => ?_)
    refine ev_iload_n dX9_aboutFile_5 rfl ?_
    refine ev_if_neN 13 dX9_aboutFile_6 (by decide) (by omega) (fun c6 => absurd c6 (by decide)) (fun c6 => ?_)
    refine ev_iload_n dX9_aboutFile_9 rfl ?_
    refine ev_goto 18 dX9_aboutFile_10 (by decide) ?_
    refine ev_ireturn dX9_aboutFile_18 rfl ?_
    exact ⟨rfl, rfl⟩
  · show Ev X mX9_aboutFile (d + 3) 0 [some (rV (some 11)), some (iV x), some (iV (nI 1)), none, none] [] (K, I, J, R, A, B, Ln, n, sl) _
    refine ev_iload_n dX9_aboutFile_0 rfl ?_
    refine ev_iconstN 2 dX9_aboutFile_1 (by decide) ?_
    refine ev_icmp_geN 19 dX9_aboutFile_2 (by decide) (by omega) (by omega) (fun c2 => absurd c2 (by decide)) (fun c2 => ?_)
    refine ev_iload_n dX9_aboutFile_5 rfl ?_
    refine ev_if_neN 13 dX9_aboutFile_6 (by decide) (by omega) (fun c6 => ?_) (fun c6 => absurd c6 (by decide))
    refine ev_aload_n dX9_aboutFile_13 rfl ?_
    refine ev_iload_n dX9_aboutFile_14 rfl ?_
    refine ev_callV dX9_aboutFile_15 okX9_inFile inX9_inFile seX9_inFile mlX9_152 hM.m (by decide) rfl [iV _] rfl rfl (Nat.le_of_ble_eq_true rfl) (Nat.le_of_ble_eq_true rfl) (sp_inFile hM hm hbm) (fun r_ G_ h_ => ?_)
    obtain ⟨rfl, rfl⟩ := h_
    try dsimp only [Option.toList, List.cons_append, List.nil_append]
    refine ev_ireturn dX9_aboutFile_18 rfl ?_
    exact ⟨rfl, rfl⟩
  · show Ev X mX9_aboutFile (d + 3) 0 [some (rV (some 11)), some (iV x), some (iV (nI 2)), none, none] [] (K, I, J, R, A, B, Ln, n, sl) _
    refine ev_iload_n dX9_aboutFile_0 rfl ?_
    refine ev_iconstN 2 dX9_aboutFile_1 (by decide) ?_
    refine ev_icmp_geN 19 dX9_aboutFile_2 (by decide) (by omega) (by omega) (fun c2 => ?_) (fun c2 => absurd c2 (by decide))
    refine ev_aload_n dX9_aboutFile_19 rfl ?_
    refine ev_iload_n dX9_aboutFile_20 rfl ?_
    refine ev_iload_n dX9_aboutFile_21 rfl ?_
    refine ev_iconstN 5 dX9_aboutFile_22 (by decide) ?_
    refine ev_icmp_geN 30 dX9_aboutFile_23 (by decide) (by omega) (by omega) (fun c23 => absurd c23 (by decide)) (fun c23 => ?_)
    refine ev_iconstN 1 dX9_aboutFile_26 (by decide) ?_
    refine ev_goto 31 dX9_aboutFile_27 (by decide) ?_
    refine ev_callV dX9_aboutFile_31 okX9_end inX9_end seX9_end mlX9_185 hM.m (by decide) rfl [iV _, iV _] rfl rfl (Nat.le_of_ble_eq_true rfl) (Nat.le_of_ble_eq_true rfl) (hend true) (fun r_ G_ h_ => ?_)
    obtain ⟨rfl, rfl⟩ := h_
    try dsimp only [Option.toList, List.cons_append, List.nil_append]
    refine ev_istore_nS dX9_aboutFile_34 (by decide) rfl ?_
    refine ev_iload_n dX9_aboutFile_35 rfl ?_
    refine ev_iconstN 2 dX9_aboutFile_36 (by decide) ?_
    refine ev_isubN dX9_aboutFile_37 (by omega) ?_
    refine ev_iconstN 3 dX9_aboutFile_38 (by decide) ?_
    refine ev_iremN dX9_aboutFile_39 (by omega) (by omega) (by omega) ?_
    refine ev_istoreS dX9_aboutFile_40 (by decide) rfl ?_
    refine ev_iload dX9_aboutFile_42 rfl ?_
    refine ev_if_neN 56 dX9_aboutFile_44 (by decide) (by omega) (fun c44 => absurd c44 (by decide)) (fun c44 => ?_)
    refine ev_aload_n dX9_aboutFile_47 rfl ?_
    refine ev_getR dX9_aboutFile_48 fX9_23 hM.m hM.R_space ?_
    refine ev_iload_n dX9_aboutFile_51 rfl ?_
    refine ev_iald dX9_aboutFile_52 hM.K_space hM.L_space (by decide) (hlt true) ?_
    refine ev_goto 77 dX9_aboutFile_53 (by decide) ?_
    refine ev_ireturn dX9_aboutFile_77 rfl ?_
    exact ⟨rfl, rfl⟩
  · show Ev X mX9_aboutFile (d + 3) 0 [some (rV (some 11)), some (iV x), some (iV (nI 3)), none, none] [] (K, I, J, R, A, B, Ln, n, sl) _
    refine ev_iload_n dX9_aboutFile_0 rfl ?_
    refine ev_iconstN 2 dX9_aboutFile_1 (by decide) ?_
    refine ev_icmp_geN 19 dX9_aboutFile_2 (by decide) (by omega) (by omega) (fun c2 => ?_) (fun c2 => absurd c2 (by decide))
    refine ev_aload_n dX9_aboutFile_19 rfl ?_
    refine ev_iload_n dX9_aboutFile_20 rfl ?_
    refine ev_iload_n dX9_aboutFile_21 rfl ?_
    refine ev_iconstN 5 dX9_aboutFile_22 (by decide) ?_
    refine ev_icmp_geN 30 dX9_aboutFile_23 (by decide) (by omega) (by omega) (fun c23 => absurd c23 (by decide)) (fun c23 => ?_)
    refine ev_iconstN 1 dX9_aboutFile_26 (by decide) ?_
    refine ev_goto 31 dX9_aboutFile_27 (by decide) ?_
    refine ev_callV dX9_aboutFile_31 okX9_end inX9_end seX9_end mlX9_185 hM.m (by decide) rfl [iV _, iV _] rfl rfl (Nat.le_of_ble_eq_true rfl) (Nat.le_of_ble_eq_true rfl) (hend true) (fun r_ G_ h_ => ?_)
    obtain ⟨rfl, rfl⟩ := h_
    try dsimp only [Option.toList, List.cons_append, List.nil_append]
    refine ev_istore_nS dX9_aboutFile_34 (by decide) rfl ?_
    refine ev_iload_n dX9_aboutFile_35 rfl ?_
    refine ev_iconstN 2 dX9_aboutFile_36 (by decide) ?_
    refine ev_isubN dX9_aboutFile_37 (by omega) ?_
    refine ev_iconstN 3 dX9_aboutFile_38 (by decide) ?_
    refine ev_iremN dX9_aboutFile_39 (by omega) (by omega) (by omega) ?_
    refine ev_istoreS dX9_aboutFile_40 (by decide) rfl ?_
    refine ev_iload dX9_aboutFile_42 rfl ?_
    refine ev_if_neN 56 dX9_aboutFile_44 (by decide) (by omega) (fun c44 => ?_) (fun c44 => absurd c44 (by decide))
    refine ev_iload dX9_aboutFile_56 rfl ?_
    refine ev_iconstN 1 dX9_aboutFile_58 (by decide) ?_
    refine ev_icmp_neN 71 dX9_aboutFile_59 (by decide) (by omega) (by omega) (fun c59 => absurd c59 (by decide)) (fun c59 => ?_)
    refine ev_aload_n dX9_aboutFile_62 rfl ?_
    refine ev_getR dX9_aboutFile_63 fX9_26 hM.m hM.R_value ?_
    refine ev_iload_n dX9_aboutFile_66 rfl ?_
    refine ev_iald dX9_aboutFile_67 hM.K_value hM.L_value (by decide) (hlt true) ?_
    refine ev_goto 77 dX9_aboutFile_68 (by decide) ?_
    refine ev_ireturn dX9_aboutFile_77 rfl ?_
    exact ⟨rfl, rfl⟩
  · show Ev X mX9_aboutFile (d + 3) 0 [some (rV (some 11)), some (iV x), some (iV (nI 4)), none, none] [] (K, I, J, R, A, B, Ln, n, sl) _
    refine ev_iload_n dX9_aboutFile_0 rfl ?_
    refine ev_iconstN 2 dX9_aboutFile_1 (by decide) ?_
    refine ev_icmp_geN 19 dX9_aboutFile_2 (by decide) (by omega) (by omega) (fun c2 => ?_) (fun c2 => absurd c2 (by decide))
    refine ev_aload_n dX9_aboutFile_19 rfl ?_
    refine ev_iload_n dX9_aboutFile_20 rfl ?_
    refine ev_iload_n dX9_aboutFile_21 rfl ?_
    refine ev_iconstN 5 dX9_aboutFile_22 (by decide) ?_
    refine ev_icmp_geN 30 dX9_aboutFile_23 (by decide) (by omega) (by omega) (fun c23 => absurd c23 (by decide)) (fun c23 => ?_)
    refine ev_iconstN 1 dX9_aboutFile_26 (by decide) ?_
    refine ev_goto 31 dX9_aboutFile_27 (by decide) ?_
    refine ev_callV dX9_aboutFile_31 okX9_end inX9_end seX9_end mlX9_185 hM.m (by decide) rfl [iV _, iV _] rfl rfl (Nat.le_of_ble_eq_true rfl) (Nat.le_of_ble_eq_true rfl) (hend true) (fun r_ G_ h_ => ?_)
    obtain ⟨rfl, rfl⟩ := h_
    try dsimp only [Option.toList, List.cons_append, List.nil_append]
    refine ev_istore_nS dX9_aboutFile_34 (by decide) rfl ?_
    refine ev_iload_n dX9_aboutFile_35 rfl ?_
    refine ev_iconstN 2 dX9_aboutFile_36 (by decide) ?_
    refine ev_isubN dX9_aboutFile_37 (by omega) ?_
    refine ev_iconstN 3 dX9_aboutFile_38 (by decide) ?_
    refine ev_iremN dX9_aboutFile_39 (by omega) (by omega) (by omega) ?_
    refine ev_istoreS dX9_aboutFile_40 (by decide) rfl ?_
    refine ev_iload dX9_aboutFile_42 rfl ?_
    refine ev_if_neN 56 dX9_aboutFile_44 (by decide) (by omega) (fun c44 => ?_) (fun c44 => absurd c44 (by decide))
    refine ev_iload dX9_aboutFile_56 rfl ?_
    refine ev_iconstN 1 dX9_aboutFile_58 (by decide) ?_
    refine ev_icmp_neN 71 dX9_aboutFile_59 (by decide) (by omega) (by omega) (fun c59 => ?_) (fun c59 => absurd c59 (by decide))
    refine ev_aload_n dX9_aboutFile_71 rfl ?_
    refine ev_getR dX9_aboutFile_72 fX9_29 hM.m hM.R_key ?_
    refine ev_iload_n dX9_aboutFile_75 rfl ?_
    refine ev_iald dX9_aboutFile_76 hM.K_key hM.L_key (by decide) (hlt true) ?_
    refine ev_ireturn dX9_aboutFile_77 rfl ?_
    exact ⟨rfl, rfl⟩
  · show Ev X mX9_aboutFile (d + 3) 0 [some (rV (some 11)), some (iV x), some (iV (nI 5)), none, none] [] (K, I, J, R, A, B, Ln, n, sl) _
    refine ev_iload_n dX9_aboutFile_0 rfl ?_
    refine ev_iconstN 2 dX9_aboutFile_1 (by decide) ?_
    refine ev_icmp_geN 19 dX9_aboutFile_2 (by decide) (by omega) (by omega) (fun c2 => ?_) (fun c2 => absurd c2 (by decide))
    refine ev_aload_n dX9_aboutFile_19 rfl ?_
    refine ev_iload_n dX9_aboutFile_20 rfl ?_
    refine ev_iload_n dX9_aboutFile_21 rfl ?_
    refine ev_iconstN 5 dX9_aboutFile_22 (by decide) ?_
    refine ev_icmp_geN 30 dX9_aboutFile_23 (by decide) (by omega) (by omega) (fun c23 => ?_) (fun c23 => absurd c23 (by decide))
    refine ev_iconstN 0 dX9_aboutFile_30 (by decide) ?_
    refine ev_callV dX9_aboutFile_31 okX9_end inX9_end seX9_end mlX9_185 hM.m (by decide) rfl [iV _, iV _] rfl rfl (Nat.le_of_ble_eq_true rfl) (Nat.le_of_ble_eq_true rfl) (hend false) (fun r_ G_ h_ => ?_)
    obtain ⟨rfl, rfl⟩ := h_
    try dsimp only [Option.toList, List.cons_append, List.nil_append]
    refine ev_istore_nS dX9_aboutFile_34 (by decide) rfl ?_
    refine ev_iload_n dX9_aboutFile_35 rfl ?_
    refine ev_iconstN 2 dX9_aboutFile_36 (by decide) ?_
    refine ev_isubN dX9_aboutFile_37 (by omega) ?_
    refine ev_iconstN 3 dX9_aboutFile_38 (by decide) ?_
    refine ev_iremN dX9_aboutFile_39 (by omega) (by omega) (by omega) ?_
    refine ev_istoreS dX9_aboutFile_40 (by decide) rfl ?_
    refine ev_iload dX9_aboutFile_42 rfl ?_
    refine ev_if_neN 56 dX9_aboutFile_44 (by decide) (by omega) (fun c44 => absurd c44 (by decide)) (fun c44 => ?_)
    refine ev_aload_n dX9_aboutFile_47 rfl ?_
    refine ev_getR dX9_aboutFile_48 fX9_23 hM.m hM.R_space ?_
    refine ev_iload_n dX9_aboutFile_51 rfl ?_
    refine ev_iald dX9_aboutFile_52 hM.K_space hM.L_space (by decide) (hlt false) ?_
    refine ev_goto 77 dX9_aboutFile_53 (by decide) ?_
    refine ev_ireturn dX9_aboutFile_77 rfl ?_
    exact ⟨rfl, rfl⟩
  · show Ev X mX9_aboutFile (d + 3) 0 [some (rV (some 11)), some (iV x), some (iV (nI 6)), none, none] [] (K, I, J, R, A, B, Ln, n, sl) _
    refine ev_iload_n dX9_aboutFile_0 rfl ?_
    refine ev_iconstN 2 dX9_aboutFile_1 (by decide) ?_
    refine ev_icmp_geN 19 dX9_aboutFile_2 (by decide) (by omega) (by omega) (fun c2 => ?_) (fun c2 => absurd c2 (by decide))
    refine ev_aload_n dX9_aboutFile_19 rfl ?_
    refine ev_iload_n dX9_aboutFile_20 rfl ?_
    refine ev_iload_n dX9_aboutFile_21 rfl ?_
    refine ev_iconstN 5 dX9_aboutFile_22 (by decide) ?_
    refine ev_icmp_geN 30 dX9_aboutFile_23 (by decide) (by omega) (by omega) (fun c23 => ?_) (fun c23 => absurd c23 (by decide))
    refine ev_iconstN 0 dX9_aboutFile_30 (by decide) ?_
    refine ev_callV dX9_aboutFile_31 okX9_end inX9_end seX9_end mlX9_185 hM.m (by decide) rfl [iV _, iV _] rfl rfl (Nat.le_of_ble_eq_true rfl) (Nat.le_of_ble_eq_true rfl) (hend false) (fun r_ G_ h_ => ?_)
    obtain ⟨rfl, rfl⟩ := h_
    try dsimp only [Option.toList, List.cons_append, List.nil_append]
    refine ev_istore_nS dX9_aboutFile_34 (by decide) rfl ?_
    refine ev_iload_n dX9_aboutFile_35 rfl ?_
    refine ev_iconstN 2 dX9_aboutFile_36 (by decide) ?_
    refine ev_isubN dX9_aboutFile_37 (by omega) ?_
    refine ev_iconstN 3 dX9_aboutFile_38 (by decide) ?_
    refine ev_iremN dX9_aboutFile_39 (by omega) (by omega) (by omega) ?_
    refine ev_istoreS dX9_aboutFile_40 (by decide) rfl ?_
    refine ev_iload dX9_aboutFile_42 rfl ?_
    refine ev_if_neN 56 dX9_aboutFile_44 (by decide) (by omega) (fun c44 => ?_) (fun c44 => absurd c44 (by decide))
    refine ev_iload dX9_aboutFile_56 rfl ?_
    refine ev_iconstN 1 dX9_aboutFile_58 (by decide) ?_
    refine ev_icmp_neN 71 dX9_aboutFile_59 (by decide) (by omega) (by omega) (fun c59 => absurd c59 (by decide)) (fun c59 => ?_)
    refine ev_aload_n dX9_aboutFile_62 rfl ?_
    refine ev_getR dX9_aboutFile_63 fX9_26 hM.m hM.R_value ?_
    refine ev_iload_n dX9_aboutFile_66 rfl ?_
    refine ev_iald dX9_aboutFile_67 hM.K_value hM.L_value (by decide) (hlt false) ?_
    refine ev_goto 77 dX9_aboutFile_68 (by decide) ?_
    refine ev_ireturn dX9_aboutFile_77 rfl ?_
    exact ⟨rfl, rfl⟩
  · show Ev X mX9_aboutFile (d + 3) 0 [some (rV (some 11)), some (iV x), some (iV (nI 7)), none, none] [] (K, I, J, R, A, B, Ln, n, sl) _
    refine ev_iload_n dX9_aboutFile_0 rfl ?_
    refine ev_iconstN 2 dX9_aboutFile_1 (by decide) ?_
    refine ev_icmp_geN 19 dX9_aboutFile_2 (by decide) (by omega) (by omega) (fun c2 => ?_) (fun c2 => absurd c2 (by decide))
    refine ev_aload_n dX9_aboutFile_19 rfl ?_
    refine ev_iload_n dX9_aboutFile_20 rfl ?_
    refine ev_iload_n dX9_aboutFile_21 rfl ?_
    refine ev_iconstN 5 dX9_aboutFile_22 (by decide) ?_
    refine ev_icmp_geN 30 dX9_aboutFile_23 (by decide) (by omega) (by omega) (fun c23 => ?_) (fun c23 => absurd c23 (by decide))
    refine ev_iconstN 0 dX9_aboutFile_30 (by decide) ?_
    refine ev_callV dX9_aboutFile_31 okX9_end inX9_end seX9_end mlX9_185 hM.m (by decide) rfl [iV _, iV _] rfl rfl (Nat.le_of_ble_eq_true rfl) (Nat.le_of_ble_eq_true rfl) (hend false) (fun r_ G_ h_ => ?_)
    obtain ⟨rfl, rfl⟩ := h_
    try dsimp only [Option.toList, List.cons_append, List.nil_append]
    refine ev_istore_nS dX9_aboutFile_34 (by decide) rfl ?_
    refine ev_iload_n dX9_aboutFile_35 rfl ?_
    refine ev_iconstN 2 dX9_aboutFile_36 (by decide) ?_
    refine ev_isubN dX9_aboutFile_37 (by omega) ?_
    refine ev_iconstN 3 dX9_aboutFile_38 (by decide) ?_
    refine ev_iremN dX9_aboutFile_39 (by omega) (by omega) (by omega) ?_
    refine ev_istoreS dX9_aboutFile_40 (by decide) rfl ?_
    refine ev_iload dX9_aboutFile_42 rfl ?_
    refine ev_if_neN 56 dX9_aboutFile_44 (by decide) (by omega) (fun c44 => ?_) (fun c44 => absurd c44 (by decide))
    refine ev_iload dX9_aboutFile_56 rfl ?_
    refine ev_iconstN 1 dX9_aboutFile_58 (by decide) ?_
    refine ev_icmp_neN 71 dX9_aboutFile_59 (by decide) (by omega) (by omega) (fun c59 => ?_) (fun c59 => absurd c59 (by decide))
    refine ev_aload_n dX9_aboutFile_71 rfl ?_
    refine ev_getR dX9_aboutFile_72 fX9_29 hM.m hM.R_key ?_
    refine ev_iload_n dX9_aboutFile_75 rfl ?_
    refine ev_iald dX9_aboutFile_76 hM.K_key hM.L_key (by decide) (hlt false) ?_
    refine ev_ireturn dX9_aboutFile_77 rfl ?_
    exact ⟨rfl, rfl⟩
def kfV (A : Nat → Nat → Int32) (many w : Nat) : Option (Int32 × Int32) → Int32
  | none => -1
  | some p => afV A many p.1 w
set_option maxRecDepth 100000 in
set_option maxHeartbeats 4000000 in
theorem lp_file {Q : Option LV → GH → Prop} (hM : MFix K R Ln) {many : Nat} (hm : I 582 11 = nI many) (hbm : many ≤ 520) {fl : List (Int32 × Int32)} (hfl : FlA A fl) (hfn : I 590 11 = nI fl.length) (hfb : fl.length ≤ 520) (hne : ∀ p ∈ fl, HasE A many p.1) {x : Int32} {w : Nat} (hw : w < 8) {w2 : Option LV} : ∀ (post pre : List (Int32 × Int32)) (left : Nat), fl = pre ++ post → left < 2147483648 → Q (some (iV (kfV A many w ((post.filter (fun p => decide (p.2 = x)))[left]?)))) (K, I, J, R, A, B, Ln, n, sl) → Ev X mX9_file (d + 4) 31 [some (rV (some 11)), some (iV x), w2, some (iV (nI w)), some (iV (nI (left))), some (iV (nI (pre.length)))] [] (K, I, J, R, A, B, Ln, n, sl) Q := by
  intro post
  induction post with
  | nil =>
    intro pre left hf hlb hq
    have hpl : pre.length = fl.length := by rw [hf]; simp
    refine ev_iload dX9_file_31 rfl ?_
    refine ev_aload_n dX9_file_33 rfl ?_
    refine ev_getIv dX9_file_34 fX9_167 hM.m hfn ?_
    refine ev_icmp_geN 78 dX9_file_37 (by decide) (by omega) (by omega) (fun c37 => ?_) (fun c37 => absurd c37 (by omega))
    refine ev_iconst (-1) dX9_file_78 (by decide) ?_
    refine ev_ireturn dX9_file_79 rfl ?_
    exact hq
  | cons p post ih =>
    intro pre left hf hlb hq
    have hpl : pre.length + (post.length + 1) = fl.length := by rw [hf]; simp
    have hmid := (show FlA A (pre ++ p :: post) from hf ▸ hfl).mid
    have hf' : fl = (pre ++ [p]) ++ post := by rw [hf]; simp
    have hpe : (pre ++ [p]).length = pre.length + 1 := by simp
    have ih' := fun left => ih (pre ++ [p]) left hf'
    rw [hpe] at ih'
    by_cases hx : p.2 = x
    · have hfc : (p :: post).filter (fun p => decide (p.2 = x)) = p :: post.filter (fun p => decide (p.2 = x)) := by rw [List.filter_cons, if_pos (decide_eq_true hx)]
      rw [hfc] at hq
      cases left with
      | zero =>
        change Q (some (iV (afV A many p.1 w))) (K, I, J, R, A, B, Ln, n, sl) at hq
        refine ev_iload dX9_file_31 rfl ?_
        refine ev_aload_n dX9_file_33 rfl ?_
        refine ev_getIv dX9_file_34 fX9_167 hM.m hfn ?_
        refine ev_icmp_geN 78 dX9_file_37 (by decide) (by omega) (by omega) (fun c37 => absurd c37 (by omega)) (fun c37 => ?_)
        refine ev_aload_n dX9_file_40 rfl ?_
        refine ev_getR dX9_file_41 fX9_47 hM.m hM.R_level ?_
        refine ev_iload dX9_file_44 rfl ?_
        refine ev_ialdv dX9_file_46 hM.K_level hM.L_level (by decide) (by omega) hmid.2 ?_
        refine ev_iload_n dX9_file_47 rfl ?_
        refine ev_icmp_ne 72 dX9_file_48 (by decide) (fun c48 => absurd hx c48) (fun c48 => ?_)
        refine ev_iload dX9_file_51 rfl ?_
        refine ev_if_neN 69 dX9_file_53 (by decide) (by omega) (fun c53 => absurd c53 (by decide)) (fun c53 => ?_)
        refine ev_aload_n dX9_file_56 rfl ?_
        refine ev_aload_n dX9_file_57 rfl ?_
        refine ev_getR dX9_file_58 fX9_44 hM.m hM.R_number ?_
        refine ev_iload dX9_file_61 rfl ?_
        refine ev_ialdv dX9_file_63 hM.K_number hM.L_number (by decide) (by omega) hmid.1 ?_
        refine ev_iload_n dX9_file_64 rfl ?_
        refine ev_callV dX9_file_65 okX9_aboutFile inX9_aboutFile seX9_aboutFile mlX9_257 hM.m (by decide) rfl [iV _, iV _] rfl rfl (Nat.le_of_ble_eq_true rfl) (Nat.le_of_ble_eq_true rfl) (sp_aboutFile hM hm hbm hw (hne p (by rw [hf]; simp))) (fun r_ G_ h_ => ?_)
        obtain ⟨rfl, rfl⟩ := h_
        try dsimp only [Option.toList, List.cons_append, List.nil_append]
        refine ev_ireturn dX9_file_68 rfl ?_
        exact hq
      | succ left =>
        have hgo := ih' left (by omega) hq
        refine ev_iload dX9_file_31 rfl ?_
        refine ev_aload_n dX9_file_33 rfl ?_
        refine ev_getIv dX9_file_34 fX9_167 hM.m hfn ?_
        refine ev_icmp_geN 78 dX9_file_37 (by decide) (by omega) (by omega) (fun c37 => absurd c37 (by omega)) (fun c37 => ?_)
        refine ev_aload_n dX9_file_40 rfl ?_
        refine ev_getR dX9_file_41 fX9_47 hM.m hM.R_level ?_
        refine ev_iload dX9_file_44 rfl ?_
        refine ev_ialdv dX9_file_46 hM.K_level hM.L_level (by decide) (by omega) hmid.2 ?_
        refine ev_iload_n dX9_file_47 rfl ?_
        refine ev_icmp_ne 72 dX9_file_48 (by decide) (fun c48 => absurd hx c48) (fun c48 => ?_)
        refine ev_iload dX9_file_51 rfl ?_
        refine ev_if_neN 69 dX9_file_53 (by decide) (by omega) (fun c53 => ?_) (fun c53 => absurd c53 (by omega))
        refine ev_iincMS dX9_file_69 rfl (by decide) (by decide) rfl ?_
        refine ev_iincNS (b := 1) dX9_file_72 rfl (by decide) (by decide) rfl ?_
        refine ev_goto 31 dX9_file_75 (by decide) ?_
        exact hgo
    · have hfc : (p :: post).filter (fun p => decide (p.2 = x)) = post.filter (fun p => decide (p.2 = x)) := by rw [List.filter_cons, if_neg (by rw [decide_eq_false hx]; decide)]
      rw [hfc] at hq
      have hgo := ih' left hlb hq
      refine ev_iload dX9_file_31 rfl ?_
      refine ev_aload_n dX9_file_33 rfl ?_
      refine ev_getIv dX9_file_34 fX9_167 hM.m hfn ?_
      refine ev_icmp_geN 78 dX9_file_37 (by decide) (by omega) (by omega) (fun c37 => absurd c37 (by omega)) (fun c37 => ?_)
      refine ev_aload_n dX9_file_40 rfl ?_
      refine ev_getR dX9_file_41 fX9_47 hM.m hM.R_level ?_
      refine ev_iload dX9_file_44 rfl ?_
      refine ev_ialdv dX9_file_46 hM.K_level hM.L_level (by decide) (by omega) hmid.2 ?_
      refine ev_iload_n dX9_file_47 rfl ?_
      refine ev_icmp_ne 72 dX9_file_48 (by decide) (fun c48 => ?_) (fun c48 => absurd c48 hx)
      refine ev_iincNS (b := 1) dX9_file_72 rfl (by decide) (by decide) rfl ?_
      refine ev_goto 31 dX9_file_75 (by decide) ?_
      exact hgo
theorem sp_file (hM : MFix K R Ln) {many : Nat} (hm : I 582 11 = nI many) (hbm : many ≤ 520) {fl : List (Int32 × Int32)} (hfl : FlA A fl) (hfn : I 590 11 = nI fl.length) (hfb : fl.length ≤ 520) (hne : ∀ p ∈ fl, HasE A many p.1) {x : Int32} (hx0 : ¬ x < 0) (hx2 : ¬ 2 < x) {k w : Nat} (hk : k < 2147483648) (hw : w < 8) : EvM X mX9_file (d + 4) [rV (some 11), iV x, iV (nI k), iV (nI w)] (K, I, J, R, A, B, Ln, n, sl) (fun r G' => r = some (iV (kfV A many w ((fl.filter (fun p => decide (p.2 = x)))[k]?))) ∧ G' = (K, I, J, R, A, B, Ln, n, sl)) := by
  show Ev X mX9_file (d + 4) 0 [some (rV (some 11)), some (iV x), some (iV (nI k)), some (iV (nI w)), none, none] [] (K, I, J, R, A, B, Ln, n, sl) _
  refine ev_iload_n dX9_file_0 rfl ?_
  refine ev_if_lt 23 dX9_file_1 (by decide) (fun c1 => absurd c1 hx0) (fun c1 => ?_)
  refine ev_iload_n dX9_file_4 rfl ?_
  refine ev_iconstN 2 dX9_file_5 (by decide) ?_
  refine ev_icmp_gt (y := 2) 23 dX9_file_6 (by decide) (fun c6 => absurd c6 hx2) (fun c6 => ?_)
  refine ev_iload_n dX9_file_9 rfl ?_
  refine ev_if_ltN 23 dX9_file_10 (by decide) (by omega) ?_
  refine ev_iload_n dX9_file_13 rfl ?_
  refine ev_if_ltN 23 dX9_file_14 (by decide) (by omega) ?_
  refine ev_iload_n dX9_file_17 rfl ?_
  refine ev_bipushN 7 dX9_file_18 (by decide) ?_
  refine ev_icmp_leN 25 dX9_file_20 (by decide) (by omega) (by omega) (fun c20 => ?_) (fun c20 => absurd c20 (by omega))
  refine ev_iload_n dX9_file_25 rfl ?_
  refine ev_istoreS dX9_file_26 (by decide) rfl ?_
  refine ev_iconstN 0 dX9_file_28 (by decide) ?_
  refine ev_istoreS dX9_file_29 (by decide) rfl ?_
  exact lp_file hM hm hbm hfl hfn hfb hne hw fl [] k rfl hk ⟨rfl, rfl⟩
theorem sp_file_no (hM : MFix K R Ln) {x k w : Int32} (h : x < 0 ∨ 2 < x ∨ k < 0 ∨ w < 0 ∨ 7 < w) : EvM X mX9_file d [rV (some 11), iV x, iV k, iV w] (K, I, J, R, A, B, Ln, n, sl) (fun r G' => r = some (iV (-1)) ∧ G' = (K, I, J, R, A, B, Ln, n, sl)) := by
  show Ev X mX9_file d 0 [some (rV (some 11)), some (iV x), some (iV k), some (iV w), none, none] [] (K, I, J, R, A, B, Ln, n, sl) _
  refine ev_iload_n dX9_file_0 rfl ?_
  refine ev_if_lt 23 dX9_file_1 (by decide) (fun c1 => ?_) (fun c1 => ?_)
  · refine ev_iconst (-1) dX9_file_23 (by decide) ?_
    refine ev_ireturn dX9_file_24 rfl ?_
    exact ⟨rfl, rfl⟩
  · refine ev_iload_n dX9_file_4 rfl ?_
    refine ev_iconstN 2 dX9_file_5 (by decide) ?_
    refine ev_icmp_gt (y := 2) 23 dX9_file_6 (by decide) (fun c6 => ?_) (fun c6 => ?_)
    · refine ev_iconst (-1) dX9_file_23 (by decide) ?_
      refine ev_ireturn dX9_file_24 rfl ?_
      exact ⟨rfl, rfl⟩
    · refine ev_iload_n dX9_file_9 rfl ?_
      refine ev_if_lt 23 dX9_file_10 (by decide) (fun c10 => ?_) (fun c10 => ?_)
      · refine ev_iconst (-1) dX9_file_23 (by decide) ?_
        refine ev_ireturn dX9_file_24 rfl ?_
        exact ⟨rfl, rfl⟩
      · refine ev_iload_n dX9_file_13 rfl ?_
        refine ev_if_lt 23 dX9_file_14 (by decide) (fun c14 => ?_) (fun c14 => ?_)
        · refine ev_iconst (-1) dX9_file_23 (by decide) ?_
          refine ev_ireturn dX9_file_24 rfl ?_
          exact ⟨rfl, rfl⟩
        · refine ev_iload_n dX9_file_17 rfl ?_
          refine ev_bipushN 7 dX9_file_18 (by decide) ?_
          refine ev_icmp_le (y := 7) 25 dX9_file_20 (by decide) (fun c20 => ?_) (fun c20 => ?_)
          · exact absurd h (by rintro (z | z | z | z | z) <;> first | contradiction | exact absurd z (Int32.not_lt.mpr c20))
          · refine ev_iconst (-1) dX9_file_23 (by decide) ?_
            refine ev_ireturn dX9_file_24 rfl ?_
            exact ⟨rfl, rfl⟩
theorem sp_compact {Q : Option LV → GH → Prop} (hM : MFix K R Ln) {fl : List (Int32 × Int32)} (hfl : FlA A fl) (hfn : I 590 11 = nI fl.length) (hfb : fl.length ≤ 520) {l : Nat} (hl : l = if 0 < (fl.filter (fun p => decide (p.2 = 0))).length then 0 else 1) (hh : l = 0 ∨ 0 < (fl.filter (fun p => decide (p.2 = 1))).length) (hc : EvM X mX9_compacts (d + 1) [rV (some 11), iV (nI l)] (K, I, J, R, A, B, Ln, n, sl) Q) (hi : ∀ r G, Q r G → ∃ v, r = some (iV v)) : EvM X mX9_compact (d + 2) [rV (some 11)] (K, I, J, R, A, B, Ln, n, sl) Q := by
  have f0 := sp_files (X := X) (d := d + 1) (J := J) (A := A) (B := B) (n := n) (sl := sl) (x := 0) hM hfn hfb
  have f1 := sp_files (X := X) (d := d + 1) (J := J) (A := A) (B := B) (n := n) (sl := sl) (x := 1) hM hfn hfb
  rw [if_neg (by decide), hfl.cnt] at f0 f1
  have l0 : (fl.filter (fun p => decide (p.2 = 0))).length ≤ fl.length := List.length_filter_le _ _
  have l1 : (fl.filter (fun p => decide (p.2 = 1))).length ≤ fl.length := List.length_filter_le _ _
  show Ev X mX9_compact (d + 2) 0 [some (rV (some 11))] [] (K, I, J, R, A, B, Ln, n, sl) _
  by_cases h0 : 0 < (fl.filter (fun p => decide (p.2 = 0))).length
  · rw [if_pos h0] at hl
    subst hl
    refine ev_aload_n dX9_compact_0 rfl ?_
    refine ev_iconstN 0 dX9_compact_1 (by decide) ?_
    refine ev_callV dX9_compact_2 okX9_files inX9_files seX9_files mlX9_173 hM.m (by decide) rfl [iV _] rfl rfl (Nat.le_of_ble_eq_true rfl) (Nat.le_of_ble_eq_true rfl) (f0) (fun r_ G_ h_ => ?_)
    obtain ⟨rfl, rfl⟩ := h_
    try dsimp only [Option.toList, List.cons_append, List.nil_append]
    refine ev_if_leN 16 dX9_compact_5 (by decide) (by omega) (fun c5 => absurd c5 (by omega)) (fun c5 => ?_)
    refine ev_aload_n dX9_compact_8 rfl ?_
    refine ev_iconstN 0 dX9_compact_9 (by decide) ?_
    refine ev_callV dX9_compact_10 okX9_compacts inX9_compacts seX9_compacts mlX9_175 hM.m (by decide) rfl [iV _] rfl rfl (Nat.le_of_ble_eq_true rfl) (Nat.le_of_ble_eq_true rfl) (hc) (fun r_ G_ h_ => ?_)
    obtain ⟨v, rfl⟩ := hi r_ G_ h_
    try dsimp only [Option.toList, List.cons_append, List.nil_append]
    refine ev_goto 33 dX9_compact_13 (by decide) ?_
    refine ev_ireturn dX9_compact_33 rfl ?_
    exact h_
  · rw [if_neg h0] at hl
    subst hl
    have h1 := hh.resolve_left (by decide)
    refine ev_aload_n dX9_compact_0 rfl ?_
    refine ev_iconstN 0 dX9_compact_1 (by decide) ?_
    refine ev_callV dX9_compact_2 okX9_files inX9_files seX9_files mlX9_173 hM.m (by decide) rfl [iV _] rfl rfl (Nat.le_of_ble_eq_true rfl) (Nat.le_of_ble_eq_true rfl) (f0) (fun r_ G_ h_ => ?_)
    obtain ⟨rfl, rfl⟩ := h_
    try dsimp only [Option.toList, List.cons_append, List.nil_append]
    refine ev_if_leN 16 dX9_compact_5 (by decide) (by omega) (fun c5 => ?_) (fun c5 => absurd c5 (by omega))
    refine ev_aload_n dX9_compact_16 rfl ?_
    refine ev_iconstN 1 dX9_compact_17 (by decide) ?_
    refine ev_callV dX9_compact_18 okX9_files inX9_files seX9_files mlX9_173 hM.m (by decide) rfl [iV _] rfl rfl (Nat.le_of_ble_eq_true rfl) (Nat.le_of_ble_eq_true rfl) (f1) (fun r_ G_ h_ => ?_)
    obtain ⟨rfl, rfl⟩ := h_
    try dsimp only [Option.toList, List.cons_append, List.nil_append]
    refine ev_if_leN 32 dX9_compact_21 (by decide) (by omega) (fun c21 => absurd c21 (by omega)) (fun c21 => ?_)
    refine ev_aload_n dX9_compact_24 rfl ?_
    refine ev_iconstN 1 dX9_compact_25 (by decide) ?_
    refine ev_callV dX9_compact_26 okX9_compacts inX9_compacts seX9_compacts mlX9_175 hM.m (by decide) rfl [iV _] rfl rfl (Nat.le_of_ble_eq_true rfl) (Nat.le_of_ble_eq_true rfl) (hc) (fun r_ G_ h_ => ?_)
    obtain ⟨v, rfl⟩ := hi r_ G_ h_
    try dsimp only [Option.toList, List.cons_append, List.nil_append]
    refine ev_goto 33 dX9_compact_29 (by decide) ?_
    refine ev_ireturn dX9_compact_33 rfl ?_
    exact h_
theorem sp_compact_no (hM : MFix K R Ln) {fl : List (Int32 × Int32)} (hfl : FlA A fl) (hfn : I 590 11 = nI fl.length) (hfb : fl.length ≤ 520) (h0 : (fl.filter (fun p => decide (p.2 = 0))).length = 0) (h1 : (fl.filter (fun p => decide (p.2 = 1))).length = 0) : EvM X mX9_compact (d + 2) [rV (some 11)] (K, I, J, R, A, B, Ln, n, sl) (fun r G' => r = some (iV (-1)) ∧ G' = (K, I, J, R, A, B, Ln, n, sl)) := by
  have f0 := sp_files (X := X) (d := d + 1) (J := J) (A := A) (B := B) (n := n) (sl := sl) (x := 0) hM hfn hfb
  have f1 := sp_files (X := X) (d := d + 1) (J := J) (A := A) (B := B) (n := n) (sl := sl) (x := 1) hM hfn hfb
  rw [if_neg (by decide), hfl.cnt] at f0 f1
  rw [h0] at f0
  rw [h1] at f1
  show Ev X mX9_compact (d + 2) 0 [some (rV (some 11))] [] (K, I, J, R, A, B, Ln, n, sl) _
  refine ev_aload_n dX9_compact_0 rfl ?_
  refine ev_iconstN 0 dX9_compact_1 (by decide) ?_
  refine ev_callV dX9_compact_2 okX9_files inX9_files seX9_files mlX9_173 hM.m (by decide) rfl [iV _] rfl rfl (Nat.le_of_ble_eq_true rfl) (Nat.le_of_ble_eq_true rfl) (f0) (fun r_ G_ h_ => ?_)
  obtain ⟨rfl, rfl⟩ := h_
  try dsimp only [Option.toList, List.cons_append, List.nil_append]
  refine ev_if_leN 16 dX9_compact_5 (by decide) (by omega) (fun c5 => ?_) (fun c5 => absurd c5 (by decide))
  refine ev_aload_n dX9_compact_16 rfl ?_
  refine ev_iconstN 1 dX9_compact_17 (by decide) ?_
  refine ev_callV dX9_compact_18 okX9_files inX9_files seX9_files mlX9_173 hM.m (by decide) rfl [iV _] rfl rfl (Nat.le_of_ble_eq_true rfl) (Nat.le_of_ble_eq_true rfl) (f1) (fun r_ G_ h_ => ?_)
  obtain ⟨rfl, rfl⟩ := h_
  try dsimp only [Option.toList, List.cons_append, List.nil_append]
  refine ev_if_leN 32 dX9_compact_21 (by decide) (by omega) (fun c21 => ?_) (fun c21 => absurd c21 (by decide))
  refine ev_iconst (-1) dX9_compact_32 (by decide) ?_
  refine ev_ireturn dX9_compact_33 rfl ?_
  exact ⟨rfl, rfl⟩
end M26
