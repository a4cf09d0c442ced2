theorem two7 {a b : Int32} : twoI (nI 7) a b = if a < b then 1 else 0 := rfl
theorem two8 {a b : Int32} : twoI (nI 8) a b = if a = b then 1 else 0 := rfl
theorem two9 {a b : Int32} : twoI (nI 9) a b = if a = 1 ∧ b = 1 then 1 else 0 := rfl
theorem two10 {a b : Int32} : twoI (nI 10) a b = if a = 1 ∨ b = 1 then 1 else 0 := rfl
section C83
variable {X : CX} {d : Nat} {K : Nat → Nat} {I : Nat → Nat → Int32} {J : Nat → Nat → Int64} {R : Nat → Nat → Option Nat} {A : Nat → Nat → Int32} {B : Nat → Nat → Option Nat} {Ln : Nat → Nat} {n sl : Nat}
set_option maxRecDepth 100000 in
set_option maxHeartbeats 4000000 in
theorem cs_isTrueOf {r nm : Nat} (hr : K r = 3) (hnm : I 194 r = nI nm) (hnb : nm < 2147483648) : ∀ {f i : Nat} {e : EX}, ExpR K I R f i e → tyE e = true → EvM X mX1_isTrueOf (d + f) [rV (some i), rV (some r)] (K, I, J, R, A, B, Ln, n, sl) (fun r_ G' => r_ = some (iV (vlE (rwI I r) e)) ∧ G' = (K, I, J, R, A, B, Ln, n, sl)) := by
  intro f
  induction f with
  | zero => intro i e h; exact h.elim
  | succ f ih =>
    intro i e h ht
    obtain ⟨op, v, a, b, h1, h2, h3, h4, h5, h6⟩ := h
    rw [h1, tyE_snoc] at ht
    have ht := of_decide_eq_true ht
    show Ev X mX1_isTrueOf (d + (f + 1)) 0 [some (rV (some i)), some (rV (some r))] [] (K, I, J, R, A, B, Ln, n, sl) _
    rcases h6 with ⟨g1, rfl, rfl, -, -⟩ | ⟨rfl, rfl, g3, x, g4, g5, g6⟩ | ⟨g1, g2, x, y, g3, g4, g5, g6, g7, g8⟩
    · rcases g1 with g1 | ⟨rfl, w, w1, w2, rfl⟩
      · omega
      · have hv : vlE (rwI I r) e = startI nm w := by
          rw [h1]
          show startI (I 194 r).toNatClampNeg (nI w).toNatClampNeg = _
          rw [hnm, nI_clamp hnb, nI_clamp w1]
        rw [hv]
        refine ev_aload_n dX1_isTrueOf_0 rfl ?_
        refine ev_ifnonnull 6 dX1_isTrueOf_1 (by decide) (fun x c1 => ?_) (fun c1 => by cases c1)
        refine ev_aload_n dX1_isTrueOf_6 rfl ?_
        refine ev_getIv dX1_isTrueOf_7 fX1_9 h2 h3 ?_
        refine ev_tswOut 167 dX1_isTrueOf_10 (Or.inr (by decide)) (by decide) ?_
        refine ev_aload_n dX1_isTrueOf_167 rfl ?_
        refine ev_aload_n dX1_isTrueOf_168 rfl ?_
        refine ev_getIv dX1_isTrueOf_169 fX1_15 h2 h4 ?_
        refine ev_callV dX1_isTrueOf_172 okX3_startsWith inX3_startsWith seX3_startsWith mlX1_55 hr (by decide) rfl [iV _] rfl rfl (Nat.le_of_ble_eq_true rfl) (Nat.le_of_ble_eq_true rfl) (cs_startsWith hr hnm hnb w1 w2) (fun r_ G_ h_ => ?_)
        obtain ⟨rfl, rfl⟩ := h_
        try dsimp only [Option.toList, List.cons_append, List.nil_append]
        refine ev_zreturn dX1_isTrueOf_175 rfl (startI_01 _ _) ?_
        exact ⟨rfl, rfl⟩
    · have ih1 := ih g5 g6
      have b1 := g5.b01 (r := rwI I r) g6
      have hv := vl_not (r := rwI I r) (v := v) g5.tree
      rw [h1, hv]
      refine ev_aload_n dX1_isTrueOf_0 rfl ?_
      refine ev_ifnonnull 6 dX1_isTrueOf_1 (by decide) (fun x c1 => ?_) (fun c1 => by cases c1)
      refine ev_aload_n dX1_isTrueOf_6 rfl ?_
      refine ev_getIv dX1_isTrueOf_7 fX1_9 h2 h3 ?_
      refine ev_tswIn (x := 11) 150 dX1_isTrueOf_10 (by decide) (by decide) rfl (by decide) ?_
      refine ev_aload_n dX1_isTrueOf_150 rfl ?_
      refine ev_getR dX1_isTrueOf_151 fX1_18 h2 g4 ?_
      refine ev_aload_n dX1_isTrueOf_154 rfl ?_
      refine ev_callS dX1_isTrueOf_155 okX1_isTrueOf stX1_isTrueOf mlX1_51 [rV _, rV _] rfl rfl (Nat.le_of_ble_eq_true rfl) (Nat.le_of_ble_eq_true rfl) (ih1) (fun r_ G_ h_ => ?_)
      obtain ⟨rfl, rfl⟩ := h_
      try dsimp only [Option.toList, List.cons_append, List.nil_append]
      refine ev_if_ne 165 dX1_isTrueOf_158 (by decide) (fun c158 => ?_) (fun c158 => ?_)
      · refine ev_iconstN 0 dX1_isTrueOf_165 (by decide) ?_
        refine ev_zreturn dX1_isTrueOf_166 rfl (by decide) ?_
        first | exact ⟨by rw [b1.resolve_left c158]; rfl, rfl⟩ | exact ⟨by rw [c158]; rfl, rfl⟩
      · refine ev_iconstN 1 dX1_isTrueOf_161 (by decide) ?_
        refine ev_goto 166 dX1_isTrueOf_162 (by decide) ?_
        refine ev_zreturn dX1_isTrueOf_166 rfl (by decide) ?_
        first | exact ⟨by rw [b1.resolve_left c158]; rfl, rfl⟩ | exact ⟨by rw [c158]; rfl, rfl⟩
    · have hv := vl_two (r := rwI I r) (v := v) g5.tree g6.tree g1 g2
      obtain h78 | h910 : op ≤ 8 ∨ 9 ≤ op := by omega
      · have g9 : decide (9 ≤ op) = false := decide_eq_false (by omega)
        rw [g9] at g7 g8
        have ih1 := cs_numberOf (X := X) (d := d) (J := J) (A := A) (B := B) (Ln := Ln) (n := n) (sl := sl) hr g5 g7
        have ih2 := cs_numberOf (X := X) (d := d) (J := J) (A := A) (B := B) (Ln := Ln) (n := n) (sl := sl) hr g6 g8
        obtain rfl | rfl : op = 7 ∨ op = 8 := by omega
        · rw [h1, hv, two7]
          refine ev_aload_n dX1_isTrueOf_0 rfl ?_
          refine ev_ifnonnull 6 dX1_isTrueOf_1 (by decide) (fun x c1 => ?_) (fun c1 => by cases c1)
          refine ev_aload_n dX1_isTrueOf_6 rfl ?_
          refine ev_getIv dX1_isTrueOf_7 fX1_9 h2 h3 ?_
          refine ev_tswIn (x := 7) 44 dX1_isTrueOf_10 (by decide) (by decide) rfl (by decide) ?_
          refine ev_aload_n dX1_isTrueOf_44 rfl ?_
          refine ev_getR dX1_isTrueOf_45 fX1_18 h2 g3 ?_
          refine ev_aload_n dX1_isTrueOf_48 rfl ?_
          refine ev_callS dX1_isTrueOf_49 okX1_numberOf stX1_numberOf mlX1_47 [rV _, rV _] rfl rfl (Nat.le_of_ble_eq_true rfl) (Nat.le_of_ble_eq_true rfl) (ih1) (fun r_ G_ h_ => ?_)
          obtain ⟨rfl, rfl⟩ := h_
          try dsimp only [Option.toList, List.cons_append, List.nil_append]
          refine ev_aload_n dX1_isTrueOf_52 rfl ?_
          refine ev_getR dX1_isTrueOf_53 fX1_22 h2 g4 ?_
          refine ev_aload_n dX1_isTrueOf_56 rfl ?_
          refine ev_callS dX1_isTrueOf_57 okX1_numberOf stX1_numberOf mlX1_47 [rV _, rV _] rfl rfl (Nat.le_of_ble_eq_true rfl) (Nat.le_of_ble_eq_true rfl) (ih2) (fun r_ G_ h_ => ?_)
          obtain ⟨rfl, rfl⟩ := h_
          try dsimp only [Option.toList, List.cons_append, List.nil_append]
          refine ev_icmp_ge 67 dX1_isTrueOf_60 (by decide) (fun c60 => ?_) (fun c60 => ?_)
          · refine ev_iconstN 0 dX1_isTrueOf_67 (by decide) ?_
            refine ev_zreturn dX1_isTrueOf_68 rfl (by decide) ?_
            first | exact ⟨by rw [if_neg (Int32.not_lt.mpr c60)]; rfl, rfl⟩ | exact ⟨by rw [if_pos (Int32.not_le.mp c60)]; rfl, rfl⟩
          · refine ev_iconstN 1 dX1_isTrueOf_63 (by decide) ?_
            refine ev_goto 68 dX1_isTrueOf_64 (by decide) ?_
            refine ev_zreturn dX1_isTrueOf_68 rfl (by decide) ?_
            first | exact ⟨by rw [if_neg (Int32.not_lt.mpr c60)]; rfl, rfl⟩ | exact ⟨by rw [if_pos (Int32.not_le.mp c60)]; rfl, rfl⟩
        · rw [h1, hv, two8]
          refine ev_aload_n dX1_isTrueOf_0 rfl ?_
          refine ev_ifnonnull 6 dX1_isTrueOf_1 (by decide) (fun x c1 => ?_) (fun c1 => by cases c1)
          refine ev_aload_n dX1_isTrueOf_6 rfl ?_
          refine ev_getIv dX1_isTrueOf_7 fX1_9 h2 h3 ?_
          refine ev_tswIn (x := 8) 69 dX1_isTrueOf_10 (by decide) (by decide) rfl (by decide) ?_
          refine ev_aload_n dX1_isTrueOf_69 rfl ?_
          refine ev_getR dX1_isTrueOf_70 fX1_18 h2 g3 ?_
          refine ev_aload_n dX1_isTrueOf_73 rfl ?_
          refine ev_callS dX1_isTrueOf_74 okX1_numberOf stX1_numberOf mlX1_47 [rV _, rV _] rfl rfl (Nat.le_of_ble_eq_true rfl) (Nat.le_of_ble_eq_true rfl) (ih1) (fun r_ G_ h_ => ?_)
          obtain ⟨rfl, rfl⟩ := h_
          try dsimp only [Option.toList, List.cons_append, List.nil_append]
          refine ev_aload_n dX1_isTrueOf_77 rfl ?_
          refine ev_getR dX1_isTrueOf_78 fX1_22 h2 g4 ?_
          refine ev_aload_n dX1_isTrueOf_81 rfl ?_
          refine ev_callS dX1_isTrueOf_82 okX1_numberOf stX1_numberOf mlX1_47 [rV _, rV _] rfl rfl (Nat.le_of_ble_eq_true rfl) (Nat.le_of_ble_eq_true rfl) (ih2) (fun r_ G_ h_ => ?_)
          obtain ⟨rfl, rfl⟩ := h_
          try dsimp only [Option.toList, List.cons_append, List.nil_append]
          refine ev_icmp_ne 92 dX1_isTrueOf_85 (by decide) (fun c85 => ?_) (fun c85 => ?_)
          · refine ev_iconstN 0 dX1_isTrueOf_92 (by decide) ?_
            refine ev_zreturn dX1_isTrueOf_93 rfl (by decide) ?_
            first | exact ⟨by rw [if_neg c85]; rfl, rfl⟩ | exact ⟨by rw [if_pos c85]; rfl, rfl⟩ | exact ⟨by rw [if_pos (Decidable.not_not.mp c85)]; rfl, rfl⟩
          · refine ev_iconstN 1 dX1_isTrueOf_88 (by decide) ?_
            refine ev_goto 93 dX1_isTrueOf_89 (by decide) ?_
            refine ev_zreturn dX1_isTrueOf_93 rfl (by decide) ?_
            first | exact ⟨by rw [if_neg c85]; rfl, rfl⟩ | exact ⟨by rw [if_pos c85]; rfl, rfl⟩ | exact ⟨by rw [if_pos (Decidable.not_not.mp c85)]; rfl, rfl⟩
      · have g9 : decide (9 ≤ op) = true := decide_eq_true (by omega)
        rw [g9] at g7 g8
        have ih1 := ih g5 g7
        have ih2 := ih g6 g8
        have b1 := g5.b01 (r := rwI I r) g7
        have b2 := g6.b01 (r := rwI I r) g8
        obtain rfl | rfl : op = 9 ∨ op = 10 := by omega
        · rw [h1, hv, two9]
          refine ev_aload_n dX1_isTrueOf_0 rfl ?_
          refine ev_ifnonnull 6 dX1_isTrueOf_1 (by decide) (fun x c1 => ?_) (fun c1 => by cases c1)
          refine ev_aload_n dX1_isTrueOf_6 rfl ?_
          refine ev_getIv dX1_isTrueOf_7 fX1_9 h2 h3 ?_
          refine ev_tswIn (x := 9) 94 dX1_isTrueOf_10 (by decide) (by decide) rfl (by decide) ?_
          refine ev_aload_n dX1_isTrueOf_94 rfl ?_
          refine ev_getR dX1_isTrueOf_95 fX1_18 h2 g3 ?_
          refine ev_aload_n dX1_isTrueOf_98 rfl ?_
          refine ev_callS dX1_isTrueOf_99 okX1_isTrueOf stX1_isTrueOf mlX1_51 [rV _, rV _] rfl rfl (Nat.le_of_ble_eq_true rfl) (Nat.le_of_ble_eq_true rfl) (ih1) (fun r_ G_ h_ => ?_)
          obtain ⟨rfl, rfl⟩ := h_
          try dsimp only [Option.toList, List.cons_append, List.nil_append]
          refine ev_if_eq 120 dX1_isTrueOf_102 (by decide) (fun c102 => ?_) (fun c102 => ?_)
          · refine ev_iconstN 0 dX1_isTrueOf_120 (by decide) ?_
            refine ev_zreturn dX1_isTrueOf_121 rfl (by decide) ?_
            first | exact ⟨by rw [if_pos ⟨b1.resolve_left c102, b2.resolve_left c113⟩]; rfl, rfl⟩ | exact ⟨by rw [if_neg (fun z => absurd (z.1.symm.trans c102) (by decide))]; rfl, rfl⟩ | exact ⟨by rw [if_neg (fun z => absurd (z.2.symm.trans c113) (by decide))]; rfl, rfl⟩
          · refine ev_aload_n dX1_isTrueOf_105 rfl ?_
            refine ev_getR dX1_isTrueOf_106 fX1_22 h2 g4 ?_
            refine ev_aload_n dX1_isTrueOf_109 rfl ?_
            refine ev_callS dX1_isTrueOf_110 okX1_isTrueOf stX1_isTrueOf mlX1_51 [rV _, rV _] rfl rfl (Nat.le_of_ble_eq_true rfl) (Nat.le_of_ble_eq_true rfl) (ih2) (fun r_ G_ h_ => ?_)
            obtain ⟨rfl, rfl⟩ := h_
            try dsimp only [Option.toList, List.cons_append, List.nil_append]
            refine ev_if_eq 120 dX1_isTrueOf_113 (by decide) (fun c113 => ?_) (fun c113 => ?_)
            · refine ev_iconstN 0 dX1_isTrueOf_120 (by decide) ?_
              refine ev_zreturn dX1_isTrueOf_121 rfl (by decide) ?_
              first | exact ⟨by rw [if_pos ⟨b1.resolve_left c102, b2.resolve_left c113⟩]; rfl, rfl⟩ | exact ⟨by rw [if_neg (fun z => absurd (z.1.symm.trans c102) (by decide))]; rfl, rfl⟩ | exact ⟨by rw [if_neg (fun z => absurd (z.2.symm.trans c113) (by decide))]; rfl, rfl⟩
            · refine ev_iconstN 1 dX1_isTrueOf_116 (by decide) ?_
              refine ev_goto 121 dX1_isTrueOf_117 (by decide) ?_
              refine ev_zreturn dX1_isTrueOf_121 rfl (by decide) ?_
              first | exact ⟨by rw [if_pos ⟨b1.resolve_left c102, b2.resolve_left c113⟩]; rfl, rfl⟩ | exact ⟨by rw [if_neg (fun z => absurd (z.1.symm.trans c102) (by decide))]; rfl, rfl⟩ | exact ⟨by rw [if_neg (fun z => absurd (z.2.symm.trans c113) (by decide))]; rfl, rfl⟩
        · rw [h1, hv, two10]
          refine ev_aload_n dX1_isTrueOf_0 rfl ?_
          refine ev_ifnonnull 6 dX1_isTrueOf_1 (by decide) (fun x c1 => ?_) (fun c1 => by cases c1)
          refine ev_aload_n dX1_isTrueOf_6 rfl ?_
          refine ev_getIv dX1_isTrueOf_7 fX1_9 h2 h3 ?_
          refine ev_tswIn (x := 10) 122 dX1_isTrueOf_10 (by decide) (by decide) rfl (by decide) ?_
          refine ev_aload_n dX1_isTrueOf_122 rfl ?_
          refine ev_getR dX1_isTrueOf_123 fX1_18 h2 g3 ?_
          refine ev_aload_n dX1_isTrueOf_126 rfl ?_
          refine ev_callS dX1_isTrueOf_127 okX1_isTrueOf stX1_isTrueOf mlX1_51 [rV _, rV _] rfl rfl (Nat.le_of_ble_eq_true rfl) (Nat.le_of_ble_eq_true rfl) (ih1) (fun r_ G_ h_ => ?_)
          obtain ⟨rfl, rfl⟩ := h_
          try dsimp only [Option.toList, List.cons_append, List.nil_append]
          refine ev_if_ne 144 dX1_isTrueOf_130 (by decide) (fun c130 => ?_) (fun c130 => ?_)
          · refine ev_iconstN 1 dX1_isTrueOf_144 (by decide) ?_
            refine ev_goto 149 dX1_isTrueOf_145 (by decide) ?_
            refine ev_zreturn dX1_isTrueOf_149 rfl (by decide) ?_
            first | exact ⟨by rw [if_pos (Or.inl (b1.resolve_left c130))]; rfl, rfl⟩ | exact ⟨by rw [if_pos (Or.inr (b2.resolve_left c141))]; rfl, rfl⟩ | exact ⟨by rw [if_neg (fun z => z.elim (fun z => absurd (z.symm.trans c130) (by decide)) (fun z => absurd (z.symm.trans c141) (by decide)))]; rfl, rfl⟩
          · refine ev_aload_n dX1_isTrueOf_133 rfl ?_
            refine ev_getR dX1_isTrueOf_134 fX1_22 h2 g4 ?_
            refine ev_aload_n dX1_isTrueOf_137 rfl ?_
            refine ev_callS dX1_isTrueOf_138 okX1_isTrueOf stX1_isTrueOf mlX1_51 [rV _, rV _] rfl rfl (Nat.le_of_ble_eq_true rfl) (Nat.le_of_ble_eq_true rfl) (ih2) (fun r_ G_ h_ => ?_)
            obtain ⟨rfl, rfl⟩ := h_
            try dsimp only [Option.toList, List.cons_append, List.nil_append]
            refine ev_if_eq 148 dX1_isTrueOf_141 (by decide) (fun c141 => ?_) (fun c141 => ?_)
            · refine ev_iconstN 0 dX1_isTrueOf_148 (by decide) ?_
              refine ev_zreturn dX1_isTrueOf_149 rfl (by decide) ?_
              first | exact ⟨by rw [if_pos (Or.inl (b1.resolve_left c130))]; rfl, rfl⟩ | exact ⟨by rw [if_pos (Or.inr (b2.resolve_left c141))]; rfl, rfl⟩ | exact ⟨by rw [if_neg (fun z => z.elim (fun z => absurd (z.symm.trans c130) (by decide)) (fun z => absurd (z.symm.trans c141) (by decide)))]; rfl, rfl⟩
            · refine ev_iconstN 1 dX1_isTrueOf_144 (by decide) ?_
              refine ev_goto 149 dX1_isTrueOf_145 (by decide) ?_
              refine ev_zreturn dX1_isTrueOf_149 rfl (by decide) ?_
              first | exact ⟨by rw [if_pos (Or.inl (b1.resolve_left c130))]; rfl, rfl⟩ | exact ⟨by rw [if_pos (Or.inr (b2.resolve_left c141))]; rfl, rfl⟩ | exact ⟨by rw [if_neg (fun z => z.elim (fun z => absurd (z.symm.trans c130) (by decide)) (fun z => absurd (z.symm.trans c141) (by decide)))]; rfl, rfl⟩
theorem cs_same0 {G : GH} : EvM X mX1_areSame d [rV none, rV none] G (fun r_ G' => r_ = some (iV 1) ∧ G' = G) := by
  show Ev X mX1_areSame d 0 [some (rV none), some (rV none)] [] G _
  refine ev_aload_n dX1_areSame_0 rfl ?_
  refine ev_ifnull 8 dX1_areSame_1 (by decide) (fun c1 => ?_) (fun x c1 => by cases c1)
  refine ev_aload_n dX1_areSame_8 rfl ?_
  refine ev_aload_n dX1_areSame_9 rfl ?_
  refine ev_acmp_neS dX1_areSame_10 17 (by decide) ?_
  refine ev_iconstN 1 dX1_areSame_13 (by decide) ?_
  refine ev_goto 18 dX1_areSame_14 (by decide) ?_
  refine ev_zreturn dX1_areSame_18 rfl (by decide) ?_
  exact ⟨rfl, rfl⟩
theorem snoc_ne {p q : EX} {x y : Nat × Int32} (h : x ≠ y) : p ++ [x] ≠ q ++ [y] := fun z => by
  have := congrArg List.getLast? z
  rw [List.getLast?_append, List.getLast?_append] at this
  exact h (Option.some.inj this)
set_option maxRecDepth 100000 in
set_option maxHeartbeats 4000000 in
theorem cs_areSame : ∀ {f i j : Nat} {e e' : EX}, ExpR K I R f i e → ExpR K I R f j e' → EvM X mX1_areSame (d + f) [rV (some i), rV (some j)] (K, I, J, R, A, B, Ln, n, sl) (fun r_ G' => r_ = some (iV (bZ (decide (e = e')))) ∧ G' = (K, I, J, R, A, B, Ln, n, sl)) := by
  intro f
  induction f with
  | zero => intro i j e e' h; exact h.elim
  | succ f ih =>
    intro i j e e' h k
    obtain ⟨op, v, a, b, h1, h2, h3, h4, h5, h6⟩ := h
    obtain ⟨op', v', a', b', k1, k2, k3, k4, k5, k6⟩ := k
    show Ev X mX1_areSame (d + (f + 1)) 0 [some (rV (some i)), some (rV (some j))] [] (K, I, J, R, A, B, Ln, n, sl) _
    have ho : op ≤ 12 := by rcases h6 with ⟨g1, -⟩ | ⟨g1, -⟩ | ⟨g1, g2, -⟩ <;> omega
    have ho' : op' ≤ 12 := by rcases k6 with ⟨g1, -⟩ | ⟨g1, -⟩ | ⟨g1, g2, -⟩ <;> omega
    by_cases hop : op = op'
    · by_cases hv : v = v'
      · subst hop hv
        rcases h6 with ⟨g1, rfl, rfl, g3, g4⟩ | ⟨rfl, rfl, g3, x, g4, g5, g6⟩ | ⟨g1, g2, x, y, g3, g4, g5, g6, g7, g8⟩
        · rcases k6 with ⟨l1, rfl, rfl, l3, l4⟩ | ⟨rfl, rfl, l3, x', l4, l5, l6⟩ | ⟨l1, l2, x', y', l3, l4, l5, l6, l7, l8⟩
          · rw [h1, k1, decide_eq_true rfl]
            have s0 := cs_same0 (X := X) (d := d + f) (G := (K, I, J, R, A, B, Ln, n, sl))
            refine ev_aload_n dX1_areSame_0 rfl ?_
            refine ev_ifnull 8 dX1_areSame_1 (by decide) (fun c1 => by cases c1) (fun x c1 => ?_)
            refine ev_aload_n dX1_areSame_4 rfl ?_
            refine ev_ifnonnull 19 dX1_areSame_5 (by decide) (fun x c5 => ?_) (fun c5 => by cases c5)
            refine ev_aload_n dX1_areSame_19 rfl ?_
            refine ev_getIv dX1_areSame_20 fX1_9 h2 h3 ?_
            refine ev_aload_n dX1_areSame_23 rfl ?_
            refine ev_getIv dX1_areSame_24 fX1_9 k2 k3 ?_
            refine ev_icmp_neN 73 dX1_areSame_27 (by decide) (by omega) (by omega) (fun c27 => absurd c27 (fun z => z rfl)) (fun c27 => ?_)
            refine ev_aload_n dX1_areSame_30 rfl ?_
            refine ev_getIv dX1_areSame_31 fX1_15 h2 h4 ?_
            refine ev_aload_n dX1_areSame_34 rfl ?_
            refine ev_getIv dX1_areSame_35 fX1_15 k2 k4 ?_
            refine ev_icmp_ne 73 dX1_areSame_38 (by decide) (fun c38 => absurd c38 (fun z => z rfl)) (fun c38 => ?_)
            refine ev_aload_n dX1_areSame_41 rfl ?_
            refine ev_getR dX1_areSame_42 fX1_18 h2 g3 ?_
            refine ev_aload_n dX1_areSame_45 rfl ?_
            refine ev_getR dX1_areSame_46 fX1_18 k2 l3 ?_
            refine ev_callS dX1_areSame_49 okX1_areSame stX1_areSame mlX1_32 [rV _, rV _] rfl rfl (Nat.le_of_ble_eq_true rfl) (Nat.le_of_ble_eq_true rfl) (s0) (fun r_ G_ h_ => ?_)
            obtain ⟨rfl, rfl⟩ := h_
            try dsimp only [Option.toList, List.cons_append, List.nil_append]
            refine ev_if_eq 73 dX1_areSame_52 (by decide) (fun c52 => absurd c52 (by decide)) (fun c52 => ?_)
            refine ev_aload_n dX1_areSame_55 rfl ?_
            refine ev_getR dX1_areSame_56 fX1_22 h2 g4 ?_
            refine ev_aload_n dX1_areSame_59 rfl ?_
            refine ev_getR dX1_areSame_60 fX1_22 k2 l4 ?_
            refine ev_callS dX1_areSame_63 okX1_areSame stX1_areSame mlX1_32 [rV _, rV _] rfl rfl (Nat.le_of_ble_eq_true rfl) (Nat.le_of_ble_eq_true rfl) (s0) (fun r_ G_ h_ => ?_)
            obtain ⟨rfl, rfl⟩ := h_
            try dsimp only [Option.toList, List.cons_append, List.nil_append]
            refine ev_if_eq 73 dX1_areSame_66 (by decide) (fun c66 => absurd c66 (by decide)) (fun c66 => ?_)
            refine ev_iconstN 1 dX1_areSame_69 (by decide) ?_
            refine ev_goto 74 dX1_areSame_70 (by decide) ?_
            refine ev_zreturn dX1_areSame_74 rfl (by decide) ?_
            exact ⟨rfl, rfl⟩
          · omega
          · omega
        · rcases k6 with ⟨l1, rfl, rfl, l3, l4⟩ | ⟨-, rfl, l3, x', l4, l5, l6⟩ | ⟨l1, l2, x', y', l3, l4, l5, l6, l7, l8⟩
          · omega
          · have s0 := cs_same0 (X := X) (d := d + f) (G := (K, I, J, R, A, B, Ln, n, sl))
            have s1 := ih g5 l5
            by_cases haa : a = a'
            · subst haa
              rw [decide_eq_true rfl] at s1
              rw [h1, k1, decide_eq_true rfl]
              refine ev_aload_n dX1_areSame_0 rfl ?_
              refine ev_ifnull 8 dX1_areSame_1 (by decide) (fun c1 => by cases c1) (fun x c1 => ?_)
              refine ev_aload_n dX1_areSame_4 rfl ?_
              refine ev_ifnonnull 19 dX1_areSame_5 (by decide) (fun x c5 => ?_) (fun c5 => by cases c5)
              refine ev_aload_n dX1_areSame_19 rfl ?_
              refine ev_getIv dX1_areSame_20 fX1_9 h2 h3 ?_
              refine ev_aload_n dX1_areSame_23 rfl ?_
              refine ev_getIv dX1_areSame_24 fX1_9 k2 k3 ?_
              refine ev_icmp_neN 73 dX1_areSame_27 (by decide) (by omega) (by omega) (fun c27 => absurd c27 (fun z => z rfl)) (fun c27 => ?_)
              refine ev_aload_n dX1_areSame_30 rfl ?_
              refine ev_getIv dX1_areSame_31 fX1_15 h2 h4 ?_
              refine ev_aload_n dX1_areSame_34 rfl ?_
              refine ev_getIv dX1_areSame_35 fX1_15 k2 k4 ?_
              refine ev_icmp_ne 73 dX1_areSame_38 (by decide) (fun c38 => absurd c38 (fun z => z rfl)) (fun c38 => ?_)
              refine ev_aload_n dX1_areSame_41 rfl ?_
              refine ev_getR dX1_areSame_42 fX1_18 h2 g4 ?_
              refine ev_aload_n dX1_areSame_45 rfl ?_
              refine ev_getR dX1_areSame_46 fX1_18 k2 l4 ?_
              refine ev_callS dX1_areSame_49 okX1_areSame stX1_areSame mlX1_32 [rV _, rV _] rfl rfl (Nat.le_of_ble_eq_true rfl) (Nat.le_of_ble_eq_true rfl) (s1) (fun r_ G_ h_ => ?_)
              obtain ⟨rfl, rfl⟩ := h_
              try dsimp only [Option.toList, List.cons_append, List.nil_append]
              refine ev_if_eq 73 dX1_areSame_52 (by decide) (fun c52 => absurd c52 (by decide)) (fun c52 => ?_)
              refine ev_aload_n dX1_areSame_55 rfl ?_
              refine ev_getR dX1_areSame_56 fX1_22 h2 g3 ?_
              refine ev_aload_n dX1_areSame_59 rfl ?_
              refine ev_getR dX1_areSame_60 fX1_22 k2 l3 ?_
              refine ev_callS dX1_areSame_63 okX1_areSame stX1_areSame mlX1_32 [rV _, rV _] rfl rfl (Nat.le_of_ble_eq_true rfl) (Nat.le_of_ble_eq_true rfl) (s0) (fun r_ G_ h_ => ?_)
              obtain ⟨rfl, rfl⟩ := h_
              try dsimp only [Option.toList, List.cons_append, List.nil_append]
              refine ev_if_eq 73 dX1_areSame_66 (by decide) (fun c66 => absurd c66 (by decide)) (fun c66 => ?_)
              refine ev_iconstN 1 dX1_areSame_69 (by decide) ?_
              refine ev_goto 74 dX1_areSame_70 (by decide) ?_
              refine ev_zreturn dX1_areSame_74 rfl (by decide) ?_
              exact ⟨rfl, rfl⟩
            · rw [decide_eq_false haa] at s1
              rw [h1, k1, decide_eq_false (fun z => haa (by simpa using z))]
              refine ev_aload_n dX1_areSame_0 rfl ?_
              refine ev_ifnull 8 dX1_areSame_1 (by decide) (fun c1 => by cases c1) (fun x c1 => ?_)
              refine ev_aload_n dX1_areSame_4 rfl ?_
              refine ev_ifnonnull 19 dX1_areSame_5 (by decide) (fun x c5 => ?_) (fun c5 => by cases c5)
              refine ev_aload_n dX1_areSame_19 rfl ?_
              refine ev_getIv dX1_areSame_20 fX1_9 h2 h3 ?_
              refine ev_aload_n dX1_areSame_23 rfl ?_
              refine ev_getIv dX1_areSame_24 fX1_9 k2 k3 ?_
              refine ev_icmp_neN 73 dX1_areSame_27 (by decide) (by omega) (by omega) (fun c27 => absurd c27 (fun z => z rfl)) (fun c27 => ?_)
              refine ev_aload_n dX1_areSame_30 rfl ?_
              refine ev_getIv dX1_areSame_31 fX1_15 h2 h4 ?_
              refine ev_aload_n dX1_areSame_34 rfl ?_
              refine ev_getIv dX1_areSame_35 fX1_15 k2 k4 ?_
              refine ev_icmp_ne 73 dX1_areSame_38 (by decide) (fun c38 => absurd c38 (fun z => z rfl)) (fun c38 => ?_)
              refine ev_aload_n dX1_areSame_41 rfl ?_
              refine ev_getR dX1_areSame_42 fX1_18 h2 g4 ?_
              refine ev_aload_n dX1_areSame_45 rfl ?_
              refine ev_getR dX1_areSame_46 fX1_18 k2 l4 ?_
              refine ev_callS dX1_areSame_49 okX1_areSame stX1_areSame mlX1_32 [rV _, rV _] rfl rfl (Nat.le_of_ble_eq_true rfl) (Nat.le_of_ble_eq_true rfl) (s1) (fun r_ G_ h_ => ?_)
              obtain ⟨rfl, rfl⟩ := h_
              try dsimp only [Option.toList, List.cons_append, List.nil_append]
              refine ev_if_eq 73 dX1_areSame_52 (by decide) (fun c52 => ?_) (fun c52 => absurd c52 (fun z => z rfl))
              refine ev_iconstN 0 dX1_areSame_73 (by decide) ?_
              refine ev_zreturn dX1_areSame_74 rfl (by decide) ?_
              exact ⟨rfl, rfl⟩
          · omega
        · rcases k6 with ⟨l1, rfl, rfl, l3, l4⟩ | ⟨rfl, rfl, l3, x', l4, l5, l6⟩ | ⟨l1, l2, x', y', l3, l4, l5, l6, l7, l8⟩
          · omega
          · omega
          · have s1 := ih g5 l5
            have s2 := ih g6 l6
            by_cases haa : a = a'
            · rw [decide_eq_true haa] at s1
              by_cases hbb : b = b'
              · rw [decide_eq_true hbb] at s2
                rw [h1, k1, decide_eq_true (by rw [haa, hbb])]
                refine ev_aload_n dX1_areSame_0 rfl ?_
                refine ev_ifnull 8 dX1_areSame_1 (by decide) (fun c1 => by cases c1) (fun x c1 => ?_)
                refine ev_aload_n dX1_areSame_4 rfl ?_
                refine ev_ifnonnull 19 dX1_areSame_5 (by decide) (fun x c5 => ?_) (fun c5 => by cases c5)
                refine ev_aload_n dX1_areSame_19 rfl ?_
                refine ev_getIv dX1_areSame_20 fX1_9 h2 h3 ?_
                refine ev_aload_n dX1_areSame_23 rfl ?_
                refine ev_getIv dX1_areSame_24 fX1_9 k2 k3 ?_
                refine ev_icmp_neN 73 dX1_areSame_27 (by decide) (by omega) (by omega) (fun c27 => absurd c27 (fun z => z rfl)) (fun c27 => ?_)
                refine ev_aload_n dX1_areSame_30 rfl ?_
                refine ev_getIv dX1_areSame_31 fX1_15 h2 h4 ?_
                refine ev_aload_n dX1_areSame_34 rfl ?_
                refine ev_getIv dX1_areSame_35 fX1_15 k2 k4 ?_
                refine ev_icmp_ne 73 dX1_areSame_38 (by decide) (fun c38 => absurd c38 (fun z => z rfl)) (fun c38 => ?_)
                refine ev_aload_n dX1_areSame_41 rfl ?_
                refine ev_getR dX1_areSame_42 fX1_18 h2 g3 ?_
                refine ev_aload_n dX1_areSame_45 rfl ?_
                refine ev_getR dX1_areSame_46 fX1_18 k2 l3 ?_
                refine ev_callS dX1_areSame_49 okX1_areSame stX1_areSame mlX1_32 [rV _, rV _] rfl rfl (Nat.le_of_ble_eq_true rfl) (Nat.le_of_ble_eq_true rfl) (s1) (fun r_ G_ h_ => ?_)
                obtain ⟨rfl, rfl⟩ := h_
                try dsimp only [Option.toList, List.cons_append, List.nil_append]
                refine ev_if_eq 73 dX1_areSame_52 (by decide) (fun c52 => absurd c52 (by decide)) (fun c52 => ?_)
                refine ev_aload_n dX1_areSame_55 rfl ?_
                refine ev_getR dX1_areSame_56 fX1_22 h2 g4 ?_
                refine ev_aload_n dX1_areSame_59 rfl ?_
                refine ev_getR dX1_areSame_60 fX1_22 k2 l4 ?_
                refine ev_callS dX1_areSame_63 okX1_areSame stX1_areSame mlX1_32 [rV _, rV _] rfl rfl (Nat.le_of_ble_eq_true rfl) (Nat.le_of_ble_eq_true rfl) (s2) (fun r_ G_ h_ => ?_)
                obtain ⟨rfl, rfl⟩ := h_
                try dsimp only [Option.toList, List.cons_append, List.nil_append]
                refine ev_if_eq 73 dX1_areSame_66 (by decide) (fun c66 => absurd c66 (by decide)) (fun c66 => ?_)
                refine ev_iconstN 1 dX1_areSame_69 (by decide) ?_
                refine ev_goto 74 dX1_areSame_70 (by decide) ?_
                refine ev_zreturn dX1_areSame_74 rfl (by decide) ?_
                exact ⟨rfl, rfl⟩
              · rw [decide_eq_false hbb] at s2
                rw [h1, k1, decide_eq_false (fun z => hbb (tree_uniq g6.tree l6.tree (List.append_cancel_right z)).2)]
                refine ev_aload_n dX1_areSame_0 rfl ?_
                refine ev_ifnull 8 dX1_areSame_1 (by decide) (fun c1 => by cases c1) (fun x c1 => ?_)
                refine ev_aload_n dX1_areSame_4 rfl ?_
                refine ev_ifnonnull 19 dX1_areSame_5 (by decide) (fun x c5 => ?_) (fun c5 => by cases c5)
                refine ev_aload_n dX1_areSame_19 rfl ?_
                refine ev_getIv dX1_areSame_20 fX1_9 h2 h3 ?_
                refine ev_aload_n dX1_areSame_23 rfl ?_
                refine ev_getIv dX1_areSame_24 fX1_9 k2 k3 ?_
                refine ev_icmp_neN 73 dX1_areSame_27 (by decide) (by omega) (by omega) (fun c27 => absurd c27 (fun z => z rfl)) (fun c27 => ?_)
                refine ev_aload_n dX1_areSame_30 rfl ?_
                refine ev_getIv dX1_areSame_31 fX1_15 h2 h4 ?_
                refine ev_aload_n dX1_areSame_34 rfl ?_
                refine ev_getIv dX1_areSame_35 fX1_15 k2 k4 ?_
                refine ev_icmp_ne 73 dX1_areSame_38 (by decide) (fun c38 => absurd c38 (fun z => z rfl)) (fun c38 => ?_)
                refine ev_aload_n dX1_areSame_41 rfl ?_
                refine ev_getR dX1_areSame_42 fX1_18 h2 g3 ?_
                refine ev_aload_n dX1_areSame_45 rfl ?_
                refine ev_getR dX1_areSame_46 fX1_18 k2 l3 ?_
                refine ev_callS dX1_areSame_49 okX1_areSame stX1_areSame mlX1_32 [rV _, rV _] rfl rfl (Nat.le_of_ble_eq_true rfl) (Nat.le_of_ble_eq_true rfl) (s1) (fun r_ G_ h_ => ?_)
                obtain ⟨rfl, rfl⟩ := h_
                try dsimp only [Option.toList, List.cons_append, List.nil_append]
                refine ev_if_eq 73 dX1_areSame_52 (by decide) (fun c52 => absurd c52 (by decide)) (fun c52 => ?_)
                refine ev_aload_n dX1_areSame_55 rfl ?_
                refine ev_getR dX1_areSame_56 fX1_22 h2 g4 ?_
                refine ev_aload_n dX1_areSame_59 rfl ?_
                refine ev_getR dX1_areSame_60 fX1_22 k2 l4 ?_
                refine ev_callS dX1_areSame_63 okX1_areSame stX1_areSame mlX1_32 [rV _, rV _] rfl rfl (Nat.le_of_ble_eq_true rfl) (Nat.le_of_ble_eq_true rfl) (s2) (fun r_ G_ h_ => ?_)
                obtain ⟨rfl, rfl⟩ := h_
                try dsimp only [Option.toList, List.cons_append, List.nil_append]
                refine ev_if_eq 73 dX1_areSame_66 (by decide) (fun c66 => ?_) (fun c66 => absurd c66 (fun z => z rfl))
                refine ev_iconstN 0 dX1_areSame_73 (by decide) ?_
                refine ev_zreturn dX1_areSame_74 rfl (by decide) ?_
                exact ⟨rfl, rfl⟩
            · rw [decide_eq_false haa] at s1
              rw [h1, k1, decide_eq_false (fun z => haa (tree_uniq g6.tree l6.tree (List.append_cancel_right z)).1)]
              refine ev_aload_n dX1_areSame_0 rfl ?_
              refine ev_ifnull 8 dX1_areSame_1 (by decide) (fun c1 => by cases c1) (fun x c1 => ?_)
              refine ev_aload_n dX1_areSame_4 rfl ?_
              refine ev_ifnonnull 19 dX1_areSame_5 (by decide) (fun x c5 => ?_) (fun c5 => by cases c5)
              refine ev_aload_n dX1_areSame_19 rfl ?_
              refine ev_getIv dX1_areSame_20 fX1_9 h2 h3 ?_
              refine ev_aload_n dX1_areSame_23 rfl ?_
              refine ev_getIv dX1_areSame_24 fX1_9 k2 k3 ?_
              refine ev_icmp_neN 73 dX1_areSame_27 (by decide) (by omega) (by omega) (fun c27 => absurd c27 (fun z => z rfl)) (fun c27 => ?_)
              refine ev_aload_n dX1_areSame_30 rfl ?_
              refine ev_getIv dX1_areSame_31 fX1_15 h2 h4 ?_
              refine ev_aload_n dX1_areSame_34 rfl ?_
              refine ev_getIv dX1_areSame_35 fX1_15 k2 k4 ?_
              refine ev_icmp_ne 73 dX1_areSame_38 (by decide) (fun c38 => absurd c38 (fun z => z rfl)) (fun c38 => ?_)
              refine ev_aload_n dX1_areSame_41 rfl ?_
              refine ev_getR dX1_areSame_42 fX1_18 h2 g3 ?_
              refine ev_aload_n dX1_areSame_45 rfl ?_
              refine ev_getR dX1_areSame_46 fX1_18 k2 l3 ?_
              refine ev_callS dX1_areSame_49 okX1_areSame stX1_areSame mlX1_32 [rV _, rV _] rfl rfl (Nat.le_of_ble_eq_true rfl) (Nat.le_of_ble_eq_true rfl) (s1) (fun r_ G_ h_ => ?_)
              obtain ⟨rfl, rfl⟩ := h_
              try dsimp only [Option.toList, List.cons_append, List.nil_append]
              refine ev_if_eq 73 dX1_areSame_52 (by decide) (fun c52 => ?_) (fun c52 => absurd c52 (fun z => z rfl))
              refine ev_iconstN 0 dX1_areSame_73 (by decide) ?_
              refine ev_zreturn dX1_areSame_74 rfl (by decide) ?_
              exact ⟨rfl, rfl⟩
      · rw [h1, k1, decide_eq_false (snoc_ne (fun z => hv (congrArg Prod.snd z)))]
        subst hop
        refine ev_aload_n dX1_areSame_0 rfl ?_
        refine ev_ifnull 8 dX1_areSame_1 (by decide) (fun c1 => by cases c1) (fun x c1 => ?_)
        refine ev_aload_n dX1_areSame_4 rfl ?_
        refine ev_ifnonnull 19 dX1_areSame_5 (by decide) (fun x c5 => ?_) (fun c5 => by cases c5)
        refine ev_aload_n dX1_areSame_19 rfl ?_
        refine ev_getIv dX1_areSame_20 fX1_9 h2 h3 ?_
        refine ev_aload_n dX1_areSame_23 rfl ?_
        refine ev_getIv dX1_areSame_24 fX1_9 k2 k3 ?_
        refine ev_icmp_neN 73 dX1_areSame_27 (by decide) (by omega) (by omega) (fun c27 => absurd c27 (fun z => z rfl)) (fun c27 => ?_)
        refine ev_aload_n dX1_areSame_30 rfl ?_
        refine ev_getIv dX1_areSame_31 fX1_15 h2 h4 ?_
        refine ev_aload_n dX1_areSame_34 rfl ?_
        refine ev_getIv dX1_areSame_35 fX1_15 k2 k4 ?_
        refine ev_icmp_ne 73 dX1_areSame_38 (by decide) (fun c38 => ?_) (fun c38 => absurd c38 hv)
        refine ev_iconstN 0 dX1_areSame_73 (by decide) ?_
        refine ev_zreturn dX1_areSame_74 rfl (by decide) ?_
        exact ⟨rfl, rfl⟩
    · rw [h1, k1, decide_eq_false (snoc_ne (fun z => hop (congrArg Prod.fst z)))]
      refine ev_aload_n dX1_areSame_0 rfl ?_
      refine ev_ifnull 8 dX1_areSame_1 (by decide) (fun c1 => by cases c1) (fun x c1 => ?_)
      refine ev_aload_n dX1_areSame_4 rfl ?_
      refine ev_ifnonnull 19 dX1_areSame_5 (by decide) (fun x c5 => ?_) (fun c5 => by cases c5)
      refine ev_aload_n dX1_areSame_19 rfl ?_
      refine ev_getIv dX1_areSame_20 fX1_9 h2 h3 ?_
      refine ev_aload_n dX1_areSame_23 rfl ?_
      refine ev_getIv dX1_areSame_24 fX1_9 k2 k3 ?_
      refine ev_icmp_neN 73 dX1_areSame_27 (by decide) (by omega) (by omega) (fun c27 => ?_) (fun c27 => absurd c27 hop)
      refine ev_iconstN 0 dX1_areSame_73 (by decide) ?_
      refine ev_zreturn dX1_areSame_74 rfl (by decide) ?_
      exact ⟨rfl, rfl⟩
end C83
