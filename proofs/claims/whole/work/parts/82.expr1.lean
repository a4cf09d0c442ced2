/-- whether an expression is of truth -/
def tyE (e : EX) : Bool := decide (7 ≤ ((e.getLast?).map (fun p => p.1)).getD 0)
theorem tyE_snoc {p : EX} {op : Nat} {v : Int32} : tyE (p ++ [(op, v)]) = decide (7 ≤ op) := by
  unfold tyE
  rw [List.getLast?_append]
  rfl
/-- the object i is the expression e -/
def ExpR (K : Nat → Nat) (I : Nat → Nat → Int32) (R : Nat → Nat → Option Nat) : Nat → Nat → EX → Prop
  | 0, _, _ => False
  | f + 1, i, e => ∃ (op : Nat) (v : Int32) (a b : EX), e = a ++ b ++ [(op, v)] ∧ K i = 1 ∧ I 64 i = nI op ∧ I 65 i = v ∧ I 68 i = nI e.length ∧ (((op ≤ 3 ∨ (op = 12 ∧ ∃ w, w < 2147483648 ∧ isNmN w ∧ v = nI w)) ∧ a = [] ∧ b = [] ∧ R 66 i = none ∧ R 67 i = none) ∨ (op = 11 ∧ b = [] ∧ R 67 i = none ∧ ∃ x, R 66 i = some x ∧ ExpR K I R f x a ∧ tyE a = true) ∨ (4 ≤ op ∧ op ≤ 10 ∧ ∃ x y, R 66 i = some x ∧ R 67 i = some y ∧ ExpR K I R f x a ∧ ExpR K I R f y b ∧ tyE a = decide (9 ≤ op) ∧ tyE b = decide (9 ≤ op)))
section EXPR
variable {K K' : Nat → Nat} {I I' : Nat → Nat → Int32} {R R' : Nat → Nat → Option Nat}
theorem ExpR.kind : ∀ {f i : Nat} {e : EX}, ExpR K I R f i e → K i = 1
  | f + 1, i, e, h => by obtain ⟨op, v, a, b, h1, h2, -⟩ := h; exact h2
theorem ExpR.congr (hh : ∀ i, K i = 1 → K' i = 1 ∧ (∀ f, I' f i = I f i) ∧ ∀ f, R' f i = R f i) : ∀ {f i : Nat} {e : EX}, ExpR K I R f i e → ExpR K' I' R' f i e
  | f + 1, i, e, h => by
    obtain ⟨op, v, a, b, h1, h2, h3, h4, h5, h6⟩ := h
    obtain ⟨z1, z2, z3⟩ := hh i h2
    refine ⟨op, v, a, b, h1, z1, (z2 _).trans h3, (z2 _).trans h4, (z2 _).trans h5, ?_⟩
    rw [z3 66, z3 67]
    rcases h6 with h6 | ⟨g1, g2, g3, x, g4, g5, g6⟩ | ⟨g1, g2, x, y, g3, g4, g5, g6, g7, g8⟩
    · exact Or.inl h6
    · exact Or.inr (Or.inl ⟨g1, g2, g3, x, g4, ExpR.congr hh g5, g6⟩)
    · exact Or.inr (Or.inr ⟨g1, g2, x, y, g3, g4, ExpR.congr hh g5, ExpR.congr hh g6, g7, g8⟩)
theorem ExpR.mono : ∀ {f i : Nat} {e : EX}, ExpR K I R f i e → ExpR K I R (f + 1) i e
  | f + 1, i, e, h => by
    obtain ⟨op, v, a, b, h1, h2, h3, h4, h5, h6⟩ := h
    refine ⟨op, v, a, b, h1, h2, h3, h4, h5, ?_⟩
    rcases h6 with h6 | ⟨g1, g2, g3, x, g4, g5, g6⟩ | ⟨g1, g2, x, y, g3, g4, g5, g6, g7, g8⟩
    · exact Or.inl h6
    · exact Or.inr (Or.inl ⟨g1, g2, g3, x, g4, ExpR.mono g5, g6⟩)
    · exact Or.inr (Or.inr ⟨g1, g2, x, y, g3, g4, ExpR.mono g5, ExpR.mono g6, g7, g8⟩)
theorem ExpR.le {f g i : Nat} {e : EX} (h : ExpR K I R f i e) (hfg : f ≤ g) : ExpR K I R g i e := by
  obtain ⟨k, rfl⟩ : ∃ k, g = f + k := ⟨g - f, by omega⟩
  clear hfg
  induction k with
  | zero => exact h
  | succ k ih => exact ih.mono
theorem ExpR.tree : ∀ {f i : Nat} {e : EX}, ExpR K I R f i e → TreeE e
  | f + 1, i, e, h => by
    obtain ⟨op, v, a, b, h1, h2, h3, h4, h5, h6⟩ := h
    rcases h6 with ⟨g1, rfl, rfl, -, -⟩ | ⟨rfl, rfl, g3, x, g4, g5, g6⟩ | ⟨g1, g2, x, y, g3, g4, g5, g6, g7, g8⟩
    · rw [h1]
      refine tree_join0 (by show op ≤ 12; omega) (by show needM op = 0; unfold needM; rw [if_pos (by omega)]) (fun z => ?_)
      rcases g1 with g1 | ⟨-, w, w1, -, w3⟩
      · have : op = 12 := z
        omega
      · exact ⟨w, w1, w3⟩
    · rw [h1, List.append_nil]
      exact tree_join1 g5.tree (show 11 ≤ 12 by decide) rfl (fun z => absurd z (show ¬ (11 : Nat) = 12 by decide))
    · rw [h1]
      refine tree_join2 g5.tree g6.tree (by show op ≤ 12; omega) (by show needM op = 2; unfold needM; rw [if_neg (by omega), if_neg (by omega)]) (fun z => ?_)
      have : op = 12 := z
      omega
/-- an expression has no more levels than nodes -/
theorem ExpR.fit : ∀ {f i : Nat} {e : EX}, ExpR K I R f i e → ExpR K I R e.length i e
  | f + 1, i, e, h => by
    obtain ⟨op, v, a, b, h1, h2, h3, h4, h5, h6⟩ := h
    have hl : e.length = a.length + b.length + 1 := by rw [h1]; simp; omega
    rw [hl]
    refine ⟨op, v, a, b, h1, h2, h3, h4, h5, ?_⟩
    rcases h6 with h6 | ⟨g1, g2, g3, x, g4, g5, g6⟩ | ⟨g1, g2, x, y, g3, g4, g5, g6, g7, g8⟩
    · exact Or.inl h6
    · exact Or.inr (Or.inl ⟨g1, g2, g3, x, g4, g5.fit.le (by omega), g6⟩)
    · exact Or.inr (Or.inr ⟨g1, g2, x, y, g3, g4, g5.fit.le (by omega), g6.fit.le (by omega), g7, g8⟩)
end EXPR
theorem evE_app {r : Nat → Int32} : ∀ (p q : EX) (st : List Int32), evE r (p ++ q) st = evE r q (evE r p st)
  | [], _, _ => rfl
  | on :: p, q, st => by
    show evE r (p ++ q) _ = evE r q (evE r p _)
    exact evE_app p q _
theorem need_leaf {m : Nat} (h : needM m = 0) : m < 4 ∨ m = 12 := by
  unfold needM at h
  by_cases z : m < 4 ∨ m = 12
  · exact z
  · rw [if_neg z] at h
    by_cases y : m = 11
    · rw [if_pos y] at h; cases h
    · rw [if_neg y] at h; cases h
theorem need_one {m : Nat} (h : needM m = 1) : m = 11 := by
  unfold needM at h
  by_cases z : m < 4 ∨ m = 12
  · rw [if_pos z] at h; cases h
  · rw [if_neg z] at h
    by_cases y : m = 11
    · exact y
    · rw [if_neg y] at h; cases h
theorem need_two {m : Nat} (h : needM m = 2) : ¬ (m < 4 ∨ m = 12) ∧ m ≠ 11 := by
  unfold needM at h
  by_cases z : m < 4 ∨ m = 12
  · rw [if_pos z] at h; cases h
  · refine ⟨z, fun y => ?_⟩
    rw [if_neg z, if_pos y] at h; cases h
theorem tree_ev {r : Nat → Int32} : ∀ (f : Nat) (e : EX), e.length ≤ f → TreeE e → ∀ st, evE r e st = vlE r e :: st
  | 0, e, hf, h, st => absurd (List.length_eq_zero_iff.mp (Nat.le_zero.mp hf)) (tree_ne h)
  | f + 1, e, hf, h, st => by
    obtain ⟨q, on, he, h12, h4, hc⟩ := tree_cases h
    have hl : e.length = q.length + 1 := by rw [he]; simp
    rcases hc with ⟨hn, rfl⟩ | ⟨hn, hq⟩ | ⟨hn, a, b, rfl, ha, hb⟩
    · subst he
      unfold vlE
      show stepE r on.1 on.2 st = (stepE r on.1 on.2 []).headD 0 :: st
      rcases need_leaf hn with z | z
      · unfold stepE
        by_cases y : on.1 < 3
        · rw [if_pos y, if_pos y]; rfl
        · rw [if_neg y, if_neg y, if_pos (by omega), if_pos (by omega)]; rfl
      · unfold stepE
        rw [if_neg (by omega), if_neg (by omega), if_pos z, if_neg (by omega), if_neg (by omega), if_pos z]; rfl
    · have h11 := need_one hn
      subst he
      unfold vlE
      rw [evE_app, evE_app, tree_ev f q (by omega) hq, tree_ev f q (by omega) hq]
      show stepE r on.1 on.2 _ = (stepE r on.1 on.2 _).headD 0 :: st
      unfold stepE
      rw [if_neg (by omega), if_neg (by omega), if_neg (by omega), if_pos h11, if_neg (by omega), if_neg (by omega), if_neg (by omega), if_pos h11]
      rfl
    · obtain ⟨z1, z2⟩ := need_two hn
      subst he
      have hla : a.length ≤ f := by simp at hl; rw [List.length_append] at hf; simp at hf; omega
      have hlb : b.length ≤ f := by simp at hl; rw [List.length_append] at hf; simp at hf; omega
      unfold vlE
      rw [evE_app, evE_app, evE_app, evE_app, tree_ev f a hla ha, tree_ev f b hlb hb, tree_ev f a hla ha, tree_ev f b hlb hb]
      show stepE r on.1 on.2 _ = (stepE r on.1 on.2 _).headD 0 :: st
      unfold stepE
      rw [if_neg (by omega), if_neg (by omega), if_neg (by omega), if_neg z2, if_neg (by omega), if_neg (by omega), if_neg (by omega), if_neg z2]
      rfl
theorem vl_two {r : Nat → Int32} {a b : EX} {op : Nat} {v : Int32} (ha : TreeE a) (hb : TreeE b) (h4 : 4 ≤ op) (h10 : op ≤ 10) : vlE r (a ++ b ++ [(op, v)]) = twoI (nI op) (vlE r a) (vlE r b) := by
  show (evE r (a ++ b ++ [(op, v)]) []).headD 0 = _
  rw [evE_app, evE_app, tree_ev _ a (Nat.le_refl _) ha, tree_ev _ b (Nat.le_refl _) hb]
  show (stepE r op v _).headD 0 = _
  unfold stepE
  rw [if_neg (by omega), if_neg (by omega), if_neg (by omega), if_neg (by omega)]
  rfl
theorem vl_not {r : Nat → Int32} {a : EX} {v : Int32} (ha : TreeE a) : vlE r (a ++ [] ++ [(11, v)]) = 1 - vlE r a := by
  show (evE r (a ++ [] ++ [(11, v)]) []).headD 0 = _
  rw [List.append_nil, evE_app, tree_ev _ a (Nat.le_refl _) ha]
  rfl
theorem ite01 {P : Prop} [Decidable P] : (if P then (1 : Int32) else 0) = 0 ∨ (if P then (1 : Int32) else 0) = 1 := by
  by_cases h : P
  · rw [if_pos h]; exact Or.inr rfl
  · rw [if_neg h]; exact Or.inl rfl
def rwI (I : Nat → Nat → Int32) (r : Nat) : Nat → Int32 := fun j => I (192 + j) r
theorem ExpR.b01 {K : Nat → Nat} {I : Nat → Nat → Int32} {R : Nat → Nat → Option Nat} {r : Nat → Int32} : ∀ {f i : Nat} {e : EX}, ExpR K I R f i e → tyE e = true → vlE r e = 0 ∨ vlE r e = 1
  | f + 1, i, e, h, ht => by
    obtain ⟨op, v, a, b, h1, h2, h3, h4, h5, h6⟩ := h
    rw [h1, tyE_snoc] at ht
    have ht := of_decide_eq_true ht
    rcases h6 with ⟨g1, rfl, rfl, -, -⟩ | ⟨rfl, rfl, g3, x, g4, g5, g6⟩ | ⟨g1, g2, x, y, g3, g4, g5, g6, g7, g8⟩
    · rcases g1 with g1 | ⟨rfl, -⟩
      · omega
      · rw [h1]; exact startI_01 _ _
    · rw [h1, vl_not g5.tree]
      rcases g5.b01 (r := r) g6 with z | z <;> rw [z]
      · exact Or.inr (by decide)
      · exact Or.inl (by decide)
    · rw [h1, vl_two g5.tree g6.tree g1 g2]
      unfold twoI
      rw [if_neg (by rw [show (7 : Int32) = nI 7 from rfl, nlt (by omega) (by omega)]; omega)]
      exact ite01
section C82
variable {X : CX} {d : Nat} {K : Nat → Nat} {I : Nat → Nat → Int32} {J : Nat → Nat → Int64} {R : Nat → Nat → Option Nat} {A : Nat → Nat → Int32} {B : Nat → Nat → Option Nat} {Ln : Nat → Nat} {n sl : Nat}
set_option maxRecDepth 100000 in
set_option maxHeartbeats 4000000 in
theorem cs_numberOf {r : Nat} (hr : K r = 3) : ∀ {f i : Nat} {e : EX}, ExpR K I R f i e → tyE e = false → EvM X mX1_numberOf (d + f) [rV (some i), rV (some r)] (K, I, J, R, A, B, Ln, n, sl) (fun r_ G' => r_ = some (iV (vlE (rwI I r) e)) ∧ G' = (K, I, J, R, A, B, Ln, n, sl)) := by
  intro f
  induction f with
  | zero => intro i e h; exact h.elim
  | succ f ih =>
    intro i e h ht
    obtain ⟨op, v, a, b, h1, h2, h3, h4, h5, h6⟩ := h
    rw [h1, tyE_snoc] at ht
    have ht := of_decide_eq_false ht
    show Ev X mX1_numberOf (d + (f + 1)) 0 [some (rV (some i)), some (rV (some r))] [] (K, I, J, R, A, B, Ln, n, sl) _
    rcases h6 with ⟨g1, rfl, rfl, -, -⟩ | ⟨rfl, rfl, g3, x, g4, g5, g6⟩ | ⟨g1, g2, x, y, g3, g4, g5, g6, g7, g8⟩
    · obtain rfl | rfl | rfl | rfl : op = 0 ∨ op = 1 ∨ op = 2 ∨ op = 3 := by omega
      · skip
        refine ev_aload_n dX1_numberOf_0 rfl ?_
        refine ev_ifnonnull 6 dX1_numberOf_1 (by decide) (fun x c1 => ?_) (fun c1 => by cases c1)
        refine ev_aload_n dX1_numberOf_6 rfl ?_
        refine ev_getIv dX1_numberOf_7 fX1_9 h2 h3 ?_
        refine ev_tswIn (x := 0) 52 dX1_numberOf_10 (by decide) (by decide) rfl (by decide) ?_
        refine ev_aload_n dX1_numberOf_52 rfl ?_
        refine ev_getI dX1_numberOf_53 fX1_36 hr ?_
        refine ev_ireturn dX1_numberOf_56 rfl ?_
        exact ⟨by rw [h1]; rfl, rfl⟩
      · skip
        refine ev_aload_n dX1_numberOf_0 rfl ?_
        refine ev_ifnonnull 6 dX1_numberOf_1 (by decide) (fun x c1 => ?_) (fun c1 => by cases c1)
        refine ev_aload_n dX1_numberOf_6 rfl ?_
        refine ev_getIv dX1_numberOf_7 fX1_9 h2 h3 ?_
        refine ev_tswIn (x := 1) 57 dX1_numberOf_10 (by decide) (by decide) rfl (by decide) ?_
        refine ev_aload_n dX1_numberOf_57 rfl ?_
        refine ev_getI dX1_numberOf_58 fX1_41 hr ?_
        refine ev_ireturn dX1_numberOf_61 rfl ?_
        exact ⟨by rw [h1]; rfl, rfl⟩
      · skip
        refine ev_aload_n dX1_numberOf_0 rfl ?_
        refine ev_ifnonnull 6 dX1_numberOf_1 (by decide) (fun x c1 => ?_) (fun c1 => by cases c1)
        refine ev_aload_n dX1_numberOf_6 rfl ?_
        refine ev_getIv dX1_numberOf_7 fX1_9 h2 h3 ?_
        refine ev_tswIn (x := 2) 62 dX1_numberOf_10 (by decide) (by decide) rfl (by decide) ?_
        refine ev_aload_n dX1_numberOf_62 rfl ?_
        refine ev_getI dX1_numberOf_63 fX1_44 hr ?_
        refine ev_ireturn dX1_numberOf_66 rfl ?_
        exact ⟨by rw [h1]; rfl, rfl⟩
      · skip
        refine ev_aload_n dX1_numberOf_0 rfl ?_
        refine ev_ifnonnull 6 dX1_numberOf_1 (by decide) (fun x c1 => ?_) (fun c1 => by cases c1)
        refine ev_aload_n dX1_numberOf_6 rfl ?_
        refine ev_getIv dX1_numberOf_7 fX1_9 h2 h3 ?_
        refine ev_tswIn (x := 3) 121 dX1_numberOf_10 (by decide) (by decide) rfl (by decide) ?_
        refine ev_aload_n dX1_numberOf_121 rfl ?_
        refine ev_getI dX1_numberOf_122 fX1_15 h2 ?_
        refine ev_ireturn dX1_numberOf_125 rfl ?_
        exact ⟨by rw [h1, ← h4]; rfl, rfl⟩
    · omega
    · have g9 : decide (9 ≤ op) = false := decide_eq_false (by omega)
      rw [g9] at g7 g8
      have ih1 := ih g5 g7
      have ih2 := ih g6 g8
      have hv := vl_two (r := rwI I r) (v := v) g5.tree g6.tree g1 g2
      obtain rfl | rfl | rfl : op = 4 ∨ op = 5 ∨ op = 6 := by omega
      · skip
        refine ev_aload_n dX1_numberOf_0 rfl ?_
        refine ev_ifnonnull 6 dX1_numberOf_1 (by decide) (fun x c1 => ?_) (fun c1 => by cases c1)
        refine ev_aload_n dX1_numberOf_6 rfl ?_
        refine ev_getIv dX1_numberOf_7 fX1_9 h2 h3 ?_
        refine ev_tswIn (x := 4) 67 dX1_numberOf_10 (by decide) (by decide) rfl (by decide) ?_
        refine ev_aload_n dX1_numberOf_67 rfl ?_
        refine ev_getR dX1_numberOf_68 fX1_18 h2 g3 ?_
        refine ev_aload_n dX1_numberOf_71 rfl ?_
        refine ev_callS dX1_numberOf_72 okX1_numberOf stX1_numberOf mlX1_47 [rV _, rV _] rfl rfl (Nat.le_of_ble_eq_true rfl) (Nat.le_of_ble_eq_true rfl) (ih1) (fun r_ G_ h_ => ?_)
        obtain ⟨rfl, rfl⟩ := h_
        try dsimp only [Option.toList, List.cons_append, List.nil_append]
        refine ev_aload_n dX1_numberOf_75 rfl ?_
        refine ev_getR dX1_numberOf_76 fX1_22 h2 g4 ?_
        refine ev_aload_n dX1_numberOf_79 rfl ?_
        refine ev_callS dX1_numberOf_80 okX1_numberOf stX1_numberOf mlX1_47 [rV _, rV _] rfl rfl (Nat.le_of_ble_eq_true rfl) (Nat.le_of_ble_eq_true rfl) (ih2) (fun r_ G_ h_ => ?_)
        obtain ⟨rfl, rfl⟩ := h_
        try dsimp only [Option.toList, List.cons_append, List.nil_append]
        refine ev_iadd dX1_numberOf_83 ?_
        refine ev_ireturn dX1_numberOf_84 rfl ?_
        exact ⟨by rw [h1, hv]; rfl, rfl⟩
      · skip
        refine ev_aload_n dX1_numberOf_0 rfl ?_
        refine ev_ifnonnull 6 dX1_numberOf_1 (by decide) (fun x c1 => ?_) (fun c1 => by cases c1)
        refine ev_aload_n dX1_numberOf_6 rfl ?_
        refine ev_getIv dX1_numberOf_7 fX1_9 h2 h3 ?_
        refine ev_tswIn (x := 5) 85 dX1_numberOf_10 (by decide) (by decide) rfl (by decide) ?_
        refine ev_aload_n dX1_numberOf_85 rfl ?_
        refine ev_getR dX1_numberOf_86 fX1_18 h2 g3 ?_
        refine ev_aload_n dX1_numberOf_89 rfl ?_
        refine ev_callS dX1_numberOf_90 okX1_numberOf stX1_numberOf mlX1_47 [rV _, rV _] rfl rfl (Nat.le_of_ble_eq_true rfl) (Nat.le_of_ble_eq_true rfl) (ih1) (fun r_ G_ h_ => ?_)
        obtain ⟨rfl, rfl⟩ := h_
        try dsimp only [Option.toList, List.cons_append, List.nil_append]
        refine ev_aload_n dX1_numberOf_93 rfl ?_
        refine ev_getR dX1_numberOf_94 fX1_22 h2 g4 ?_
        refine ev_aload_n dX1_numberOf_97 rfl ?_
        refine ev_callS dX1_numberOf_98 okX1_numberOf stX1_numberOf mlX1_47 [rV _, rV _] rfl rfl (Nat.le_of_ble_eq_true rfl) (Nat.le_of_ble_eq_true rfl) (ih2) (fun r_ G_ h_ => ?_)
        obtain ⟨rfl, rfl⟩ := h_
        try dsimp only [Option.toList, List.cons_append, List.nil_append]
        refine ev_isub dX1_numberOf_101 ?_
        refine ev_ireturn dX1_numberOf_102 rfl ?_
        exact ⟨by rw [h1, hv]; rfl, rfl⟩
      · skip
        refine ev_aload_n dX1_numberOf_0 rfl ?_
        refine ev_ifnonnull 6 dX1_numberOf_1 (by decide) (fun x c1 => ?_) (fun c1 => by cases c1)
        refine ev_aload_n dX1_numberOf_6 rfl ?_
        refine ev_getIv dX1_numberOf_7 fX1_9 h2 h3 ?_
        refine ev_tswIn (x := 6) 103 dX1_numberOf_10 (by decide) (by decide) rfl (by decide) ?_
        refine ev_aload_n dX1_numberOf_103 rfl ?_
        refine ev_getR dX1_numberOf_104 fX1_18 h2 g3 ?_
        refine ev_aload_n dX1_numberOf_107 rfl ?_
        refine ev_callS dX1_numberOf_108 okX1_numberOf stX1_numberOf mlX1_47 [rV _, rV _] rfl rfl (Nat.le_of_ble_eq_true rfl) (Nat.le_of_ble_eq_true rfl) (ih1) (fun r_ G_ h_ => ?_)
        obtain ⟨rfl, rfl⟩ := h_
        try dsimp only [Option.toList, List.cons_append, List.nil_append]
        refine ev_aload_n dX1_numberOf_111 rfl ?_
        refine ev_getR dX1_numberOf_112 fX1_22 h2 g4 ?_
        refine ev_aload_n dX1_numberOf_115 rfl ?_
        refine ev_callS dX1_numberOf_116 okX1_numberOf stX1_numberOf mlX1_47 [rV _, rV _] rfl rfl (Nat.le_of_ble_eq_true rfl) (Nat.le_of_ble_eq_true rfl) (ih2) (fun r_ G_ h_ => ?_)
        obtain ⟨rfl, rfl⟩ := h_
        try dsimp only [Option.toList, List.cons_append, List.nil_append]
        refine ev_imul dX1_numberOf_119 ?_
        refine ev_ireturn dX1_numberOf_120 rfl ?_
        exact ⟨by rw [h1, hv]; rfl, rfl⟩
theorem stw {a b : Nat} (hb : isNmN b) : (b = 0 → startI a b = 1) ∧ (b ≠ 0 → b % 729 = 0 → startI a b = bZ (decide (a / 729 = b / 729))) ∧ (b % 729 ≠ 0 → b % 27 = 0 → startI a b = bZ (decide (a / 27 = b / 27))) ∧ (b % 27 ≠ 0 → startI a b = bZ (decide (a = b))) := by
  unfold isNmN at hb
  unfold startI
  refine ⟨fun h => ?_, fun h1 h2 => ?_, fun h1 h2 => ?_, fun h1 => ?_⟩
  · rw [if_pos (by subst h; simp)]
  · by_cases h : a / 729 = b / 729
    · rw [if_pos (by omega), decide_eq_true h]; rfl
    · rw [if_neg (by omega), decide_eq_false h]; rfl
  · by_cases h : a / 27 = b / 27
    · rw [if_pos (by omega), decide_eq_true h]; rfl
    · rw [if_neg (by omega), decide_eq_false h]; rfl
  · by_cases h : a = b
    · rw [if_pos (by omega), decide_eq_true h]; rfl
    · rw [if_neg (by omega), decide_eq_false h]; rfl
set_option maxRecDepth 100000 in
set_option maxHeartbeats 4000000 in
theorem cs_startsWith {r a b : Nat} (hr : K r = 3) (hn : I 194 r = nI a) (ha : a < 2147483648) (hb : b < 2147483648) (hnm : isNmN b) : EvM X mX3_startsWith d [rV (some r), iV (nI b)] (K, I, J, R, A, B, Ln, n, sl) (fun r_ G' => r_ = some (iV (startI a b)) ∧ G' = (K, I, J, R, A, B, Ln, n, sl)) := by
  obtain ⟨s1, s2, s3, s4⟩ := stw (a := a) hnm
  show Ev X mX3_startsWith d 0 [some (rV (some r)), some (iV (nI b))] [] (K, I, J, R, A, B, Ln, n, sl) _
  refine ev_iload_n dX3_startsWith_0 rfl ?_
  refine ev_if_neN 6 dX3_startsWith_1 (by decide) (by omega) (fun c1 => ?_) (fun c1 => ?_)
  · refine ev_iload_n dX3_startsWith_6 rfl ?_
    refine ev_sipushN 729 dX3_startsWith_7 (by decide) ?_
    refine ev_iremN dX3_startsWith_10 (by omega) (by omega) (by omega) ?_
    refine ev_if_neN 36 dX3_startsWith_11 (by decide) (by omega) (fun c11 => ?_) (fun c11 => ?_)
    · refine ev_iload_n dX3_startsWith_36 rfl ?_
      refine ev_bipushN 27 dX3_startsWith_37 (by decide) ?_
      refine ev_iremN dX3_startsWith_39 (by omega) (by omega) (by omega) ?_
      refine ev_if_neN 63 dX3_startsWith_40 (by decide) (by omega) (fun c40 => ?_) (fun c40 => ?_)
      · refine ev_aload_n dX3_startsWith_63 rfl ?_
        refine ev_getIv dX3_startsWith_64 fX3_18 hr hn ?_
        refine ev_iload_n dX3_startsWith_67 rfl ?_
        refine ev_icmp_neN 75 dX3_startsWith_68 (by decide) (by omega) (by omega) (fun c68 => ?_) (fun c68 => ?_)
        · refine ev_iconstN 0 dX3_startsWith_75 (by decide) ?_
          refine ev_zreturn dX3_startsWith_76 rfl (by decide) ?_
          first | (rw [s1 (by omega)]; exact ⟨rfl, rfl⟩) | (rw [s2 (by omega) (by omega), decide_eq_true (by omega)]; exact ⟨rfl, rfl⟩) | (rw [s2 (by omega) (by omega), decide_eq_false (by omega)]; exact ⟨rfl, rfl⟩) | (rw [s3 (by omega) (by omega), decide_eq_true (by omega)]; exact ⟨rfl, rfl⟩) | (rw [s3 (by omega) (by omega), decide_eq_false (by omega)]; exact ⟨rfl, rfl⟩) | (rw [s4 (by omega), decide_eq_true (by omega)]; exact ⟨rfl, rfl⟩) | (rw [s4 (by omega), decide_eq_false (by omega)]; exact ⟨rfl, rfl⟩)
        · refine ev_iconstN 1 dX3_startsWith_71 (by decide) ?_
          refine ev_goto 76 dX3_startsWith_72 (by decide) ?_
          refine ev_zreturn dX3_startsWith_76 rfl (by decide) ?_
          first | (rw [s1 (by omega)]; exact ⟨rfl, rfl⟩) | (rw [s2 (by omega) (by omega), decide_eq_true (by omega)]; exact ⟨rfl, rfl⟩) | (rw [s2 (by omega) (by omega), decide_eq_false (by omega)]; exact ⟨rfl, rfl⟩) | (rw [s3 (by omega) (by omega), decide_eq_true (by omega)]; exact ⟨rfl, rfl⟩) | (rw [s3 (by omega) (by omega), decide_eq_false (by omega)]; exact ⟨rfl, rfl⟩) | (rw [s4 (by omega), decide_eq_true (by omega)]; exact ⟨rfl, rfl⟩) | (rw [s4 (by omega), decide_eq_false (by omega)]; exact ⟨rfl, rfl⟩)
      · refine ev_aload_n dX3_startsWith_43 rfl ?_
        refine ev_getIv dX3_startsWith_44 fX3_18 hr hn ?_
        refine ev_bipushN 27 dX3_startsWith_47 (by decide) ?_
        refine ev_idivN dX3_startsWith_49 (by omega) (by omega) (by omega) ?_
        refine ev_iload_n dX3_startsWith_50 rfl ?_
        refine ev_bipushN 27 dX3_startsWith_51 (by decide) ?_
        refine ev_idivN dX3_startsWith_53 (by omega) (by omega) (by omega) ?_
        refine ev_icmp_neN 61 dX3_startsWith_54 (by decide) (by omega) (by omega) (fun c54 => ?_) (fun c54 => ?_)
        · refine ev_iconstN 0 dX3_startsWith_61 (by decide) ?_
          refine ev_zreturn dX3_startsWith_62 rfl (by decide) ?_
          first | (rw [s1 (by omega)]; exact ⟨rfl, rfl⟩) | (rw [s2 (by omega) (by omega), decide_eq_true (by omega)]; exact ⟨rfl, rfl⟩) | (rw [s2 (by omega) (by omega), decide_eq_false (by omega)]; exact ⟨rfl, rfl⟩) | (rw [s3 (by omega) (by omega), decide_eq_true (by omega)]; exact ⟨rfl, rfl⟩) | (rw [s3 (by omega) (by omega), decide_eq_false (by omega)]; exact ⟨rfl, rfl⟩) | (rw [s4 (by omega), decide_eq_true (by omega)]; exact ⟨rfl, rfl⟩) | (rw [s4 (by omega), decide_eq_false (by omega)]; exact ⟨rfl, rfl⟩)
        · refine ev_iconstN 1 dX3_startsWith_57 (by decide) ?_
          refine ev_goto 62 dX3_startsWith_58 (by decide) ?_
          refine ev_zreturn dX3_startsWith_62 rfl (by decide) ?_
          first | (rw [s1 (by omega)]; exact ⟨rfl, rfl⟩) | (rw [s2 (by omega) (by omega), decide_eq_true (by omega)]; exact ⟨rfl, rfl⟩) | (rw [s2 (by omega) (by omega), decide_eq_false (by omega)]; exact ⟨rfl, rfl⟩) | (rw [s3 (by omega) (by omega), decide_eq_true (by omega)]; exact ⟨rfl, rfl⟩) | (rw [s3 (by omega) (by omega), decide_eq_false (by omega)]; exact ⟨rfl, rfl⟩) | (rw [s4 (by omega), decide_eq_true (by omega)]; exact ⟨rfl, rfl⟩) | (rw [s4 (by omega), decide_eq_false (by omega)]; exact ⟨rfl, rfl⟩)
    · refine ev_aload_n dX3_startsWith_14 rfl ?_
      refine ev_getIv dX3_startsWith_15 fX3_18 hr hn ?_
      refine ev_sipushN 729 dX3_startsWith_18 (by decide) ?_
      refine ev_idivN dX3_startsWith_21 (by omega) (by omega) (by omega) ?_
      refine ev_iload_n dX3_startsWith_22 rfl ?_
      refine ev_sipushN 729 dX3_startsWith_23 (by decide) ?_
      refine ev_idivN dX3_startsWith_26 (by omega) (by omega) (by omega) ?_
      refine ev_icmp_neN 34 dX3_startsWith_27 (by decide) (by omega) (by omega) (fun c27 => ?_) (fun c27 => ?_)
      · refine ev_iconstN 0 dX3_startsWith_34 (by decide) ?_
        refine ev_zreturn dX3_startsWith_35 rfl (by decide) ?_
        first | (rw [s1 (by omega)]; exact ⟨rfl, rfl⟩) | (rw [s2 (by omega) (by omega), decide_eq_true (by omega)]; exact ⟨rfl, rfl⟩) | (rw [s2 (by omega) (by omega), decide_eq_false (by omega)]; exact ⟨rfl, rfl⟩) | (rw [s3 (by omega) (by omega), decide_eq_true (by omega)]; exact ⟨rfl, rfl⟩) | (rw [s3 (by omega) (by omega), decide_eq_false (by omega)]; exact ⟨rfl, rfl⟩) | (rw [s4 (by omega), decide_eq_true (by omega)]; exact ⟨rfl, rfl⟩) | (rw [s4 (by omega), decide_eq_false (by omega)]; exact ⟨rfl, rfl⟩)
      · refine ev_iconstN 1 dX3_startsWith_30 (by decide) ?_
        refine ev_goto 35 dX3_startsWith_31 (by decide) ?_
        refine ev_zreturn dX3_startsWith_35 rfl (by decide) ?_
        first | (rw [s1 (by omega)]; exact ⟨rfl, rfl⟩) | (rw [s2 (by omega) (by omega), decide_eq_true (by omega)]; exact ⟨rfl, rfl⟩) | (rw [s2 (by omega) (by omega), decide_eq_false (by omega)]; exact ⟨rfl, rfl⟩) | (rw [s3 (by omega) (by omega), decide_eq_true (by omega)]; exact ⟨rfl, rfl⟩) | (rw [s3 (by omega) (by omega), decide_eq_false (by omega)]; exact ⟨rfl, rfl⟩) | (rw [s4 (by omega), decide_eq_true (by omega)]; exact ⟨rfl, rfl⟩) | (rw [s4 (by omega), decide_eq_false (by omega)]; exact ⟨rfl, rfl⟩)
  · refine ev_iconstN 1 dX3_startsWith_4 (by decide) ?_
    refine ev_zreturn dX3_startsWith_5 rfl (by decide) ?_
    first | (rw [s1 (by omega)]; exact ⟨rfl, rfl⟩) | (rw [s2 (by omega) (by omega), decide_eq_true (by omega)]; exact ⟨rfl, rfl⟩) | (rw [s2 (by omega) (by omega), decide_eq_false (by omega)]; exact ⟨rfl, rfl⟩) | (rw [s3 (by omega) (by omega), decide_eq_true (by omega)]; exact ⟨rfl, rfl⟩) | (rw [s3 (by omega) (by omega), decide_eq_false (by omega)]; exact ⟨rfl, rfl⟩) | (rw [s4 (by omega), decide_eq_true (by omega)]; exact ⟨rfl, rfl⟩) | (rw [s4 (by omega), decide_eq_false (by omega)]; exact ⟨rfl, rfl⟩)
end C82
