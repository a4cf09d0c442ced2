theorem shl37 (x : Int64) : x <<< ((nI 37).toInt64 &&& 63) = x * 137438953472 := by
  rw [show ((nI 37).toInt64 &&& 63) = (37 : Int64) by decide]
  apply Int64.toBitVec_inj.mp
  rw [Int64.toBitVec_shiftLeft, Int64.toBitVec_mul]
  rw [show (Int64.toBitVec 37).smod 64 = 37#64 by decide, show Int64.toBitVec 137438953472 = BitVec.twoPow 64 37 by decide, BitVec.mul_twoPow_eq_shiftLeft]
  rfl
theorem shl5 (x : Int64) : x <<< ((nI 5).toInt64 &&& 63) = x * 32 := by
  rw [show ((nI 5).toInt64 &&& 63) = (5 : Int64) by decide]
  apply Int64.toBitVec_inj.mp
  rw [Int64.toBitVec_shiftLeft, Int64.toBitVec_mul]
  rw [show (Int64.toBitVec 5).smod 64 = 5#64 by decide, show Int64.toBitVec 32 = BitVec.twoPow 64 5 by decide, BitVec.mul_twoPow_eq_shiftLeft]
  rfl
/-- spaces 0 .. 3, keys 0 .. 31 -/
def RgE (s k : Int32) : Prop := (0 ≤ s.toInt ∧ s.toInt ≤ 3) ∧ 0 ≤ k.toInt ∧ k.toInt ≤ 31
theorem plc_int {s v k : Int32} (h : RgE s k) : (plcL s v k).toInt = s.toInt * 137438953472 + (v.toInt + 2147483648) * 32 + k.toInt := by
  obtain ⟨hs, hk⟩ := h
  have h1 := v.le_toInt
  have h2 := v.toInt_lt
  unfold plcL
  rw [shl37, shl5, Int64.toInt_add, Int64.toInt_add, Int64.toInt_mul, Int64.toInt_mul, Int64.toInt_sub, Int32.toInt_toInt64, Int32.toInt_toInt64, Int32.toInt_toInt64, show Int64.toInt 137438953472 = 137438953472 by decide, show Int64.toInt 32 = 32 by decide, show Int64.toInt (-2147483648) = -2147483648 by decide]
  rw [Int.bmod_eq_of_le (n := v.toInt - -2147483648) (by omega) (by omega), Int.bmod_eq_of_le (n := s.toInt * 137438953472) (by omega) (by omega), Int.bmod_eq_of_le (n := (v.toInt - -2147483648) * 32) (by omega) (by omega), Int.bmod_eq_of_le (n := s.toInt * 137438953472 + (v.toInt - -2147483648) * 32) (by omega) (by omega), Int.bmod_eq_of_le (by omega) (by omega)]
  omega
theorem plc_eq {s v k s' v' k' : Int32} (h : RgE s k) (h' : RgE s' k') : plcL s v k = plcL s' v' k' ↔ s = s' ∧ v = v' ∧ k = k' := by
  constructor
  · intro z
    have z := congrArg Int64.toInt z
    rw [plc_int h, plc_int h'] at z
    obtain ⟨hs, hk⟩ := h
    obtain ⟨hs', hk'⟩ := h'
    have a1 := v.le_toInt
    have a2 := v.toInt_lt
    have b1 := v'.le_toInt
    have b2 := v'.toInt_lt
    exact ⟨Int32.toInt.inj (by omega), Int32.toInt.inj (by omega), Int32.toInt.inj (by omega)⟩
  · rintro ⟨rfl, rfl, rfl⟩; rfl
theorem plc_lt {s v k s' v' k' : Int32} (h : RgE s k) (h' : RgE s' k') : plcL s v k < plcL s' v' k' ↔ s < s' ∨ (s = s' ∧ (v < v' ∨ (v = v' ∧ k < k'))) := by
  rw [Int64.lt_iff_toInt_lt, plc_int h, plc_int h', Int32.lt_iff_toInt_lt, Int32.lt_iff_toInt_lt, Int32.lt_iff_toInt_lt, ← Int32.toInt_inj, ← Int32.toInt_inj]
  obtain ⟨hs, hk⟩ := h
  obtain ⟨hs', hk'⟩ := h'
  have a1 := v.le_toInt
  have a2 := v.toInt_lt
  have b1 := v'.le_toInt
  have b2 := v'.toInt_lt
  omega
theorem befL_iff {p q : Int64} {t u : Int32} : befL p t q u = true ↔ p < q ∨ (p = q ∧ u < t) := by
  unfold befL
  exact decide_eq_true_iff
theorem befL_trans {p q r : Int64} {t u w : Int32} (h1 : befL p t q u = true) (h2 : befL q u r w = true) : befL p t r w = true := by
  rw [befL_iff] at *
  rcases h1 with h1 | ⟨rfl, h1⟩
  · rcases h2 with h2 | ⟨rfl, h2⟩
    · exact Or.inl (Int64.lt_trans h1 h2)
    · exact Or.inl h1
  · rcases h2 with h2 | ⟨rfl, h2⟩
    · exact Or.inl h2
    · exact Or.inr ⟨rfl, Int32.lt_trans h2 h1⟩
theorem befL_irr {p : Int64} {t : Int32} : ¬ befL p t p t = true := by
  rw [befL_iff]
  rintro (h | ⟨-, h⟩)
  · exact Int64.lt_irrefl h
  · exact Int32.lt_irrefl h
theorem befL_tot {p q : Int64} {t u : Int32} (h1 : ¬ befL p t q u = true) (h2 : ¬ (p = q ∧ t = u)) : befL q u p t = true := by
  rw [befL_iff] at *
  by_cases hp : p = q
  · subst hp
    have : ¬ u < t := fun z => h1 (Or.inr ⟨rfl, z⟩)
    have hne : t ≠ u := fun z => h2 ⟨rfl, z⟩
    refine Or.inr ⟨rfl, ?_⟩
    rw [Int32.lt_iff_toInt_lt] at *
    rw [Ne, ← Int32.toInt_inj] at hne
    omega
  · have : ¬ p < q := fun z => h1 (Or.inl z)
    refine Or.inl ?_
    rw [Int64.lt_iff_toInt_lt] at *
    rw [← Int64.toInt_inj] at hp
    omega
/-- in their order -/
def SrtR (I : Nat → Nat → Int32) (J : Nat → Nat → Int64) (cs : List Nat) : Prop := cs.Pairwise (fun x y => befL (J 3 x) (I 4 x) (J 3 y) (I 4 y) = true)
theorem srt_cb {I : Nat → Nat → Int32} {J : Nat → Nat → Int64} (q : Int64) (u : Int32) : ∀ {cs : List Nat}, SrtR I J cs → ∃ c, c ≤ cs.length ∧ ∀ j e, cs[j]? = some e → (befL (J 3 e) (I 4 e) q u = true ↔ j < c)
  | [], _ => ⟨0, Nat.le_refl _, fun j e h => by simp at h⟩
  | x :: cs, h => by
    obtain ⟨h1, h2⟩ := List.pairwise_cons.mp h
    by_cases hx : befL (J 3 x) (I 4 x) q u = true
    · obtain ⟨c, hc, hh⟩ := srt_cb q u h2
      refine ⟨c + 1, by rw [List.length_cons]; omega, fun j e hj => ?_⟩
      cases j with
      | zero => cases hj; exact ⟨fun _ => Nat.succ_pos _, fun _ => hx⟩
      | succ j => rw [hh j e hj]; omega
    · refine ⟨0, Nat.zero_le _, fun j e hj => ⟨fun z => absurd ?_ hx, fun z => absurd z (Nat.not_lt_zero _)⟩⟩
      cases j with
      | zero => cases hj; exact z
      | succ j =>
        have hj' : cs[j]? = some e := hj
        exact befL_trans (h1 e (List.mem_of_getElem? hj')) z
/-- the newest of a place that is seen at a stamp -/
def rsC (I : Nat → Nat → Int32) (J : Nat → Nat → Int64) (cs : List Nat) (q : Int64) (u : Int32) : Option Nat := cs.find? (fun e => decide (J 3 e = q) && decide (I 4 e ≤ u))
theorem sn_rs {I : Nat → Nat → Int32} {J : Nat → Nat → Int64} {q : Int64} {u : Int32} : ∀ {cs : List Nat} {c : Nat}, SrtR I J cs → (∀ j e, cs[j]? = some e → (befL (J 3 e) (I 4 e) q u = true ↔ j < c)) → snE J cs c q = rsC I J cs q u
  | [], c, _, _ => by unfold snE rsC; simp
  | x :: cs, c, h, hc => by
    obtain ⟨h1, h2⟩ := List.pairwise_cons.mp h
    have hx := hc 0 x rfl
    rw [befL_iff] at hx
    cases c with
    | zero =>
      have hnx : ¬ (J 3 x < q ∨ (J 3 x = q ∧ u < I 4 x)) := fun z => absurd (hx.mp z) (Nat.lt_irrefl _)
      unfold snE rsC
      show (if J 3 x = q then some x else none) = _
      rw [List.find?_cons]
      by_cases hq : J 3 x = q
      · have hle : I 4 x ≤ u := Int32.not_lt.mp (fun z => hnx (Or.inr ⟨hq, z⟩))
        rw [if_pos hq, decide_eq_true hq, decide_eq_true hle]; rfl
      · rw [if_neg hq, decide_eq_false hq]
        show none = cs.find? _
        symm
        rw [List.find?_eq_none]
        intro y hy z
        have hb := h1 y hy
        rw [befL_iff] at hb
        rw [Bool.and_eq_true, decide_eq_true_iff] at z
        have hlt : ¬ J 3 x < q := fun z => hnx (Or.inl z)
        rw [z.1] at hb
        rcases hb with hb | ⟨hb, -⟩
        · exact hlt hb
        · exact hq hb
    | succ c =>
      have hbx := hx.mpr (Nat.succ_pos _)
      have ih := sn_rs (c := c) h2 (fun j e hj => by rw [hc (j + 1) e hj]; omega)
      have e1 : snE J (x :: cs) (c + 1) q = snE J cs c q := rfl
      rw [e1, ih]
      unfold rsC
      rw [List.find?_cons]
      have : (decide (J 3 x = q) && decide (I 4 x ≤ u)) = false := by
        rcases hbx with z | ⟨z1, z2⟩
        · rw [decide_eq_false (fun y => by rw [y] at z; exact Int64.lt_irrefl z)]; rfl
        · rw [decide_eq_false (Int32.not_le.mpr z2), Bool.and_false]
      rw [this]
theorem ins_srt {I : Nat → Nat → Int32} {J : Nat → Nat → Int64} {cs : List Nat} {c e : Nat} (h : SrtR I J cs) (hc : c ≤ cs.length) (hb : ∀ j x, cs[j]? = some x → (befL (J 3 x) (I 4 x) (J 3 e) (I 4 e) = true ↔ j < c)) (hne : ∀ x ∈ cs, ¬ (J 3 x = J 3 e ∧ I 4 x = I 4 e)) : SrtR I J (insA cs c e) := by
  unfold insA SrtR
  rw [List.pairwise_append]
  have h' : (cs.take c ++ cs.drop c).Pairwise (fun x y => befL (J 3 x) (I 4 x) (J 3 y) (I 4 y) = true) := by rw [List.take_append_drop]; exact h
  rw [List.pairwise_append] at h'
  obtain ⟨p1, p2, p3⟩ := h'
  have ht : ∀ x ∈ cs.take c, befL (J 3 x) (I 4 x) (J 3 e) (I 4 e) = true := fun x hx => by
    obtain ⟨j, hj, rfl⟩ := List.getElem_of_mem hx
    rw [List.length_take] at hj
    have hjc : cs[j]? = some (cs.take c)[j] := by rw [List.getElem_take]; exact List.getElem?_eq_getElem (by omega)
    exact (hb j _ hjc).mpr (by omega)
  have hd : ∀ x ∈ cs.drop c, befL (J 3 e) (I 4 e) (J 3 x) (I 4 x) = true := fun x hx => by
    obtain ⟨j, hj, rfl⟩ := List.getElem_of_mem hx
    rw [List.length_drop] at hj
    have hjc : cs[c + j]? = some (cs.drop c)[j] := by rw [List.getElem_drop]; exact List.getElem?_eq_getElem (by omega)
    refine befL_tot (fun z => ?_) (hne _ (List.mem_of_mem_drop hx))
    have := (hb _ _ hjc).mp z
    omega
  refine ⟨p1, List.pairwise_cons.mpr ⟨hd, p2⟩, fun x hx y hy => ?_⟩
  rcases List.mem_cons.mp hy with rfl | hy
  · exact ht x hx
  · exact p3 x hx y hy
theorem ins_perm {cs : List Nat} {c e : Nat} : (insA cs c e).Perm (e :: cs) := by
  unfold insA
  have h := List.perm_middle (a := e) (l₁ := cs.take c) (l₂ := cs.drop c)
  rw [List.take_append_drop] at h
  exact h
