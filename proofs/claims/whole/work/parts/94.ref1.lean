theorem nrm_S (x : EE) : eS (nrmE x) = eS x ∧ eV (nrmE x) = eV x ∧ eK (nrmE x) = eK x ∧ eT (nrmE x) = eT x ∧ eL (nrmE x) = eL x ∧ eF (nrmE x) = eF x := by
  unfold nrmE
  by_cases h : eL x = 0
  · rw [if_pos h]
    exact ⟨rfl, rfl, rfl, rfl, h.symm, rfl⟩
  · rw [if_neg h]
    exact ⟨rfl, rfl, rfl, rfl, rfl, rfl⟩
theorem nrm_wF (x : EE) (v : Int32) : nrmE (wF x v) = wF (nrmE x) v := by
  unfold nrmE
  by_cases h : eL x = 0
  · rw [if_pos h, if_pos (show eL (wF x v) = 0 from h)]; rfl
  · rw [if_neg h, if_neg (show ¬ eL (wF x v) = 0 from h)]
def bfE (x y : EE) : Bool := befL (plc x) (eT x) (plc y) (eT y)
theorem plc_nrm (x : EE) : plc (nrmE x) = plc x := by
  obtain ⟨h1, h2, h3, -⟩ := nrm_S x
  unfold plc
  rw [h1, h2, h3]
theorem bfE_nrm (x y : EE) : bfE (nrmE x) (nrmE y) = bfE x y := by
  unfold bfE
  rw [plc_nrm, plc_nrm, (nrm_S x).2.2.2.1, (nrm_S y).2.2.2.1]
/-- what holds of the store always -/
def SaV (s : SA) : Prop := s.1.Pairwise (fun x y => bfE x y = true) ∧ (∀ x ∈ s.1, RgE (eS x) (eK x) ∧ (eL x = 0 ∨ eL x = 1) ∧ nrmE x = x ∧ (eF x = 0 ∨ ∃ p ∈ s.2.1, p.1 = eF x)) ∧ (∀ p ∈ s.2.1, ofS s.1 p.1 ≠ [] ∧ ∃ k, 0 < k ∧ k ≤ s.2.2 ∧ p.1 = nI k) ∧ (s.2.1.map (fun p => p.1)).Nodup ∧ s.1.length ≤ 500 ∧ s.2.1.length ≤ 500
theorem CsR.valid {K : Nat → Nat} {I : Nat → Nat → Int32} {J : Nat → Nat → Int64} {R B : Nat → Nat → Option Nat} {Ln : Nat → Nat} {n a m : Nat} {cs fs : List Nat} {s : SA} (h : CsR K I J R B Ln n a m cs fs s) (hmd : s.2.2 < 2147483648) : SaV s := by
  have hb := h.1
  obtain ⟨⟨⟨-, e2, -⟩, -, ⟨-, sN2⟩, -, -, -, -, s8, s9, s10⟩, hp, hO, -⟩ := hb
  refine ⟨?_, fun x hx => ?_, fun p hp' => ?_, ?_, ?_, ?_⟩
  · rw [h.2.1, List.pairwise_map]
    refine List.Pairwise.imp_of_mem (fun {x y} hx hy z => ?_) hO
    unfold bfE
    rw [plc_ent h.1 hx, plc_ent h.1 hy]
    exact z
  · rw [h.2.1] at hx
    obtain ⟨e, he, rfl⟩ := List.mem_map.mp hx
    refine ⟨(hp e he).2, ?_, ?_, ?_⟩
    · show lvR R e = 0 ∨ lvR R e = 1
      unfold lvR
      split
      · exact Or.inl rfl
      · exact Or.inr rfl
    · unfold nrmE
      by_cases z : R 5 e = none
      · have : eL (entC I R e) = 0 := by show lvR R e = 0; unfold lvR; rw [if_pos z]
        rw [if_pos this]
        unfold entC lvR
        rw [if_pos z, z]
        rfl
      · have : ¬ eL (entC I R e) = 0 := by show ¬ lvR R e = 0; unfold lvR; rw [if_neg z]; decide
        rw [if_neg this]
    · show nuF I R e = 0 ∨ _
      cases hr : R 6 e with
      | none => exact Or.inl (by unfold nuF; rw [hr]; rfl)
      | some g =>
        refine Or.inr ⟨(I 320 g, I 321 g), by rw [h.2.2]; exact List.mem_map_of_mem (s8 e he g hr), ?_⟩
        show I 320 g = nuF I R e
        unfold nuF; rw [hr]; rfl
  · rw [h.2.2] at hp'
    obtain ⟨g, hg, rfl⟩ := List.mem_map.mp hp'
    obtain ⟨-, ⟨z1, -⟩, k, k1, k2, k3⟩ := s9 g hg
    refine ⟨?_, k, k1, k2, k3⟩
    show ofS s.1 (I 320 g) ≠ []
    rw [h.seg hmd hg]
    intro z
    exact z1 (List.map_eq_nil_iff.mp z)
  · rw [h.2.2, List.map_map]
    refine (List.pairwise_map).mpr (List.Pairwise.imp_of_mem (fun {x y} hx hy z w => z (s10 x hx y hy w)) sN2)
  · rw [h.2.1, List.length_map]; exact e2
  · rw [h.2.2, List.length_map]
    have := h.1.1.cap (fun _ => false) (fun _ => false) (fun _ _ _ _ => rfl)
    rw [show (fs.filter (fun _ => !false)) = fs from List.filter_eq_self.mpr (fun _ _ => rfl)] at this
    omega
theorem bfE_trans {x y z : EE} (h1 : bfE x y = true) (h2 : bfE y z = true) : bfE x z = true := befL_trans h1 h2
theorem bfE_asym {x y : EE} (h1 : bfE x y = true) (h2 : bfE y x = true) : False := befL_irr (befL_trans h1 h2)
theorem perm_lift {α β : Type} {f : α → β} : ∀ {l : List α} {m : List β}, (l.map f).Perm m → ∃ l' : List α, l'.Perm l ∧ l'.map f = m := by
  intro l m h
  generalize hk : l.map f = k at h
  induction h generalizing l with
  | nil => exact ⟨[], by rw [List.map_eq_nil_iff.mp hk], rfl⟩
  | cons x _ ih =>
    obtain ⟨a, l1, rfl, rfl, h2⟩ := List.map_eq_cons_iff.mp hk
    obtain ⟨l', p1, p2⟩ := ih h2
    exact ⟨a :: l', p1.cons a, by rw [List.map_cons, p2]⟩
  | swap x y _ =>
    obtain ⟨a, l1, rfl, rfl, h2⟩ := List.map_eq_cons_iff.mp hk
    obtain ⟨b, l2, rfl, rfl, h3⟩ := List.map_eq_cons_iff.mp h2
    exact ⟨b :: a :: l2, List.Perm.swap _ _ _, by rw [List.map_cons, List.map_cons, h3]⟩
  | trans _ _ ih1 ih2 =>
    obtain ⟨l1, p1, p2⟩ := ih1 hk
    obtain ⟨l2, p3, p4⟩ := ih2 p2
    exact ⟨l2, p3.trans p1, p4⟩
/-- the reference's store is s -/
def RfR (I A : Nat → Nat → Int32) (many : Nat) (s : SA) : Prop := I 582 11 = nI many ∧ ((List.range many).map (fun e => nrmE (entA A e))).Perm s.1 ∧ FlA A s.2.1 ∧ I 590 11 = nI s.2.1.length ∧ I 593 11 = nI s.2.2
section RFR
variable {I A : Nat → Nat → Int32} {many : Nat} {s : SA}
theorem RfR.len (h : RfR I A many s) : many = s.1.length := by
  have := h.2.1.length_eq
  rw [List.length_map, List.length_range] at this
  exact this
theorem RfR.mem (h : RfR I A many s) {e : Nat} (he : e < many) : nrmE (entA A e) ∈ s.1 := h.2.1.mem_iff.mp (List.mem_map_of_mem (List.mem_range.mpr he))
/-- the reference's entries in the order of the store -/
theorem RfR.il (h : RfR I A many s) : ∃ il : List Nat, il.Perm (List.range many) ∧ il.map (fun e => nrmE (entA A e)) = s.1 := perm_lift h.2.1
theorem pl_bf {a b : Nat} (ha : RgE (A 16 a) (A 18 a)) (hb : RgE (A 16 b) (A 18 b)) : (plI (A 16) (A 17) (A 18) a b < 0 ↔ plc (entA A a) < plc (entA A b)) ∧ (plI (A 16) (A 17) (A 18) a b = 0 ↔ plc (entA A a) = plc (entA A b)) := by
  have h1 := plc_lt (v := A 17 a) (v' := A 17 b) ha hb
  have h2 := plc_eq (v := A 17 a) (v' := A 17 b) ha hb
  have e1 : plc (entA A a) = plcL (A 16 a) (A 17 a) (A 18 a) := rfl
  have e2 : plc (entA A b) = plcL (A 16 b) (A 17 b) (A 18 b) := rfl
  rw [e1, e2, h1, h2]
  unfold plI
  have m1 : ((-1 : Int32) < 0) = True := eq_true (by decide)
  have m2 : ((1 : Int32) < 0) = False := eq_false (by decide)
  have m3 : ((0 : Int32) < 0) = False := eq_false (by decide)
  have m4 : ((-1 : Int32) = 0) = False := eq_false (by decide)
  have m5 : ((1 : Int32) = 0) = False := eq_false (by decide)
  have lt_ne : ∀ {x y : Int32}, x < y → x ≠ y := fun h z => by rw [z] at h; exact Int32.lt_irrefl h
  by_cases hs : A 16 a = A 16 b
  · rw [if_pos hs, hs]
    have n0 : ¬ A 16 b < A 16 b := Int32.lt_irrefl
    by_cases hv : A 17 a = A 17 b
    · rw [if_pos hv, hv]
      have n1 : ¬ A 17 b < A 17 b := Int32.lt_irrefl
      by_cases hk : A 18 a < A 18 b
      · rw [if_pos hk]
        have := lt_ne hk
        simp [n0, n1, hk, this, m1, m4]
      · rw [if_neg hk]
        by_cases hk2 : A 18 b < A 18 a
        · rw [if_pos hk2]
          have : A 18 a ≠ A 18 b := fun z => lt_ne hk2 z.symm
          simp [n0, n1, hk, this, m2, m5]
        · rw [if_neg hk2]
          have : A 18 a = A 18 b := Int32.le_antisymm (Int32.not_lt.mp hk2) (Int32.not_lt.mp hk)
          simp [n0, n1, this, m3, Int32.lt_irrefl]
    · rw [if_neg hv]
      by_cases hv2 : A 17 a < A 17 b
      · rw [if_pos hv2]; simp [n0, hv2, hv, m1, m4]
      · rw [if_neg hv2]; simp [n0, hv2, hv, m2, m5]
  · rw [if_neg hs]
    by_cases hs2 : A 16 a < A 16 b
    · rw [if_pos hs2]; simp [hs2, hs, m1, m4]
    · rw [if_neg hs2]; simp [hs2, hs, m2, m5]
theorem RfR.rg (h : RfR I A many s) (hv : SaV s) {e : Nat} (he : e < many) : RgE (A 16 e) (A 18 e) := by
  have := (hv.2.1 _ (h.mem he)).1
  obtain ⟨h1, h2, h3, -⟩ := nrm_S (entA A e)
  rw [h1, h3] at this
  exact this
theorem RfR.bf (h : RfR I A many s) (hv : SaV s) {a b : Nat} (ha : a < many) (hb : b < many) : bfB (A 16) (A 17) (A 18) (A 19) a b = bfE (entA A a) (entA A b) := by
  obtain ⟨p1, p2⟩ := pl_bf (h.rg hv ha) (h.rg hv hb)
  unfold bfB bfE befL
  refine decide_eq_decide.mpr ?_
  rw [p1, p2]
  exact Iff.rfl
theorem RfR.inj (h : RfR I A many s) (hv : SaV s) {a b : Nat} (ha : a < many) (hb : b < many) (hne : a ≠ b) : bfE (entA A a) (entA A b) = true ∨ bfE (entA A b) (entA A a) = true := by
  obtain ⟨il, h1, h2⟩ := h.il
  have hs := hv.1
  rw [← h2, List.pairwise_map] at hs
  have ia := h1.mem_iff.mpr (List.mem_range.mpr ha)
  have ib := h1.mem_iff.mpr (List.mem_range.mpr hb)
  obtain ⟨i, hi, rfl⟩ := List.getElem_of_mem ia
  obtain ⟨j, hj, rfl⟩ := List.getElem_of_mem ib
  rw [List.pairwise_iff_getElem] at hs
  rcases Nat.lt_trichotomy i j with c | c | c
  · have := hs i j hi hj c
    rw [bfE_nrm] at this
    exact Or.inl this
  · subst c; exact absurd rfl hne
  · have := hs j i hj hi c
    rw [bfE_nrm] at this
    exact Or.inr this
end RFR
theorem head_min {l : List EE} {y : EE} (hs : l.Pairwise (fun a b => bfE a b = true)) (hy : y ∈ l) (hm : ∀ z ∈ l, z = y ∨ bfE y z = true) : l.head? = some y := by
  cases l with
  | nil => cases hy
  | cons x l =>
    obtain ⟨h1, h2⟩ := List.pairwise_cons.mp hs
    rcases List.mem_cons.mp hy with rfl | hy
    · rfl
    · rcases hm x List.mem_cons_self with z | z
      · rw [z]; rfl
      · exact absurd (h1 y hy) (fun w => bfE_asym w z)
theorem last_max {l : List EE} {y : EE} (hs : l.Pairwise (fun a b => bfE a b = true)) (hy : y ∈ l) (hm : ∀ z ∈ l, z = y ∨ bfE z y = true) : l.getLast? = some y := by
  cases hl : l.getLast? with
  | none => rw [List.getLast?_eq_none_iff.mp hl] at hy; cases hy
  | some x =>
    obtain ⟨l', rfl⟩ : ∃ l', l = l' ++ [x] := by
      have hne : l ≠ [] := fun z => by rw [z] at hl; cases hl
      refine ⟨l.dropLast, ?_⟩
      rw [List.getLast?_eq_some_getLast hne] at hl
      cases hl
      exact (List.dropLast_concat_getLast hne).symm
    rcases List.mem_append.mp hy with hy | hy
    · rcases hm x (by simp) with z | z
      · rw [z]
      · exact absurd ((List.pairwise_append.mp hs).2.2 y hy x (by simp)) (fun w => bfE_asym w z)
    · rw [List.mem_singleton.mp hy]
