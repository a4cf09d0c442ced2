theorem cnt_range {p : Nat → Bool} : ∀ {e : Nat}, cnt p e = (List.range e).countP p
  | 0 => rfl
  | e + 1 => by
    rw [cnt.eq_2, List.range_succ, List.countP_append, cnt_range, List.countP_cons, List.countP_nil]
    simp
theorem RfR.cnt0 {I A : Nat → Nat → Int32} {many : Nat} {s : SA} (h : RfR I A many s) {x : Int32} : cnt (fun e => decide (A 22 e = x)) many = s.1.countP (fun y => decide (eF y = x)) := by
  rw [cnt_range, ← h.2.1.countP_eq, List.countP_map]
  refine List.countP_congr (fun e _ => ?_)
  show decide (A 22 e = x) = true ↔ decide (eF (nrmE (entA A e)) = x) = true
  rw [(nrm_S _).2.2.2.2.2]
  exact Iff.rfl
theorem RfR.flush {I A : Nat → Nat → Int32} {many : Nat} {s : SA} (h : RfR I A many s) (h0 : 0 < s.1.countP (fun x => decide (eF x = 0))) : RfR (u2 (u2 I 593 11 (nI (s.2.2 + 1))) 590 11 (nI (s.2.1.length + 1))) (flA (u2 (u2 A 23 s.2.1.length (nI (s.2.2 + 1))) 24 s.2.1.length (nI 0)) (nI (s.2.2 + 1)) many) many (fluS s) := by
  have hany : s.1.any (fun x => decide (eF x = 0)) = true := by
    obtain ⟨x, hx, hz⟩ := List.countP_pos_iff.mp h0
    exact List.any_eq_true.mpr ⟨x, hx, hz⟩
  obtain ⟨h1, h2, h3, h4, h5⟩ := h
  unfold fluS
  rw [if_pos hany]
  have hA : ∀ i, i ≠ 22 → flA (u2 (u2 A 23 s.2.1.length (nI (s.2.2 + 1))) 24 s.2.1.length (nI 0)) (nI (s.2.2 + 1)) many i = u2 (u2 A 23 s.2.1.length (nI (s.2.2 + 1))) 24 s.2.1.length (nI 0) i := fun i hi => by
    funext j
    unfold flA
    rw [if_neg (fun z => hi z.1)]
  have hA2 : ∀ i, i ≠ 22 → i ≠ 23 → i ≠ 24 → flA (u2 (u2 A 23 s.2.1.length (nI (s.2.2 + 1))) 24 s.2.1.length (nI 0)) (nI (s.2.2 + 1)) many i = A i := fun i a b c => by rw [hA i a, u2_row' c, u2_row' b]
  refine ⟨by rw [u2_ne1 (by decide), u2_ne1 (by decide)]; exact h1, ?_, fun j p hj => ?_, ?_, ?_⟩
  · have e1 : (List.range many).map (fun e => nrmE (entA (flA (u2 (u2 A 23 s.2.1.length (nI (s.2.2 + 1))) 24 s.2.1.length (nI 0)) (nI (s.2.2 + 1)) many) e)) = ((List.range many).map (fun e => nrmE (entA A e))).map (fun x => if eF x = 0 then wF x (nI (s.2.2 + 1)) else x) := by
      rw [List.map_map]
      refine List.map_congr_left (fun e he => ?_)
      have he := List.mem_range.mp he
      show _ = if eF (nrmE (entA A e)) = 0 then wF (nrmE (entA A e)) (nI (s.2.2 + 1)) else nrmE (entA A e)
      rw [(nrm_S _).2.2.2.2.2]
      have e22 : flA (u2 (u2 A 23 s.2.1.length (nI (s.2.2 + 1))) 24 s.2.1.length (nI 0)) (nI (s.2.2 + 1)) many 22 e = if A 22 e = 0 then nI (s.2.2 + 1) else A 22 e := by
        unfold flA
        rw [u2_ne1 (by decide), u2_ne1 (by decide)]
        by_cases z : A 22 e = 0
        · rw [if_pos ⟨rfl, he, z⟩, if_pos z]
        · rw [if_neg (fun y => z y.2.2), if_neg z]
      have e2 : entA (flA (u2 (u2 A 23 s.2.1.length (nI (s.2.2 + 1))) 24 s.2.1.length (nI 0)) (nI (s.2.2 + 1)) many) e = wF (entA A e) (if A 22 e = 0 then nI (s.2.2 + 1) else A 22 e) := by
        unfold entA wF
        rw [e22, hA2 16 (by decide) (by decide) (by decide), hA2 17 (by decide) (by decide) (by decide), hA2 18 (by decide) (by decide) (by decide), hA2 19 (by decide) (by decide) (by decide), hA2 20 (by decide) (by decide) (by decide), hA2 21 (by decide) (by decide) (by decide)]
      rw [e2, nrm_wF]
      by_cases z : A 22 e = 0
      · rw [if_pos z, if_pos (show eF (entA A e) = 0 from z)]
      · rw [if_neg z, if_neg (show ¬ eF (entA A e) = 0 from z)]
        unfold nrmE
        split <;> rfl
    rw [e1]
    exact h2.map _
  · rw [hA 23 (by decide), hA 24 (by decide)]
    by_cases hjl : j = s.2.1.length
    · subst hjl
      rw [List.getElem?_append_right (Nat.le_refl _), Nat.sub_self] at hj
      cases hj
      exact ⟨by rw [u2_ne1 (by decide)]; exact u2_self, u2_self⟩
    · have hl := (List.getElem?_eq_some_iff.mp hj).1
      rw [List.length_append, List.length_singleton] at hl
      rw [List.getElem?_append_left (by omega)] at hj
      rw [u2_ne2 hjl, u2_ne2 hjl, u2_ne2 hjl]
      obtain ⟨z1, z2⟩ := h3 j p hj
      exact ⟨z1, z2⟩
  · show u2 _ 590 11 _ 590 11 = nI (s.2.1 ++ [_]).length
    rw [u2_self, List.length_append]; rfl
  · show u2 _ 590 11 _ 593 11 = nI (s.2.2 + 1)
    rw [u2_ne1 (by decide)]; exact u2_self
/-- the level that is overfull -/
def ovS (s : SA) : Option Int32 := if 2 < lvS s (nI 0) then some (nI 0) else if 3 < lvS s (nI 1) then some (nI 1) else none
def SvS (s : SA) : Prop := SaV s ∧ s.2.2 + 520 < 2147483648
/-- k rounds of merges from s to s' -/
def Stv (h : Int32) : Nat → SA → SA → Prop
  | 0, s, s' => SvS s ∧ ovS s = none ∧ s' = s
  | k + 1, s, s' => SvS s ∧ ∃ l src, ovS s = some l ∧ srcS s l = some src ∧ Stv h k (mrgS h l src s) s'
theorem ovS_lv {s : SA} {l : Int32} (h : ovS s = some l) : (l = nI 0 ∧ 2 < lvS s (nI 0)) ∨ (l = nI 1 ∧ ¬ 2 < lvS s (nI 0) ∧ 3 < lvS s (nI 1)) := by
  unfold ovS at h
  by_cases h1 : 2 < lvS s (nI 0)
  · rw [if_pos h1] at h; cases h; exact Or.inl ⟨rfl, h1⟩
  · rw [if_neg h1] at h
    by_cases h2 : 3 < lvS s (nI 1)
    · rw [if_pos h2] at h; cases h; exact Or.inr ⟨rfl, h1, h2⟩
    · rw [if_neg h2] at h; cases h
theorem srcS_mem {s : SA} {l src : Int32} (h : srcS s l = some src) : (src, l) ∈ s.2.1 := by
  unfold srcS at h
  cases hf : s.2.1.find? (fun p => decide (p.2 = l)) with
  | none => rw [hf] at h; cases h
  | some p =>
    rw [hf] at h
    cases h
    have h1 := List.mem_of_find?_eq_some hf
    have h2 : p.2 = l := of_decide_eq_true (List.find?_some (p := fun p : Int32 × Int32 => decide (p.2 = l)) hf)
    have : (p.1, l) = p := by rw [← h2]
    rw [this]
    exact h1
theorem srcS_ex {s : SA} {l : Int32} (h : 0 < lvS s l) : ∃ src, srcS s l = some src := by
  obtain ⟨p, hp, hz⟩ := List.countP_pos_iff.mp h
  unfold srcS
  cases hf : s.2.1.find? (fun p => decide (p.2 = l)) with
  | none => exact absurd hz (List.find?_eq_none.mp hf p hp)
  | some q => exact ⟨q.1, rfl⟩
theorem nd_one {src l : Int32} : ∀ {fl : List (Int32 × Int32)}, (fl.map (fun p => p.1)).Nodup → (src, l) ∈ fl → fl.countP (fun p => decide (p.2 = l)) = (fl.filter (fun p => decide (¬ p.1 = src))).countP (fun p => decide (p.2 = l)) + 1
  | p :: fl, hn, hm => by
    obtain ⟨n1, n2⟩ := List.nodup_cons.mp hn
    rcases List.mem_cons.mp hm with rfl | hm
    · rw [List.countP_cons_of_pos (by exact decide_eq_true rfl), List.filter_cons_of_neg (by intro z; exact of_decide_eq_true z rfl)]
      have : fl.filter (fun p => decide (¬ p.1 = src)) = fl := List.filter_eq_self.mpr (fun q hq => decide_eq_true (fun z => n1 (List.mem_map.mpr ⟨q, hq, z⟩)))
      rw [this]
    · have hne : ¬ p.1 = src := fun z => n1 (List.mem_map.mpr ⟨(src, l), hm, z.symm⟩)
      rw [List.filter_cons_of_pos (p := fun p : Int32 × Int32 => decide (¬ p.1 = src)) (decide_eq_true hne), List.countP_cons, List.countP_cons, nd_one n2 hm]
      omega
theorem mrg_lv {h l src : Int32} {s : SA} (hv : SaV s) (hs : (src, l) ∈ s.2.1) (hl : l = nI 0 ∨ l = nI 1) : lvS (mrgS h l src s) l + 1 = lvS s l ∧ (l = nI 1 → lvS (mrgS h l src s) (nI 0) = lvS s (nI 0)) ∧ (l = nI 0 → lvS (mrgS h l src s) (nI 1) ≤ lvS s (nI 1) + (mgS h l src s).2.1) := by
  have hne : ¬ l + nI 1 = l := by rcases hl with rfl | rfl <;> decide
  have hnew : ∀ x : Int32, ¬ l + nI 1 = x → ((List.range (mgS h l src s).2.1).map (fun i => (nI (s.2.2 + 1 + i), l + nI 1))).countP (fun p => decide (p.2 = x)) = 0 := fun x hx => by
    refine List.countP_eq_zero.mpr (fun p hp => ?_)
    obtain ⟨i, -, rfl⟩ := List.mem_map.mp hp
    exact fun z => hx (of_decide_eq_true z)
  have hkeep : ∀ x : Int32, ¬ x = l + nI 1 → (s.2.1.filter (fun p => !selS s.1 l src p)).countP (fun p => decide (p.2 = x)) = (s.2.1.filter (fun p => decide (¬ p.1 = src))).countP (fun p => decide (p.2 = x)) := fun x hx => by
    rw [List.countP_filter, List.countP_filter]
    refine List.countP_congr (fun p _ => ?_)
    rw [Bool.and_eq_true, Bool.and_eq_true, decide_eq_true_iff, decide_eq_true_iff]
    refine and_congr_right (fun hp => ?_)
    unfold selS
    rw [decide_eq_false (p := p.2 = l + nI 1) (by rw [hp]; exact hx), Bool.false_and, Bool.or_false]
    by_cases z : p.1 = src
    · rw [decide_eq_true z]; exact ⟨fun y => (by cases y), fun y => absurd z y⟩
    · rw [decide_eq_false z]; exact ⟨fun _ => z, fun _ => rfl⟩
  have e1 : ∀ x, lvS (mrgS h l src s) x = (s.2.1.filter (fun p => !selS s.1 l src p)).countP (fun p => decide (p.2 = x)) + ((List.range (mgS h l src s).2.1).map (fun i => (nI (s.2.2 + 1 + i), l + nI 1))).countP (fun p => decide (p.2 = x)) := fun x => List.countP_append
  refine ⟨?_, fun h1 => ?_, fun h0 => ?_⟩
  · rw [e1, hnew l hne, hkeep l (fun z => hne z.symm)]
    exact (nd_one hv.2.2.2.1 hs).symm
  · subst h1
    rw [e1, hnew (nI 0) (by decide), hkeep (nI 0) (by decide), List.countP_filter]
    refine List.countP_congr (fun p hp => ?_)
    rw [Bool.and_eq_true, decide_eq_true_iff, decide_eq_true_iff]
    refine ⟨fun z => z.1, fun z => ⟨z, fun y => ?_⟩⟩
    have hpe : p.1 = (src, nI 1).1 := y
    have : p = (src, nI 1) := by
      obtain ⟨i, hi, rfl⟩ := List.getElem_of_mem hp
      obtain ⟨j, hj, hjj⟩ := List.getElem_of_mem hs
      have hnd := hv.2.2.2.1
      have hij : i = j := by
        have hil : i < (s.2.1.map (fun p => p.1)).length := by rw [List.length_map]; exact hi
        have hjl : j < (s.2.1.map (fun p => p.1)).length := by rw [List.length_map]; exact hj
        have hz : (s.2.1.map (fun p => p.1))[i] = (s.2.1.map (fun p => p.1))[j] := by
          rw [List.getElem_map, List.getElem_map, hjj]; exact hpe
        rcases Nat.lt_trichotomy i j with c | c | c
        · exact absurd hz (List.pairwise_iff_getElem.mp hnd i j hil hjl c)
        · exact c
        · exact absurd hz.symm (List.pairwise_iff_getElem.mp hnd j i hjl hil c)
      subst hij
      exact hjj
    rw [this] at z
    exact absurd z (show ¬ nI 1 = nI 0 by decide)
  · subst h0
    rw [e1]
    refine Nat.add_le_add ?_ ?_
    · exact (List.filter_sublist).countP_le
    · have := List.countP_le_length (l := (List.range (mgS h (nI 0) src s).2.1).map (fun i => (nI (s.2.2 + 1 + i), nI 0 + nI 1))) (p := fun p => decide (p.2 = nI 1))
      rw [List.length_map, List.length_range] at this
      exact this
theorem mgF_12 {pl : Nat → Nat → Int32} {sp lv : Nat → Int32} {h : Int32} {two : Bool} {md : Nat} : ∀ (l : List Nat) (pv fm : Option Nat) (ps : Bool) (ins c : Nat), 12 * (mgF pl sp lv h two md l pv ps fm ins c).2.1 ≤ 12 * c + l.length + (if fm = none then 12 else ins)
  | [], _, fm, _, ins, c => by rw [mgF]; simp only; omega
  | e :: r, pv, fm, ps, ins, c => by
    rw [mgF, List.length_cons]
    split
    · have := mgF_12 (pl := pl) (sp := sp) (lv := lv) (h := h) (two := two) (md := md) r (some e) fm ((pv.any (fun a => decide (pl a e = 0)) && ps) || decide (sp e ≤ h)) ins c
      simp only
      omega
    · split
      · rename_i hf
        have := mgF_12 (pl := pl) (sp := sp) (lv := lv) (h := h) (two := two) (md := md) r (some e) (some e) ((pv.any (fun a => decide (pl a e = 0)) && ps) || decide (sp e ≤ h)) 1 (c + 1)
        rw [if_neg (by simp)] at this
        simp only
        cases fm with
        | none => rw [if_pos rfl]; omega
        | some a =>
          have hf : (decide (12 ≤ ins) && decide (¬ pl a e = 0)) = true := hf
          rw [Bool.and_eq_true, decide_eq_true_iff] at hf
          rw [if_neg (by simp)]
          have := hf.1
          omega
      · rename_i hf
        have := mgF_12 (pl := pl) (sp := sp) (lv := lv) (h := h) (two := two) (md := md) r (some e) (some e) ((pv.any (fun a => decide (pl a e = 0)) && ps) || decide (sp e ≤ h)) (ins + 1) c
        rw [if_neg (by simp)] at this
        simp only
        cases fm with
        | none => exact absurd rfl hf
        | some a => rw [if_neg (by simp)]; omega
theorem mgS_c {h l src : Int32} {s : SA} (hl : s.1.length ≤ 500) : (mgS h l src s).2.1 ≤ 42 := by
  have := mgF_12 (pl := fun i j => if plc (xsL s.1 i) = plc (xsL s.1 j) then 0 else 1) (sp := fun j => eT (xsL s.1 j)) (lv := fun j => eL (xsL s.1 j)) (h := h) (two := decide (l + nI 1 = 2)) (md := s.2.2) ((List.range s.1.length).filter (fun j => takS s l src (xsL s.1 j))) none none false 0 0
  rw [if_pos rfl] at this
  have h2 := List.length_filter_le (fun j => takS s l src (xsL s.1 j)) (List.range s.1.length)
  rw [List.length_range] at h2
  unfold mgS
  omega
