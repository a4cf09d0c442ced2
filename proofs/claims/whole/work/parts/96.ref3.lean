theorem filt_sum (q : Nat → Bool) : ∀ l : List Nat, (l.filter q).length + (l.filter (fun x => !q x)).length = l.length
  | [] => rfl
  | x :: l => by
    have := filt_sum q l
    cases h : q x with
    | true => rw [List.filter_cons_of_pos h, List.filter_cons_of_neg (by rw [h]; decide), List.length_cons, List.length_cons]; omega
    | false => rw [List.filter_cons_of_neg (by rw [h]; decide), List.filter_cons_of_pos (by rw [h]; rfl), List.length_cons, List.length_cons]; omega
theorem mgF_keysL {pl : Nat → Nat → Int32} {sp lv : Nat → Int32} {h : Int32} {two : Bool} {md : Nat} : ∀ {l : List Nat} {pv fm : Option Nat} {ps : Bool} {ins c : Nat}, (mgF pl sp lv h two md l pv ps fm ins c).1.map (fun p => p.1) = l
  | [], _, _, _, _, _ => by rw [mgF]; rfl
  | e :: r, pv, fm, ps, ins, c => by
    rw [mgF]
    split
    · simp only [List.map_cons]; rw [mgF_keysL]
    · split
      · simp only [List.map_cons]; rw [mgF_keysL]
      · simp only [List.map_cons]; rw [mgF_keysL]
theorem mgF_neg {pl : Nat → Nat → Int32} {sp lv : Nat → Int32} {h : Int32} {two : Bool} {md : Nat} : ∀ {l : List Nat} {pv fm : Option Nat} {ps : Bool} {ins c : Nat}, md + c + l.length < 2147483648 → (mgF pl sp lv h two md l pv ps fm ins c).2.2 = ((mgF pl sp lv h two md l pv ps fm ins c).1.filter (fun p => decide (p.2 < 0))).length
  | [], _, _, _, _, _, _ => by rw [mgF]; rfl
  | e :: r, pv, fm, ps, ins, c, hb => by
    rw [List.length_cons] at hb
    rw [mgF]
    split
    · simp only
      rw [List.filter_cons_of_pos (p := fun p : Nat × Int32 => decide (p.2 < 0)) (a := (e, -1)) (show decide ((-1 : Int32) < 0) = true by decide), List.length_cons, mgF_neg (by omega)]
    · split
      · simp only
        rw [List.filter_cons_of_neg (by rw [decide_eq_false (nI_nneg (by omega))]; decide), mgF_neg (by omega)]
      · simp only
        rw [List.filter_cons_of_neg (by rw [decide_eq_false (nI_nneg (by omega))]; decide), mgF_neg (by omega)]
theorem upF_mem : ∀ {ap : List (Nat × Int32)} {num0 : Nat → Int32} {p : Nat × Int32}, (ap.map (fun p => p.1)).Nodup → p ∈ ap → upF num0 ap p.1 = p.2
  | q :: ap, num0, p, hn, hp => by
    obtain ⟨n1, n2⟩ := List.nodup_cons.mp hn
    rcases List.mem_cons.mp hp with rfl | hp
    · show upF (va_up num0 p.1 p.2) ap p.1 = p.2
      rw [upF_out (fun r hr z => n1 (List.mem_map.mpr ⟨r, hr, z⟩)), va_up_self]
    · show upF (va_up num0 q.1 q.2) ap p.1 = p.2
      exact upF_mem n2 hp
theorem mrg_o {h l src : Int32} {s : SA} (hmd : s.2.2 + 520 < 2147483648) (hl : s.1.length ≤ 500) (h0 : ∀ x ∈ s.1, ¬ eF x < 0) : (mgS h l src s).2.2 = s.1.length - (mrgS h l src s).1.length := by
  have hk := mgF_keysL (pl := fun i j => if plc (xsL s.1 i) = plc (xsL s.1 j) then 0 else 1) (sp := fun j => eT (xsL s.1 j)) (lv := fun j => eL (xsL s.1 j)) (h := h) (two := decide (l + nI 1 = 2)) (md := s.2.2) (l := (List.range s.1.length).filter (fun j => takS s l src (xsL s.1 j))) (pv := none) (fm := none) (ps := false) (ins := 0) (c := 0)
  have hn : ((mgS h l src s).1.map (fun p => p.1)).Nodup := by
    unfold mgS
    rw [hk]
    exact List.Pairwise.filter _ List.nodup_range
  have hlr : ((List.range s.1.length).filter (fun j => takS s l src (xsL s.1 j))).length ≤ s.1.length := by
    have := List.length_filter_le (fun j => takS s l src (xsL s.1 j)) (List.range s.1.length)
    rw [List.length_range] at this
    exact this
  have ho : (mgS h l src s).2.2 = ((mgS h l src s).1.filter (fun p => decide (p.2 < 0))).length := mgF_neg (by omega)
  have hX : ((List.range s.1.length).filter (fun j => decide (nuS h l src s j < 0))).length = ((mgS h l src s).1.filter (fun p => decide (p.2 < 0))).length := by
    have hY : (((mgS h l src s).1.filter (fun p => decide (p.2 < 0))).map (fun p => p.1)).Nodup := by
      refine List.Pairwise.sublist ?_ hn
      exact List.Sublist.map _ List.filter_sublist
    have a1 : ((List.range s.1.length).filter (fun j => decide (nuS h l src s j < 0))).length ≤ (((mgS h l src s).1.filter (fun p => decide (p.2 < 0))).map (fun p => p.1)).length := by
      refine nodup_len (List.Pairwise.filter _ List.nodup_range) (fun j hj => ?_)
      obtain ⟨j1, j2⟩ := List.mem_filter.mp hj
      have j2 := of_decide_eq_true j2
      have j1 := List.mem_range.mp j1
      by_cases hjk : j ∈ (mgS h l src s).1.map (fun p => p.1)
      · obtain ⟨p, hp, rfl⟩ := List.mem_map.mp hjk
        refine List.mem_map.mpr ⟨p, List.mem_filter.mpr ⟨hp, ?_⟩, rfl⟩
        unfold nuS at j2
        rw [upF_mem hn hp] at j2
        exact decide_eq_true j2
      · exfalso
        unfold nuS at j2
        rw [upF_out (fun p hp z => hjk (List.mem_map.mpr ⟨p, hp, z⟩))] at j2
        refine h0 (xsL s.1 j) ?_ j2
        unfold xsL
        rw [List.getElem?_eq_getElem j1]
        exact List.getElem_mem j1
    have a2 : (((mgS h l src s).1.filter (fun p => decide (p.2 < 0))).map (fun p => p.1)).length ≤ ((List.range s.1.length).filter (fun j => decide (nuS h l src s j < 0))).length := by
      refine nodup_len hY (fun j hj => ?_)
      obtain ⟨p, hp, rfl⟩ := List.mem_map.mp hj
      obtain ⟨p1, p2⟩ := List.mem_filter.mp hp
      have hpk : p.1 ∈ (mgS h l src s).1.map (fun p => p.1) := List.mem_map_of_mem p1
      have : p.1 ∈ (List.range s.1.length).filter (fun j => takS s l src (xsL s.1 j)) := by
        rw [← hk]
        exact hpk
      refine List.mem_filter.mpr ⟨(List.mem_filter.mp this).1, ?_⟩
      unfold nuS
      rw [upF_mem hn p1]
      exact p2
    rw [List.length_map] at a1 a2
    omega
  have hsum : ((List.range s.1.length).filter (fun j => decide (nuS h l src s j < 0))).length + (keS h l src s).length = s.1.length := by
    unfold keS
    have := filt_sum (fun j => decide (nuS h l src s j < 0)) (List.range s.1.length)
    rw [List.length_range] at this
    have e2 : (List.range s.1.length).filter (fun j => decide (¬ nuS h l src s j < 0)) = (List.range s.1.length).filter (fun j => !decide (nuS h l src s j < 0)) := List.filter_congr (fun j _ => decide_not)
    rw [e2]
    exact this
  show _ = s.1.length - ((keS h l src s).map _).length
  rw [List.length_map, ho, ← hX]
  omega
theorem SaV.pos {s : SA} (hv : SaV s) (hmd : s.2.2 < 2147483648) {x : EE} (hx : x ∈ s.1) : ¬ eF x < 0 := by
  rcases (hv.2.1 x hx).2.2.2 with z | ⟨p, hp, z⟩
  · rw [z]; decide
  · obtain ⟨k, k1, k2, k3⟩ := (hv.2.2.1 p hp).2
    rw [← z, k3]
    exact nI_nneg (by omega)
section R96
variable {K : Nat → Nat} {I A : Nat → Nat → Int32} {J : Nat → Nat → Int64} {R B : Nat → Nat → Option Nat} {Ln : Nat → Nat} {n sl many : Nat} {s : SA}
theorem RfR.comp (h : RfR I A many s) (hv : SaV s) (hmd : s.2.2 + 520 < 2147483648) {l src : Int32} (hs : (src, l) ∈ s.2.1) {tn : Nat} {r : Option LV} {G' : GH} (hQ : CompQ K I J R A B Ln n sl tn many s.2.2 l src s.2.1 r G') : ∃ I' A', r = some (iV (nI (s.1.length - (mrgS (hzI (A 25) (A 26) (I 594 11) tn) l src s).1.length))) ∧ G' = (K, I', J, R, A', B, Ln, n, sl) ∧ RfR I' A' (mrgS (hzI (A 25) (A 26) (I 594 11) tn) l src s).1.length (mrgS (hzI (A 25) (A 26) (I 594 11) tn) l src s) ∧ (∀ i, i ∉ [16, 17, 18, 19, 20, 21, 22, 23, 24, 32, 33] → A' i = A i) ∧ ∀ f i, ¬ (i = 11 ∧ (f = 582 ∨ f = 590 ∨ f = 593 ∨ f = 612)) → I' f i = I f i := by
  generalize hhz : hzI (A 25) (A 26) (I 594 11) tn = hz
  obtain ⟨I1, A1, c1, c2, c3, c4, I2, A2, A3, asg, c, o, hm, hg, hc, rfl, rfl⟩ := hQ
  have a16 : ∀ i, i ∉ [23, 24, 32, 33] → A1 i = A i := c1
  rw [a16 16 (by decide), a16 17 (by decide), a16 18 (by decide), a16 19 (by decide), a16 20 (by decide), a16 25 (by decide), a16 26 (by decide), c3 594 11 (by omega), hhz] at hm
  obtain ⟨g1, g2, g3, g4, g5, g6, g7⟩ := hg
  obtain ⟨il, h1, h2⟩ := h.il
  have hlen : il.length = s.1.length := by rw [← h2, List.length_map]
  have hmany := h.len
  have hl5 := hv.2.2.2.2.1
  let φ : Nat → Nat := fun j => (il[j]?).getD 0
  have hφ : ∀ j, j < s.1.length → φ j < many ∧ xsL s.1 j = nrmE (entA A (φ j)) := fun j hj => by
    have hj' : j < il.length := by omega
    have e1 : φ j = il[j] := by show (il[j]?).getD 0 = _; rw [List.getElem?_eq_getElem hj']; rfl
    refine ⟨by rw [e1]; exact List.mem_range.mp (h1.mem_iff.mp (List.getElem_mem hj')), ?_⟩
    unfold xsL
    rw [← h2, List.getElem?_map, List.getElem?_eq_getElem hj', e1]
    rfl
  have hilnd : il.Nodup := h1.nodup_iff.mpr List.nodup_range
  have hinj : ∀ i j, i < s.1.length → j < s.1.length → φ i = φ j → i = j := fun i j hi hj z => by
    have z : (il[i]?).getD 0 = (il[j]?).getD 0 := z
    rw [List.getElem?_eq_getElem (by omega), List.getElem?_eq_getElem (by omega)] at z
    exact nd_inj hilnd (by omega) (by omega) z
  have hlr : (srtR (bfB (A 16) (A 17) (A 18) (A 19)) (tkF A many l src s.2.1) many).reverse = ((List.range s.1.length).filter (fun j => takS s l src (xsL s.1 j))).map φ := by
    rw [h.srt hv h1 h2, filt_range (d := 0), hlen]
    congr 1
    refine List.filter_congr (fun j hj => ?_)
    obtain ⟨f1, f2⟩ := hφ j (List.mem_range.mp hj)
    rw [f2]
    exact h.tk hv hs f1
  have hmg : mgF (plI (A 16) (A 17) (A 18)) (A 19) (A 20) hz (decide (l + 1 = 2)) s.2.2 (((List.range s.1.length).filter (fun j => takS s l src (xsL s.1 j))).map φ) none false none 0 0 = ((mgS hz l src s).1.map (fun p => (φ p.1, p.2)), (mgS hz l src s).2) := by
    refine mgF_map (S := fun j => j < s.1.length) (pv := none) (fm := none) (fun i j hi hj => ?_) (fun i hi => ?_) (fun i hi => ?_) (fun i hi => ?_) (fun i hi => by cases hi) (fun i hi => by cases hi)
    · show _ ↔ (if plc (xsL s.1 i) = plc (xsL s.1 j) then (0 : Int32) else 1) = 0
      obtain ⟨f1, f2⟩ := hφ i hi
      obtain ⟨g1, g2⟩ := hφ j hj
      rw [(pl_bf (h.rg hv f1) (h.rg hv g1)).2, f2, g2, plc_nrm, plc_nrm]
      by_cases z : plc (entA A (φ i)) = plc (entA A (φ j))
      · rw [if_pos z]; exact ⟨fun _ => rfl, fun _ => z⟩
      · rw [if_neg z]; exact ⟨fun y => absurd y z, fun y => absurd y (by decide)⟩
    · show A 19 (φ i) = eT (xsL s.1 i)
      rw [(hφ i hi).2, (nrm_S _).2.2.2.1]; rfl
    · show A 20 (φ i) = 0 ↔ eL (xsL s.1 i) = 0
      rw [(hφ i hi).2, (nrm_S _).2.2.2.2.1]; exact Iff.rfl
    · exact List.mem_range.mp (List.mem_filter.mp hi).1
  rw [hlr, hmg] at hm
  have ea : asg = (mgS hz l src s).1.map (fun p => (φ p.1, p.2)) := (congrArg Prod.fst hm).symm
  have ec : c = (mgS hz l src s).2.1 := (congrArg (fun z => z.2.1) hm).symm
  have eo : o = (mgS hz l src s).2.2 := (congrArg (fun z => z.2.2) hm).symm
  have hkeys : ∀ p ∈ (mgS hz l src s).1, p.1 < s.1.length := fun p hp => by
    have := mgF_keys p hp
    exact List.mem_range.mp (List.mem_filter.mp this).1
  have hnu : ∀ j, j < s.1.length → A2 22 (φ j) = nuS hz l src s j := fun j hj => by
    rw [g2, a16 22 (by decide), ea]
    exact upF_map hinj (fun i hi => by
      show A 22 (φ i) = eF (xsL s.1 i)
      rw [(hφ i hi).2, (nrm_S _).2.2.2.2.2]; rfl) hkeys hj
  have hA2 : ∀ i, i ∉ [22, 23, 24, 32, 33] → A2 i = A i := fun i hi => by
    rw [g1 i (fun z => hi (by simp at z ⊢; omega)), a16 i (fun z => hi (by simp at z ⊢; omega))]
  have hkeep : ((List.range many).filter (fun j => decide (¬ A2 22 j < 0))).Perm ((keS hz l src s).map φ) := by
    refine (h1.symm.filter _).trans ?_
    rw [filt_range (d := 0) _ il, hlen]
    unfold keS
    have : (List.range s.1.length).filter (fun j => decide (¬ A2 22 ((il[j]?).getD 0) < 0)) = (List.range s.1.length).filter (fun j => decide (¬ nuS hz l src s j < 0)) := List.filter_congr (fun j hj => by rw [show (il[j]?).getD 0 = φ j from rfl, hnu j (List.mem_range.mp hj)])
    rw [this]
  have hkl : (keptL A2 many).length = (mrgS hz l src s).1.length := by
    unfold keptL
    rw [List.length_map, hkeep.length_eq]
    show _ = ((keS hz l src s).map _).length
    rw [List.length_map, List.length_map]
  have hA3 : ∀ i, i ∉ [16, 17, 18, 19, 20, 21, 22] → A3 i = A2 i := hc.1
  refine ⟨_, A3, ?_, rfl, ?_, fun i hi => ?_, fun f i hi => ?_⟩
  · rw [eo, mrg_o hmd hl5 (fun x hx => hv.pos (by omega) hx)]
  · rw [hkl]
    refine ⟨u2_self, ?_, ?_, ?_, ?_⟩
    · have e1 : (List.range (mrgS hz l src s).1.length).map (fun e => nrmE (entA A3 e)) = (keptL A2 many).map nrmE := by
        rw [← hkl]
        refine List.ext_getElem? (fun j => ?_)
        rw [List.getElem?_map, List.getElem?_map]
        by_cases hj : j < (keptL A2 many).length
        · rw [List.getElem?_range hj]
          have := hc.2.1 j _ (List.getElem?_eq_getElem hj)
          rw [List.getElem?_eq_getElem hj, ← this]
          rfl
        · rw [List.getElem?_eq_none (l := List.range _) (by rw [List.length_range]; omega), List.getElem?_eq_none (l := keptL A2 many) (by omega)]
          rfl
      rw [e1]
      unfold keptL
      rw [List.map_map]
      refine (hkeep.map _).trans ?_
      rw [List.map_map]
      show List.Perm _ ((keS hz l src s).map (fun j => wF (xsL s.1 j) (nuS hz l src s j)))
      have : (keS hz l src s).map ((nrmE ∘ entA A2) ∘ φ) = (keS hz l src s).map (fun j => wF (xsL s.1 j) (nuS hz l src s j)) := by
        refine List.map_congr_left (fun j hj => ?_)
        have hj' := List.mem_range.mp (List.mem_filter.mp hj).1
        show nrmE (entA A2 (φ j)) = _
        have e2 : entA A2 (φ j) = wF (entA A (φ j)) (A2 22 (φ j)) := by
          unfold entA wF
          rw [hA2 16 (by decide), hA2 17 (by decide), hA2 18 (by decide), hA2 19 (by decide), hA2 20 (by decide), hA2 21 (by decide)]
        rw [e2, nrm_wF, hnu j hj', (hφ j hj').2]
      rw [this]
    · show FlA A3 (s.2.1.filter (fun p => !selS s.1 l src p) ++ (List.range (mgS hz l src s).2.1).map (fun i => (nI (s.2.2 + 1 + i), l + nI 1)))
      have est : s.2.1.filter (stF A many l src) = s.2.1.filter (fun p => !selS s.1 l src p) := List.filter_congr (fun p hp => h.st hv (hv.2.2.1 _ hs).1 hp)
      rw [est] at c2 g3 g4
      intro j p hj
      rw [hA3 23 (by decide), hA3 24 (by decide)]
      by_cases hjl : j < (s.2.1.filter (fun p => !selS s.1 l src p)).length
      · rw [List.getElem?_append_left hjl] at hj
        obtain ⟨z1, z2⟩ := g3 j hjl
        rw [z1, z2]
        exact c2 j p hj
      · rw [List.getElem?_append_right (by omega), List.getElem?_map] at hj
        cases hjr : (List.range (mgS hz l src s).2.1)[j - (s.2.1.filter (fun p => !selS s.1 l src p)).length]? with
        | none => rw [hjr] at hj; cases hj
        | some i =>
          rw [hjr] at hj
          cases hj
          obtain ⟨y1, y2⟩ := List.getElem?_eq_some_iff.mp hjr
          rw [List.getElem_range] at y2
          rw [List.length_range] at y1
          obtain ⟨z1, z2⟩ := g4 i (by omega)
          have ej : j = (s.2.1.filter (fun p => !selS s.1 l src p)).length + i := by omega
          rw [ej, z1, z2]
          exact ⟨by congr 1; omega, rfl⟩
    · show u2 I2 582 11 _ 590 11 = nI (s.2.1.filter (fun p => !selS s.1 l src p) ++ (List.range (mgS hz l src s).2.1).map (fun i => (nI (s.2.2 + 1 + i), l + nI 1))).length
      have est : s.2.1.filter (stF A many l src) = s.2.1.filter (fun p => !selS s.1 l src p) := List.filter_congr (fun p hp => h.st hv (hv.2.2.1 _ hs).1 hp)
      rw [u2_ne1 (by decide), g6, est, List.length_append, List.length_map, List.length_range, ec]
    · show u2 I2 582 11 _ 593 11 = nI (s.2.2 + (mgS hz l src s).2.1)
      rw [u2_ne1 (by decide), g5, ec]
  · rw [hA3 i (fun z => hi (by simp at z ⊢; omega)), hA2 i (fun z => hi (by simp at z ⊢; omega))]
  · unfold u2
    rw [if_neg (fun z => hi ⟨z.2, Or.inl z.1⟩), g7 f i (fun z => hi ⟨z.1, by omega⟩), c3 f i (fun z => hi ⟨z.2, by omega⟩)]
end R96
