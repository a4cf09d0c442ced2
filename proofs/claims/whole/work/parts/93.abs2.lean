theorem nd_inj {l : List Nat} (h : l.Nodup) {i j : Nat} (hi : i < l.length) (hj : j < l.length) (z : l[i] = l[j]) : i = j := by
  rcases Nat.lt_trichotomy i j with c | c | c
  · exact absurd z (List.pairwise_iff_getElem.mp h i j hi hj c)
  · exact c
  · exact absurd z.symm (List.pairwise_iff_getElem.mp h j i hj hi c)
theorem fON_0 {I : Nat → Nat → Int32} {lv : Int32} : ∀ {fs : List Nat}, fON I lv (nI 0) fs 0 = fs.find? (fun f => decide (I 321 f = lv))
  | [] => rfl
  | f :: l => by
    unfold fON
    by_cases h : I 321 f = lv
    · rw [if_pos h, if_pos rfl, List.find?_cons_of_pos (p := fun f => decide (I 321 f = lv)) (decide_eq_true h)]
    · rw [if_neg h, fON_0, List.find?_cons_of_neg (p := fun f => decide (I 321 f = lv)) (by show ¬ decide (I 321 f = lv) = true; rw [decide_eq_false h]; decide)]
section CSM
variable {K K' : Nat → Nat} {I I' : Nat → Nat → Int32} {J : Nat → Nat → Int64} {R R' B B' : Nat → Nat → Option Nat} {Ln Ln' : Nat → Nat} {n n' a a' m m' : Nat} {cs fs : List Nat} {s : SA}
theorem CsR.src (h : CsR K I J R B Ln n a m cs fs s) {lv : Int32} : srcS s lv = (fON I lv (nI 0) fs 0).map (I 320) := by
  unfold srcS
  rw [h.2.2, fON_0, List.find?_map, Option.map_map]
  rfl
theorem CsR.kinds (h : BsR K I J R B Ln n a m cs fs s.2.2) : (∀ e ∈ cs, K e = 0 ∧ e < n ∧ 34 ≤ e) ∧ ∀ g ∈ fs, K g = 5 ∧ g < n ∧ 34 ≤ g := by
  obtain ⟨⟨⟨-, -, e3⟩, sA, -, s4, s5, -⟩, -⟩ := h
  refine ⟨fun x hx => ?_, fun g hg => ?_⟩
  · obtain ⟨j, hj, rfl⟩ := List.getElem_of_mem hx
    exact ⟨(e3 j _ (List.getElem?_eq_getElem hj)).2, (s4 _ hx).2, (s4 _ hx).1⟩
  · obtain ⟨j, hj, rfl⟩ := List.getElem_of_mem hg
    exact ⟨(sA.arr hj).2.2.2, (s5 _ hg).2, (s5 _ hg).1⟩
theorem StF.ent (hC : CFix K R Ln) (h : BsR K I J R B Ln n a m cs fs s.2.2) (hF : StF K I R B Ln n K' I' R' B' Ln' n') {e : Nat} (he : e ∈ cs) : entC I' R' e = wF (entC I R e) (nuF I' R' e) ∧ I' 0 e = I 0 e ∧ I' 1 e = I 1 e ∧ I' 2 e = I 2 e ∧ I' 4 e = I 4 e ∧ R' 5 e = R 5 e := by
  obtain ⟨k1, k2, k3⟩ := (CsR.kinds h).1 e he
  obtain ⟨f1, f2, f3, f4, f5, f6⟩ := hF
  have hI : ∀ f, I' f e = I f e := fun f => f4 f e k2 (by rw [k1]; omega)
  have hR : R' 5 e = R 5 e := f5 5 e k2 (by rw [k1]; omega)
  have hrw : rwO I' (R 5 e) = rwO I (R 5 e) := by
    cases hr : R 5 e with
    | none => rfl
    | some r =>
      obtain ⟨r1, r2⟩ := h.2.2.2 e he r hr
      funext f
      show I' (192 + f) r = I (192 + f) r
      refine f4 (192 + f) r r2 (fun z => ?_)
      rcases z with z | z | z | z
      · omega
      · omega
      · rw [z.1, hC.K_st] at r1; omega
      · rw [z.1, hC.K_al] at r1; omega
  refine ⟨?_, hI 0, hI 1, hI 2, hI 4, hR⟩
  unfold entC wF lvR
  rw [hI 0, hI 1, hI 2, hI 4, hR, hrw]
theorem CsR.bs (hC : CFix K R Ln) (h : BsR K I J R B Ln n a m cs fs s.2.2) (hF : StF K I R B Ln n K' I' R' B' Ln' n') {kp fs' : List Nat} {md' : Nat} (hS : StR K' I' R' B' Ln' n' a' m' kp fs' md') (hk : ∀ e ∈ kp, e ∈ cs) (hs : kp.Sublist cs) : BsR K' I' J R' B' Ln' n' a' m' kp fs' md' := by
  refine ⟨hS, fun e he => ?_, ?_, fun e he r hr => ?_⟩
  · obtain ⟨-, z0, z1, z2, z4, z5⟩ := StF.ent hC h hF (hk e he)
    rw [z0, z1, z2]; exact h.2.1 e (hk e he)
  · refine List.Pairwise.imp_of_mem (fun {x y} hx hy z => ?_) (h.2.2.1.sublist hs)
    rw [(StF.ent hC h hF (hk x hx)).2.2.2.2.1, (StF.ent hC h hF (hk y hy)).2.2.2.2.1]
    exact z
  · rw [(StF.ent hC h hF (hk e he)).2.2.2.2.2] at hr
    obtain ⟨r1, r2⟩ := h.2.2.2 e (hk e he) r hr
    have := hF.1
    exact ⟨by rw [(hF.2.1 r r2).1]; exact r1, by omega⟩
theorem CsR.merge (hC : CFix K R Ln) (q : CsR K I J R B Ln n a m cs fs s) (hmd : s.2.2 < 2147483648) {o : Nat} (ho : o ∈ fs) {h lv : Int32} (hlv : I 321 o = lv) {kp nf : List Nat} (p1 : nf.length = (mgF (plJ J) (I 4) (lvR R) h (decide (lv + nI 1 = 2)) s.2.2 (cs.filter (retB I J R cs o)) none false none 0 0).2.1) (p2 : kp = cs.filter (fun e => decide (¬ upF (nuF I R) (mgF (plJ J) (I 4) (lvR R) h (decide (lv + nI 1 = 2)) s.2.2 (cs.filter (retB I J R cs o)) none false none 0 0).1 e < 0))) (p3 : ∀ e ∈ kp, nuF I' R' e = upF (nuF I R) (mgF (plJ J) (I 4) (lvR R) h (decide (lv + nI 1 = 2)) s.2.2 (cs.filter (retB I J R cs o)) none false none 0 0).1 e) (p4 : StR K' I' R' B' Ln' n' a' m' kp (fs.filter (fun g => !selC I J R cs o g) ++ nf) (s.2.2 + nf.length)) (p5 : ∀ j f, nf[j]? = some f → I' 320 f = nI (s.2.2 + 1 + j) ∧ I' 321 f = lv + nI 1) (p6 : StF K I R B Ln n K' I' R' B' Ln' n') : CsR K' I' J R' B' Ln' n' a' m' kp (fs.filter (fun g => !selC I J R cs o g) ++ nf) (mrgS h lv (I 320 o) s) ∧ cs.length - kp.length = s.1.length - (mrgS h lv (I 320 o) s).1.length := by
  have hb := q.1
  let φ : Nat → Nat := fun j => (cs[j]?).getD 0
  have hφ : ∀ j, j < cs.length → φ j ∈ cs ∧ xsL s.1 j = entC I R (φ j) := fun j hj => by
    refine ⟨?_, by rw [q.2.1]; exact xs_map hj⟩
    show (cs[j]?).getD 0 ∈ cs
    rw [List.getElem?_eq_getElem hj]
    exact List.getElem_mem hj
  have hlen : s.1.length = cs.length := by rw [q.2.1, List.length_map]
  have hinj : ∀ i j, i < cs.length → j < cs.length → φ i = φ j → i = j := fun i j hi hj z => by
    have z : (cs[i]?).getD 0 = (cs[j]?).getD 0 := z
    rw [List.getElem?_eq_getElem hi, List.getElem?_eq_getElem hj] at z
    exact nd_inj hb.1.2.2.1.1 hi hj z
  have hcf : cs.filter (retB I J R cs o) = ((List.range s.1.length).filter (fun j => takS s lv (I 320 o) (xsL s.1 j))).map φ := by
    rw [filt_range (d := 0) (retB I J R cs o) cs, hlen]
    congr 1
    refine List.filter_congr (fun j hj => ?_)
    have hj := List.mem_range.mp hj
    rw [(hφ j hj).2, ← hlv]
    exact (q.tak hmd ho (hφ j hj).1).symm
  have hmg : (mgF (plJ J) (I 4) (lvR R) h (decide (lv + nI 1 = 2)) s.2.2 (cs.filter (retB I J R cs o)) none false none 0 0) = ((mgS h lv (I 320 o) s).1.map (fun p => (φ p.1, p.2)), (mgS h lv (I 320 o) s).2) := by
    rw [hcf]
    refine mgF_map (S := fun j => j < cs.length) (pv := none) (fm := none) (fun i j hi hj => ?_) (fun i hi => ?_) (fun i hi => ?_) (fun i hi => ?_) (fun i hi => by cases hi) (fun i hi => by cases hi)
    · show (if J 3 (φ i) = J 3 (φ j) then (0 : Int32) else 1) = 0 ↔ (if plc (xsL s.1 i) = plc (xsL s.1 j) then (0 : Int32) else 1) = 0
      rw [(hφ i hi).2, (hφ j hj).2, plc_ent hb (hφ i hi).1, plc_ent hb (hφ j hj).1]
    · rw [(hφ i hi).2]; rfl
    · rw [(hφ i hi).2]; rfl
    · have := List.mem_range.mp (List.mem_filter.mp hi).1
      omega
  have hkeys : ∀ p ∈ (mgS h lv (I 320 o) s).1, p.1 < cs.length := fun p hp => by
    have := mgF_keys p hp
    have := List.mem_range.mp (List.mem_filter.mp this).1
    omega
  have hup : ∀ j, j < cs.length → upF (nuF I R) (mgF (plJ J) (I 4) (lvR R) h (decide (lv + nI 1 = 2)) s.2.2 (cs.filter (retB I J R cs o)) none false none 0 0).1 (φ j) = nuS h lv (I 320 o) s j := fun j hj => by
    rw [hmg]
    exact upF_map hinj (fun i hi => by rw [(hφ i hi).2]; rfl) hkeys hj
  have hkp : kp = (keS h lv (I 320 o) s).map φ := by
    rw [p2, filt_range (d := 0) _ cs]
    unfold keS
    rw [hlen]
    congr 1
    refine List.filter_congr (fun j hj => ?_)
    have := hup j (List.mem_range.mp hj)
    rw [show (cs[j]?).getD 0 = φ j from rfl, this]
  have hsub : kp.Sublist cs := by rw [p2]; exact List.filter_sublist
  have hkc : ∀ e ∈ kp, e ∈ cs := fun e he => hsub.subset he
  have hc : nf.length = (mgS h lv (I 320 o) s).2.1 := by rw [p1, hmg]
  refine ⟨⟨?_, ?_, ?_⟩, ?_⟩
  · have := CsR.bs hC hb p6 p4 hkc hsub
    rw [hc] at this
    exact this
  · show (keS h lv (I 320 o) s).map (fun j => wF (xsL s.1 j) (nuS h lv (I 320 o) s j)) = kp.map (entC I' R')
    rw [hkp, List.map_map]
    refine List.map_congr_left (fun j hj => ?_)
    have hj' : j < cs.length := by
      have := List.mem_range.mp (List.mem_filter.mp hj).1
      omega
    have hjk : φ j ∈ kp := by rw [hkp]; exact List.mem_map_of_mem hj
    show _ = entC I' R' (φ j)
    rw [(StF.ent hC hb p6 (hφ j hj').1).1, p3 _ hjk, hup j hj', (hφ j hj').2]
  · show s.2.1.filter (fun p => !selS s.1 lv (I 320 o) p) ++ (List.range (mgS h lv (I 320 o) s).2.1).map (fun i => (nI (s.2.2 + 1 + i), lv + nI 1)) = _
    rw [List.map_append]
    congr 1
    · rw [q.2.2, List.filter_map]
      have e1 : fs.filter ((fun p => !selS s.1 lv (I 320 o) p) ∘ fun f => (I 320 f, I 321 f)) = fs.filter (fun g => !selC I J R cs o g) := List.filter_congr (fun g hg => by
        show (!selS s.1 lv (I 320 o) (I 320 g, I 321 g)) = _
        rw [← hlv, q.sel hmd ho hg])
      rw [e1]
      refine List.map_congr_left (fun g hg => ?_)
      obtain ⟨g1, g2, g3⟩ := (CsR.kinds hb).2 g (List.mem_filter.mp hg).1
      rw [p6.2.2.2.1 320 g g2 (by rw [g1]; omega), p6.2.2.2.1 321 g g2 (by rw [g1]; omega)]
    · rw [← hc]
      refine List.ext_getElem? (fun i => ?_)
      rw [List.getElem?_map, List.getElem?_map]
      by_cases hi : i < nf.length
      · rw [List.getElem?_range hi, List.getElem?_eq_getElem hi]
        obtain ⟨z1, z2⟩ := p5 i _ (List.getElem?_eq_getElem hi)
        show some (nI (s.2.2 + 1 + i), lv + nI 1) = some (I' 320 nf[i], I' 321 nf[i])
        rw [z1, z2]
      · rw [List.getElem?_eq_none (l := List.range nf.length) (by rw [List.length_range]; omega), List.getElem?_eq_none (l := nf) (by omega)]
        rfl
  · show cs.length - kp.length = s.1.length - ((keS h lv (I 320 o) s).map _).length
    rw [hkp, List.length_map, List.length_map, hlen]
theorem CsR.mem0 (q : CsR K I J R B Ln n a m cs fs s) (hmd : s.2.2 < 2147483648) {e : Nat} (he : e ∈ cs) : nuF I R e = 0 ↔ memB R e = true := by
  unfold nuF memB
  rw [decide_eq_true_iff]
  cases hr : R 6 e with
  | none => exact ⟨fun _ => rfl, fun _ => rfl⟩
  | some g =>
    obtain ⟨-, -, k, k1, k2, k3⟩ := q.1.1.2.2.2.2.2.2.2.2.1 g (q.1.1.2.2.2.2.2.2.2.1 e he g hr)
    refine ⟨fun z => ?_, fun z => (by cases z)⟩
    have : nI k = nI 0 := k3.symm.trans z
    have := (neq (by omega) (by omega)).mp this
    omega
theorem CsR.cnt0 (q : CsR K I J R B Ln n a m cs fs s) (hmd : s.2.2 < 2147483648) : cs.countP (memB R) = s.1.countP (fun x => decide (eF x = 0)) := by
  rw [q.2.1, List.countP_map]
  refine List.countP_congr (fun e he => ?_)
  show memB R e = true ↔ decide (nuF I R e = 0) = true
  rw [decide_eq_true_iff]
  exact (q.mem0 hmd he).symm
theorem CsR.flush (hC : CFix K R Ln) (q : CsR K I J R B Ln n a m cs fs s) (hmd : s.2.2 + 520 < 2147483648) (p0 : 0 < cs.countP (memB R)) (p1 : StR K' I' R' B' Ln' n' a' m' cs (fs ++ [n]) (s.2.2 + 1)) (p2 : ∀ e ∈ cs, nuF I' R' e = if memB R e = true then nI (s.2.2 + 1) else nuF I R e) (p3 : I' 320 n = nI (s.2.2 + 1)) (p4 : I' 321 n = nI 0) (p5 : StF K I R B Ln n K' I' R' B' Ln' n') : CsR K' I' J R' B' Ln' n' a' m' cs (fs ++ [n]) (fluS s) := by
  have hany : s.1.any (fun x => decide (eF x = 0)) = true := by
    rw [q.cnt0 (by omega)] at p0
    obtain ⟨x, hx, hz⟩ := List.countP_pos_iff.mp p0
    exact List.any_eq_true.mpr ⟨x, hx, hz⟩
  unfold fluS
  rw [if_pos hany]
  refine ⟨CsR.bs hC q.1 p5 p1 (fun _ h => h) (List.Sublist.refl _), ?_, ?_⟩
  · show s.1.map (fun x => if eF x = 0 then wF x (nI (s.2.2 + 1)) else x) = cs.map (entC I' R')
    rw [q.2.1, List.map_map]
    refine List.map_congr_left (fun e he => ?_)
    rw [(StF.ent hC q.1 p5 he).1, p2 e he]
    show (if nuF I R e = 0 then _ else _) = _
    by_cases hz : nuF I R e = 0
    · rw [if_pos hz, if_pos ((q.mem0 (by omega) he).mp hz)]
    · rw [if_neg hz, if_neg (fun y => hz ((q.mem0 (by omega) he).mpr y))]
      rfl
  · show s.2.1 ++ [(nI (s.2.2 + 1), nI 0)] = _
    rw [List.map_append, q.2.2]
    congr 1
    · refine List.map_congr_left (fun g hg => ?_)
      obtain ⟨g1, g2, g3⟩ := (CsR.kinds q.1).2 g hg
      rw [p5.2.2.2.1 320 g g2 (by rw [g1]; omega), p5.2.2.2.1 321 g g2 (by rw [g1]; omega)]
    · rw [List.map_singleton, p3, p4]
end CSM
