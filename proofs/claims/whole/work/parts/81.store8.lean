section C81
variable {X : CX} {d : Nat} {K : Nat → Nat} {I : Nat → Nat → Int32} {J : Nat → Nat → Int64} {R : Nat → Nat → Option Nat} {A : Nat → Nat → Int32} {B : Nat → Nat → Option Nat} {Ln : Nat → Nat} {n sl : Nat}
set_option maxRecDepth 100000 in
set_option maxHeartbeats 4000000 in
theorem cs_mergeDown_no (hC : CFix K R Ln) {a m : Nat} {cs fs : List Nat} {md : Nat} (hS : StR K I R B Ln n a m cs fs md) {h lv : Int32} (ho : fON I lv (nI 0) fs 0 = none) : EvM X mX6_mergeDown (d + 4) [rV (some 7), iV lv, iV h] (K, I, J, R, A, B, Ln, n, sl) (fun r G' => r = some (iV (-1)) ∧ G' = (K, I, J, R, A, B, Ln, n, sl)) := by
  have sf := cs_fileOn (X := X) (d := d) (J := J) (A := A) (sl := sl) (lv := lv) (k := nI 0) hC hS.2.1
  rw [ho] at sf
  show Ev X mX6_mergeDown (d + 4) 0 [some (rV (some 7)), some (iV lv), some (iV h), none] [] (K, I, J, R, A, B, Ln, n, sl) _
  refine ev_aload_n dX6_mergeDown_0 rfl ?_
  refine ev_iload_n dX6_mergeDown_1 rfl ?_
  refine ev_iconstN 0 dX6_mergeDown_2 (by decide) ?_
  refine ev_callV dX6_mergeDown_3 okX6_fileOn inX6_fileOn seX6_fileOn mlX6_106 hC.K_st (by decide) rfl [iV _, iV _] rfl rfl (Nat.le_of_ble_eq_true rfl) (Nat.le_of_ble_eq_true rfl) (sf) (fun r_ G_ h_ => ?_)
  obtain ⟨rfl, rfl⟩ := h_
  try dsimp only [Option.toList, List.cons_append, List.nil_append]
  refine ev_astore_nS dX6_mergeDown_6 (by decide) rfl ?_
  refine ev_aload_n dX6_mergeDown_7 rfl ?_
  refine ev_ifnonnull 13 dX6_mergeDown_8 (by decide) (fun x c8 => by cases c8) (fun c8 => ?_)
  refine ev_iconst (-1) dX6_mergeDown_11 (by decide) ?_
  refine ev_ireturn dX6_mergeDown_12 rfl ?_
  exact ⟨rfl, rfl⟩
theorem cs_mergeDown (hC : CFix K R Ln) {a m : Nat} {cs fs : List Nat} {md : Nat} (hS : StR K I R B Ln n a m cs fs md) (hn : 34 ≤ n) (hF : FrH I J R A B n) (hmd : md + 520 < 2147483648) {o : Nat} {h lv : Int32} (ho : fON I lv (nI 0) fs 0 = some o) : EvM X mX6_mergeDown (d + 10) [rV (some 7), iV lv, iV h] (K, I, J, R, A, B, Ln, n, sl) (fun r G' => ∃ K' I' R' B' Ln' n' sl' a' m' kp nf, nf.length = (mgF (plJ J) (I 4) (lvR R) h (decide (lv + nI 1 = 2)) md (cs.filter (retB I J R cs o)) none false none 0 0).2.1 ∧ kp = cs.filter (fun e => decide (¬ upF (nuF I R) (mgF (plJ J) (I 4) (lvR R) h (decide (lv + nI 1 = 2)) md (cs.filter (retB I J R cs o)) none false none 0 0).1 e < 0)) ∧ (∀ e ∈ kp, nuF I' R' e = upF (nuF I R) (mgF (plJ J) (I 4) (lvR R) h (decide (lv + nI 1 = 2)) md (cs.filter (retB I J R cs o)) none false none 0 0).1 e) ∧ StR K' I' R' B' Ln' n' a' m' kp (fs.filter (fun g => !selC I J R cs o g) ++ nf) (md + nf.length) ∧ (∀ j f, nf[j]? = some f → I' 320 f = nI (md + 1 + j) ∧ I' 321 f = lv + nI 1) ∧ StF K I R B Ln n K' I' R' B' Ln' n' ∧ (n' + m ≤ n + 1 + nf.length + m' ∧ sl' + 800 * m ≤ sl + 4 + 6 * nf.length + 800 * m' ∧ m ≤ m') ∧ r = some (iV (nI (cs.length - kp.length))) ∧ G' = (K', I', J, R', A, B', Ln', n', sl')) := by
  have hof := (fON_mem ho).1
  have hKo : K o = 5 := by
    obtain ⟨j, hj, rfl⟩ := List.getElem_of_mem hof
    exact (hS.2.1.arr hj).2.2.2
  have sf := cs_fileOn (X := X) (d := d + 6) (J := J) (A := A) (sl := sl) (lv := lv) (k := nI 0) hC hS.2.1
  rw [ho] at sf
  have sr := cs_retire (X := X) (d := d + 6) (J := J) (A := A) (sl := sl) hC hS.2.1 hS.ed hof
  have sm := fun I1 B1 hA1 hI1 hB1 => cs_moveRetired (X := X) (d := d) (sl := sl) hC hS hn hF hmd hof (h := h) (lv := lv) (I1 := I1) (B1 := B1) hA1 hI1 hB1
  show Ev X mX6_mergeDown (d + 10) 0 [some (rV (some 7)), some (iV lv), some (iV h), none] [] (K, I, J, R, A, B, Ln, n, sl) _
  refine ev_aload_n dX6_mergeDown_0 rfl ?_
  refine ev_iload_n dX6_mergeDown_1 rfl ?_
  refine ev_iconstN 0 dX6_mergeDown_2 (by decide) ?_
  refine ev_callV dX6_mergeDown_3 okX6_fileOn inX6_fileOn seX6_fileOn mlX6_106 hC.K_st (by decide) rfl [iV _, iV _] rfl rfl (Nat.le_of_ble_eq_true rfl) (Nat.le_of_ble_eq_true rfl) (sf) (fun r_ G_ h_ => ?_)
  obtain ⟨rfl, rfl⟩ := h_
  try dsimp only [Option.toList, List.cons_append, List.nil_append]
  refine ev_astore_nS dX6_mergeDown_6 (by decide) rfl ?_
  refine ev_aload_n dX6_mergeDown_7 rfl ?_
  refine ev_ifnonnull 13 dX6_mergeDown_8 (by decide) (fun x c8 => ?_) (fun c8 => by cases c8)
  refine ev_aload_n dX6_mergeDown_13 rfl ?_
  refine ev_aload_n dX6_mergeDown_14 rfl ?_
  refine ev_callV dX6_mergeDown_15 okX6_retire inX6_retire seX6_retire mlX6_110 hC.K_st (by decide) rfl [rV _] rfl rfl (Nat.le_of_ble_eq_true rfl) (Nat.le_of_ble_eq_true rfl) (sr) (fun r_ G_ h_ => ?_)
  obtain ⟨rfl, I1, B1, r1, r2, r3, rfl⟩ := h_
  try dsimp only [Option.toList, List.cons_append, List.nil_append]
  refine ev_aload_n dX6_mergeDown_18 rfl ?_
  refine ev_iload_n dX6_mergeDown_19 rfl ?_
  refine ev_iconstN 1 dX6_mergeDown_20 (by decide) ?_
  refine ev_iadd (y := 1) dX6_mergeDown_21 ?_
  refine ev_iload_n dX6_mergeDown_22 rfl ?_
  refine ev_callV dX6_mergeDown_23 okX6_moveRetired inX6_moveRetired seX6_moveRetired mlX6_114 hC.K_st (by decide) rfl [iV _, iV _] rfl rfl (Nat.le_of_ble_eq_true rfl) (Nat.le_of_ble_eq_true rfl) (sm I1 B1 r1 r2 r3) (fun r_ G_ h_ => ?_)
  obtain ⟨K', I', R', B', Ln', n', sl', a', m', kp, nf, p1, p2, p3, p4, p5, p6, p7, rfl, rfl⟩ := h_
  try dsimp only [Option.toList, List.cons_append, List.nil_append]
  refine ev_ireturn dX6_mergeDown_26 rfl ?_
  exact ⟨K', I', R', B', Ln', n', sl', a', m', kp, nf, p1, p2, p3, p4, p5, p6, p7, rfl, rfl⟩
theorem cs_flush (hC : CFix K R Ln) {a m : Nat} {cs fs : List Nat} {md : Nat} (hS : StR K I R B Ln n a m cs fs md) (hn : 34 ≤ n) (hF : FrH I J R A B n) (hmd : md + 520 < 2147483648) : EvM X mX6_writeMemoryOut (d + 8) [rV (some 7)] (K, I, J, R, A, B, Ln, n, sl) (fun r G' => r = some (iV (nI (cs.countP (memB R)))) ∧ ((cs.countP (memB R) = 0 ∧ G' = (K, I, J, R, A, B, Ln, n, sl)) ∨ (0 < cs.countP (memB R) ∧ ∃ K' I' R' B' Ln' n' sl' a' m', StR K' I' R' B' Ln' n' a' m' cs (fs ++ [n]) (md + 1) ∧ (∀ e ∈ cs, nuF I' R' e = if memB R e = true then nI (md + 1) else nuF I R e) ∧ I' 320 n = nI (md + 1) ∧ I' 321 n = nI 0 ∧ StF K I R B Ln n K' I' R' B' Ln' n' ∧ (n' + m ≤ n + 1 + m' ∧ sl' + 800 * m ≤ sl + 6 + 800 * m' ∧ m ≤ m') ∧ G' = (K', I', J, R', A, B', Ln', n', sl')))) := by
  have hS0 := hS
  obtain ⟨⟨e1, e2, e3⟩, sA, ⟨sN1, sN2⟩, s4, s5, s6, s7, s8, s9, s10⟩ := hS
  have hfl : fs.length ≤ 500 := by
    have := hS0.cap (fun _ => false) (fun _ => false) (fun _ _ _ _ => rfl)
    rw [show (fs.filter (fun _ => !false)) = fs from List.filter_eq_self.mpr (fun _ _ => rfl)] at this
    omega
  have hKe : ∀ e ∈ cs, K e = 0 := fun x hx => by
    obtain ⟨j, hj, rfl⟩ := List.getElem_of_mem hx
    exact (e3 j _ (List.getElem?_eq_getElem hj)).2
  have hKf : ∀ g ∈ fs, K g = 5 := fun g hg => by
    obtain ⟨j, hj, rfl⟩ := List.getElem_of_mem hg
    exact (sA.arr hj).2.2.2
  have sw := cs_writeMem (X := X) (d := d) (J := J) (A := A) (sl := sl) hC ⟨e1, e2, e3⟩ sA (by omega) hn (fun g hg => (s5 g hg).2) (fun e he => (s4 e he).2) s6 (hF n (Nat.le_refl _)).1 sN1
  refine sw.mono ?_
  rintro r G' ⟨rfl, h⟩
  refine ⟨by rw [s7], ?_⟩
  rcases h with ⟨h0, rfl⟩ | ⟨e, l, hel, K', I', R', B', Ln', n', sl', a', m', qA, qN, rfl⟩
  · have c0 : cs.countP (memB R) = 0 := by rw [List.countP_eq_length_filter, h0]; rfl
    refine Or.inl ⟨c0, ?_⟩
    rw [c0] at s7
    have : u2 I 386 7 (nI 0) = I := by
      funext f i
      unfold u2
      by_cases hz : f = 386 ∧ i = 7
      · rw [if_pos hz, hz.1, hz.2]; exact s7.symm
      · rw [if_neg hz]
    rw [this]
  · have hmem : ∀ x, x ∈ e :: l ↔ x ∈ cs ∧ R 6 x = none := fun x => by
      rw [← hel, List.mem_filter]
      unfold memB
      rw [decide_eq_true_iff]
    have c0 : 0 < cs.countP (memB R) := by rw [List.countP_eq_length_filter, hel]; exact Nat.succ_pos _
    have hsf := StF.file qN qA hn
    have hnn := hsf.1
    have qN0 := qN
    obtain ⟨r1, ⟨t1, t2, t3, t4, t5, t6, t7, t8⟩, r3, r4, r5, r6, r7⟩ := qN
    have m8 : m' ≤ 800 := qA.2.2.2.2.1
    have hR6 : ∀ x ∈ cs, apR n R' (e :: l) 6 x = if memB R x = true then some n else R 6 x := fun x hx => by
      have := (s4 x hx).2
      rw [apR_6, r6 6 x (by omega)]
      unfold memB
      by_cases hz : R 6 x = none
      · rw [if_pos ((hmem x).mpr ⟨hx, hz⟩), if_pos (decide_eq_true hz)]
      · rw [if_neg (fun z => hz ((hmem x).mp z).2), if_neg (fun z => hz (of_decide_eq_true z))]
    have hIe : ∀ f i, ¬ (f = 324 ∧ i = n) → ¬ (f = 386 ∧ i = 7) → u2 (apI n I' (e :: l)) 386 7 (nI 0) f i = I' f i := fun f i h1 h2 => by
      unfold u2
      rw [if_neg h2]
      exact apI_ne h1
    have hseg : segL (apR n R' (e :: l)) cs n = e :: l := by
      refine Eq.trans ?_ hel
      unfold segL
      refine List.filter_congr (fun x hx => ?_)
      rw [hR6 x hx]
      cases hm : memB R x with
      | true => rw [if_pos rfl]; exact decide_eq_true rfl
      | false =>
        rw [if_neg (by decide)]
        refine decide_eq_false (fun z => ?_)
        have := (s5 n (s8 x hx n z)).2
        omega
    have hsegf : ∀ f ∈ fs, ∀ x ∈ cs, (apR n R' (e :: l) 6 x = some f ↔ R 6 x = some f) := fun f hf x hx => by
      have := (s5 f hf).2
      rw [hR6 x hx]
      cases hm : memB R x with
      | true =>
        unfold memB at hm
        rw [if_pos rfl, of_decide_eq_true hm]
        exact ⟨fun z => (by cases z; omega), fun z => (by cases z)⟩
      | false => rw [if_neg (by decide)]
    refine Or.inr ⟨c0, K', u2 (apI n I' (e :: l)) 386 7 (nI 0), apR n R' (e :: l), B', Ln', n', sl', a', m', ⟨⟨?_, e2, fun j x hj => ?_⟩, ?_, ⟨sN1, ?_⟩, fun x hx => ?_, fun f hf => ?_, ?_, ?_, fun x hx f hf => ?_, fun f hf => ?_, fun f hf g hg hfg => ?_⟩, fun x hx => ?_, ?_, ?_, ?_, ⟨by omega, by omega, by omega⟩, rfl⟩
    · rw [hIe _ _ (by omega) (by omega), r5 _ _ (by omega)]; exact e1
    · obtain ⟨z1, z2⟩ := e3 j x hj
      obtain ⟨y1, y2⟩ := List.getElem?_eq_some_iff.mp hj
      have := (s4 x (y2 ▸ List.getElem_mem y1)).2
      have ha8 : a' ≠ 8 := by rcases qA.2.2.1 with ⟨z, -⟩ | ⟨z, -⟩ <;> omega
      exact ⟨by rw [r7 8 (Ne.symm ha8)]; exact z1, by rw [(r3 x (by omega)).1]; exact z2⟩
    · exact qA.fr (hIe _ _ (by omega) (by omega)) (apR_ne (by omega) (by omega)) (fun _ _ => rfl)
    · rw [List.nodup_append]
      refine ⟨sN2, List.pairwise_singleton _ _, fun x hx y hy z => ?_⟩
      have := (s5 x hx).2
      rw [List.mem_singleton.mp hy] at z
      omega
    · have := s4 x hx; omega
    · rcases List.mem_append.mp hf with hf | hf
      · have := s5 f hf; omega
      · rw [List.mem_singleton.mp hf]; omega
    · rw [hIe _ _ (by omega) (by omega)]; exact t8
    · rw [u2_self]
      congr 1
      refine (List.countP_eq_zero.mpr (fun x hx z => ?_)).symm
      unfold memB at z
      have z := of_decide_eq_true z
      rw [hR6 x hx] at z
      cases hm : memB R x with
      | true => rw [hm, if_pos rfl] at z; cases z
      | false =>
        rw [hm, if_neg (by decide)] at z
        unfold memB at hm
        exact of_decide_eq_false hm z
    · rw [hR6 x hx] at hf
      cases hm : memB R x with
      | true => rw [hm, if_pos rfl] at hf; cases hf; simp
      | false => rw [hm, if_neg (by decide)] at hf; exact List.mem_append_left _ (s8 x hx f hf)
    · rcases List.mem_append.mp hf with hf | hf
      · have hfn := (s5 f hf).2
        obtain ⟨z1, z2, k, k1, k2, k3⟩ := s9 f hf
        refine ⟨?_, z2.congr (hsegf f hf) ?_ ?_ ?_, k, k1, by omega, ?_⟩
        · rw [hIe _ _ (by omega) (by omega), r5 _ _ (by omega)]; exact z1
        · rw [hIe _ _ (by omega) (by omega), r5 _ _ (by omega)]
        · rw [apR_ne (by omega) (by omega), r6 _ _ (by omega)]
        · rw [apR_ne (by omega) (by omega), r6 _ _ (by omega)]
        · rw [hIe _ _ (by omega) (by omega), r5 _ _ (by omega)]; exact k3
      · rw [List.mem_singleton.mp hf]
        refine ⟨?_, ⟨?_, ?_, ?_, ?_⟩, md + 1, by omega, Nat.le_refl _, ?_⟩
        · rw [hIe _ _ (by omega) (by omega)]; exact t5
        · rw [hseg]; simp
        · rw [hseg, u2_ne1 (by decide), apI_at, t4, Int32.zero_add]
        · rw [hseg, apR_ne (by omega) (by omega), t6]; rfl
        · rw [hseg, apR_last]
          cases hgl : (e :: l).getLast? with
          | none => simp at hgl
          | some y => rfl
        · rw [hIe _ _ (by omega) (by omega)]; exact t2
    · rw [hIe _ _ (by omega) (by omega), hIe _ _ (by omega) (by omega)] at hfg
      rcases List.mem_append.mp hf with hf | hf
      · have hfn := (s5 f hf).2
        obtain ⟨-, -, k, k1, k2, k3⟩ := s9 f hf
        rw [r5 320 f (by omega)] at hfg
        rcases List.mem_append.mp hg with hg | hg
        · have hgn := (s5 g hg).2
          rw [r5 320 g (by omega)] at hfg
          exact s10 f hf g hg hfg
        · rw [List.mem_singleton.mp hg, t2, k3] at hfg
          have := (neq (by omega) (by omega)).mp hfg
          omega
      · rcases List.mem_append.mp hg with hg | hg
        · have hgn := (s5 g hg).2
          obtain ⟨-, -, k, k1, k2, k3⟩ := s9 g hg
          rw [r5 320 g (by omega), List.mem_singleton.mp hf, t2, k3] at hfg
          have := (neq (by omega) (by omega)).mp hfg
          omega
        · rw [List.mem_singleton.mp hf, List.mem_singleton.mp hg]
    · unfold nuF
      rw [hR6 x hx]
      cases hm : memB R x with
      | true => rw [if_pos rfl, if_pos rfl]; show u2 (apI n I' (e :: l)) 386 7 (nI 0) 320 n = _; rw [hIe _ _ (by omega) (by omega)]; exact t2
      | false =>
        rw [if_neg (by decide), if_neg (by decide)]
        refine nmO_congr (fun f hf => ?_)
        have := (s5 f (s8 x hx f hf)).2
        rw [hIe _ _ (by omega) (by omega), r5 _ _ (by omega)]
    · rw [hIe _ _ (by omega) (by omega)]; exact t2
    · rw [hIe _ _ (by omega) (by omega)]; exact t3
    · refine hsf.trans ?_
      have hxn : ∀ x ∈ e :: l, x < n' ∧ K' x = 0 := fun x hx => by
        obtain ⟨z1, -⟩ := (hmem x).mp hx
        have := (s4 x z1).2
        exact ⟨by omega, by rw [(r3 x (by omega)).1]; exact hKe x z1⟩
      refine ⟨Nat.le_refl _, fun _ _ => ⟨rfl, rfl⟩, fun i hi => ⟨rfl, fun f => hIe _ _ (by omega) (by omega), fun f => apR_ne (fun z => by have := (hxn i z.2).1; omega) (by omega), rfl⟩, fun f i hi hx => ?_, fun f i hi hx => ?_, fun _ _ _ => rfl⟩
      · refine hIe f i (fun z => hx (Or.inr (Or.inl ⟨by rw [z.2]; exact t1, Or.inl z.1⟩))) (fun z => hx (Or.inr (Or.inr (Or.inl ⟨z.2, by omega⟩))))
      · exact apR_ne (fun z => hx (Or.inr (Or.inl ⟨(hxn i z.2).2, z.1⟩))) (fun z => hx (Or.inr (Or.inr (Or.inl ⟨by rw [z.2]; exact t1, z.1⟩))))
end C81
