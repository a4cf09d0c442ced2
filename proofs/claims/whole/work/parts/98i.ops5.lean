theorem mgF_nz {pl : Nat → Nat → Int32} {sp lv : Nat → Int32} {h : Int32} {two : Bool} {md : Nat} (h0 : 0 < md) : ∀ {l : List Nat} {pv fm : Option Nat} {ps : Bool} {ins c : Nat}, md + c + l.length < 2147483648 → ∀ p ∈ (mgF pl sp lv h two md l pv ps fm ins c).1, p.2 ≠ 0
  | [], _, _, _, _, _, _, p, hp => by rw [mgF] at hp; cases hp
  | e :: r, pv, fm, ps, ins, c, hb, p, hp => by
    rw [List.length_cons] at hb
    rw [mgF] at hp
    have hz : ∀ k, 0 < k → k < 2147483648 → nI k ≠ 0 := fun k k0 k1 z => by
      have := (neq (b := 0) k1 (by omega)).mp z
      omega
    split at hp
    · rcases List.mem_cons.mp hp with rfl | hp
      · show (-1 : Int32) ≠ 0; decide
      · exact mgF_nz h0 (by omega) p hp
    · split at hp
      · rcases List.mem_cons.mp hp with rfl | hp
        · exact hz _ (by omega) (by omega)
        · exact mgF_nz h0 (by omega) p hp
      · rcases List.mem_cons.mp hp with rfl | hp
        · exact hz _ (by omega) (by omega)
        · exact mgF_nz h0 (by omega) p hp
theorem mrg_mem {h l src : Int32} {s : SA} {x : EE} (hx : x ∈ (mrgS h l src s).1) : ∃ j, j < s.1.length ∧ xsL s.1 j ∈ s.1 ∧ x = wF (xsL s.1 j) (nuS h l src s j) := by
  obtain ⟨j, hj, rfl⟩ := List.mem_map.mp hx
  have hj := List.mem_range.mp (List.mem_filter.mp hj).1
  refine ⟨j, hj, ?_, rfl⟩
  unfold xsL
  rw [List.getElem?_eq_getElem hj]
  exact List.getElem_mem hj
theorem SmE.merge {h l src : Int32} {s : SA} {la : Nat} (hE : SmE s la) (hv : SaV s) (hmd : s.2.2 + 520 < 2147483648) (hs : (src, l) ∈ s.2.1) (hl : l = nI 0 ∨ l = nI 1) : SmE (mrgS h l src s) la ∧ phT (mrgS h l src s) ≤ phT s ∧ (mrgS h l src s).2.2 ≤ s.2.2 + 42 := by
  obtain ⟨h1, h2, h3⟩ := hE
  have hm0 : 0 < s.2.2 := by
    obtain ⟨-, k, k1, k2, -⟩ := hv.2.2.1 _ hs
    omega
  have hany : anyM (mrgS h l src s) = true → anyM s = true := fun z => by
    obtain ⟨x, hx, hz⟩ := List.any_eq_true.mp z
    obtain ⟨j, hj, hjm, rfl⟩ := mrg_mem hx
    have hz : nuS h l src s j = 0 := of_decide_eq_true hz
    refine List.any_eq_true.mpr ⟨_, hjm, decide_eq_true ?_⟩
    unfold nuS at hz
    by_cases hk : ∃ p ∈ (mgS h l src s).1, p.1 = j
    · obtain ⟨p, hp, rfl⟩ := hk
      have hn : ((mgS h l src s).1.map (fun p => p.1)).Nodup := by
        unfold mgS
        rw [mgF_keysL]
        exact List.Pairwise.filter _ List.nodup_range
      rw [upF_mem hn hp] at hz
      have hlr := List.length_filter_le (fun j => takS s l src (xsL s.1 j)) (List.range s.1.length)
      rw [List.length_range] at hlr
      have := hv.2.2.2.2.1
      exact absurd hz (mgF_nz hm0 (by omega) p hp)
    · rw [upF_out (fun p hp z => hk ⟨p, hp, z⟩)] at hz
      exact hz
  have hlv := mrg_lv (h := h) hv hs hl
  have hc := mgS_c (h := h) (l := l) (src := src) hv.2.2.2.2.1
  have hph := mrg_ph (h := h) hv hs hl
  have hcmp : (if anyM (mrgS h l src s) = true then 1 else 0) ≤ (if anyM s = true then 1 else 0) := by
    cases ha : anyM (mrgS h l src s) with
    | false => rw [if_neg (by decide)]; omega
    | true => rw [hany ha]; exact Nat.le_refl _
  refine ⟨⟨fun x hx => ?_, ?_, fun p hp => ?_⟩, ?_, ?_⟩
  · obtain ⟨j, hj, hjm, rfl⟩ := mrg_mem hx
    exact h1 (xsL s.1 j) hjm
  · rcases hl with rfl | rfl
    · have := hlv.1; omega
    · have := hlv.2.1 rfl; omega
  · rcases List.mem_append.mp hp with hp | hp
    · exact h3 p (List.mem_filter.mp hp).1
    · obtain ⟨i, -, rfl⟩ := List.mem_map.mp hp
      rcases hl with rfl | rfl
      · exact Or.inr (Or.inl rfl)
      · exact Or.inr (Or.inr rfl)
  · unfold phT
    cases ha : anyM (mrgS h l src s) with
    | false => rw [if_neg (by decide)]; omega
    | true => rw [hany ha, if_pos rfl]; omega
  · show s.2.2 + (mgS h l src s).2.1 ≤ _
    omega
section C98I
variable {X : CX} {d : Nat} {K : Nat → Nat} {I : Nat → Nat → Int32} {J : Nat → Nat → Int64} {R : Nat → Nat → Option Nat} {A : Nat → Nat → Int32} {B : Nat → Nat → Option Nat} {Ln : Nat → Nat} {n sl : Nat} {a m : Nat} {cs fs : List Nat} {s : SA} {many tn la : Nat} {ti : Nat → Nat} {pn : Nat} {px : Nat → Nat} {pe : Nat → EX} {ixn : Nat} {ie : Nat → EX} {rn : Nat} {p : PP}
set_option maxRecDepth 100000 in
set_option maxHeartbeats 4000000 in
theorem cap_S {A0 : Nat → Nat → Int32} (hH : HpC K I J R A0 B Ln n a m cs fs s) {I1 A1 : Nat → Nat → Int32} (hR : RfR I1 A1 many s) (hv : SaV s) (hmd : s.2.2 < 2147483648) {l src : Int32} (hs : srcS s l = some src) : (s.2.1.filter (stF A1 many l src)).length + (srtR (bfB (A1 16) (A1 17) (A1 18) (A1 19)) (tkF A1 many l src s.2.1) many).length ≤ 500 := by
  have hm := srcS_mem hs
  have hS := hH.2.1
  have hsr := hS.src (lv := l)
  rw [hs] at hsr
  cases ho : fON I l (nI 0) fs 0 with
  | none => rw [ho] at hsr; cases hsr
  | some o =>
    rw [ho] at hsr
    have hso : src = I 320 o := Option.some.inj hsr
    obtain ⟨o1, o2⟩ := fON_mem ho
    have hcap := hS.1.1.cap (retB I J R cs o) (selC I J R cs o) (fun e _ g hg => by unfold retB; rw [hg])
    have e1 : (s.2.1.filter (stF A1 many l src)).length = (fs.filter (fun g => !selC I J R cs o g)).length := by
      have : s.2.1.filter (stF A1 many l src) = s.2.1.filter (fun p => !selS s.1 l src p) := List.filter_congr (fun p hp => hR.st hv (hv.2.2.1 _ hm).1 hp)
      rw [this, hS.2.2, List.filter_map, List.length_map]
      congr 1
      refine List.filter_congr (fun g hg => ?_)
      show (!selS s.1 l src (I 320 g, I 321 g)) = _
      rw [hso, ← o2, hS.sel hmd o1 hg]
    have e2 : (srtR (bfB (A1 16) (A1 17) (A1 18) (A1 19)) (tkF A1 many l src s.2.1) many).length = (cs.filter (retB I J R cs o)).length := by
      rw [srt_pm.length_eq, ← List.countP_eq_length_filter, ← List.countP_eq_length_filter]
      have f1 : (List.range many).countP (tkF A1 many l src s.2.1) = s.1.countP (takS s l src) := by
        rw [← hR.2.1.countP_eq, List.countP_map]
        exact List.countP_congr (fun e he => by rw [hR.tk hv hm (List.mem_range.mp he)]; exact Iff.rfl)
      rw [f1, hS.2.1, List.countP_map]
      exact List.countP_congr (fun e he => by
        show takS s l src (entC I R e) = true ↔ _
        rw [hso, ← o2, hS.tak hmd o1 he])
    omega
set_option maxRecDepth 100000 in
set_option maxHeartbeats 4000000 in
theorem ref_comp {K1 : Nat → Nat} {I1 : Nat → Nat → Int32} {R1 B1 : Nat → Nat → Option Nat} {A1 : Nat → Nat → Int32} {Ln1 : Nat → Nat} {n1 : Nat} (hH : HpC K1 I1 J R1 A1 B1 Ln1 n1 a m cs fs s) (hM : MFix K R Ln) (hR : RfR I A many s) (hv : SaV s) (hmd : s.2.2 + 520 < 2147483648) (ht : I 595 11 = nI tn) (htb : tn ≤ 60) {l src : Int32} (hs : srcS s l = some src) : EvM X mX9_compacts (d + 4) [rV (some 11), iV l] (K, I, J, R, A, B, Ln, n, sl) (fun r G' => ∃ I' A', r = some (iV (nI (s.1.length - (mrgS (hzI (A 25) (A 26) (I 594 11) tn) l src s).1.length))) ∧ G' = (K, I', J, R, A', B, Ln, n, sl) ∧ RfR I' A' (mrgS (hzI (A 25) (A 26) (I 594 11) tn) l src s).1.length (mrgS (hzI (A 25) (A 26) (I 594 11) tn) l src s) ∧ (∀ i, i ∉ [16, 17, 18, 19, 20, 21, 22, 23, 24, 32, 33] → A' i = A i) ∧ ∀ f i, ¬ (i = 11 ∧ (f = 582 ∨ f = 590 ∨ f = 593 ∨ f = 612)) → I' f i = I f i) := by
  have hm := srcS_mem hs
  have hlen := hR.len
  have h5 := hv.2.2.2.2.1
  have h6 := hv.2.2.2.2.2
  have hcap := cap_S hH hR hv (by omega) hs
  obtain ⟨p1, p2, hsp, hp1⟩ : ∃ p1 p2, s.2.1 = p1 ++ (src, l) :: p2 ∧ ∀ p ∈ p1, ¬ p.2 = l := by
    unfold srcS at hs
    cases hf : s.2.1.find? (fun p => decide (p.2 = l)) with
    | none => rw [hf] at hs; cases hs
    | some p =>
      rw [hf] at hs
      cases hs
      obtain ⟨q1, as, bs, q2, q3⟩ := List.find?_eq_some_iff_append.mp hf
      have : (p.1, l) = p := by rw [← of_decide_eq_true q1]
      refine ⟨as, bs, by rw [this]; exact q2, fun q hq z => ?_⟩
      have := q3 q hq
      rw [decide_eq_true z] at this
      cases this
  refine (sp_compacts (X := X) (d := d) (J := J) (B := B) (n := n) (sl := sl) hM ht htb hR.1 (by omega) hR.2.2.1 hR.2.2.2.1 (by omega) hsp hp1 (fun p hp => ?_) (fun p hp => (hR.ends hv (hv.2.2.1 p hp).1).1) hR.2.2.2.2 (fun e he => ?_) (by omega) (by omega)).mono (fun r G' hQ => hR.comp hv hmd hm hQ)
  · obtain ⟨-, k, k1, k2, k3⟩ := hv.2.2.1 p hp
    exact ⟨k, k3, k1, by omega⟩
  · have := (hv.2.1 _ (hR.mem he)).2.1
    rw [(nrm_S _).2.2.2.2.1] at this
    exact this
set_option maxRecDepth 100000 in
set_option maxHeartbeats 4000000 in
theorem Sim.hz (h : Sim K I J R A B Ln n a m cs fs s many tn la ti pn px pe ixn ie rn p) : hzI (fun j => I 449 (ti j)) (fun j => I 448 (ti j)) (I 519 3) tn = hzI (A 25) (A 26) (I 594 11) tn := by
  obtain ⟨-, -, -, hT, -⟩ := h
  obtain ⟨-, t3, t4, t5, t6, t7, t8, -⟩ := hT
  rw [t5, t6]
  exact hzI_congr (fun j hj => ⟨(t8 j hj).2.2.2.1, (t8 j hj).2.2.2.2.1⟩)
set_option maxRecDepth 100000 in
set_option maxHeartbeats 4000000 in
theorem op_compact (h : Sim K I J R A B Ln n a m cs fs s many tn la ti pn px pe ixn ie rn p) (hmd : s.2.2 + 520 < 2147483648) {P : GH → Prop} (hP0 : P (K, I, J, R, A, B, Ln, n, sl)) (hP : ∀ l src, (l = nI 0 ∨ l = nI 1) → (src, l) ∈ s.2.1 → ∀ K' I' R' A' B' Ln' n' sl' a' m' cs' fs' many', Sim K' I' J R' A' B' Ln' n' a' m' cs' fs' (mrgS (hzI (A 25) (A 26) (I 594 11) tn) l src s) many' tn la ti pn px pe ixn ie rn p → n' + m ≤ n + 43 + m' → sl' + 800 * m ≤ sl + 256 + 800 * m' → P (K', I', J, R', A', B', Ln', n', sl')) : EvM X mX8_compact (d + 60) [rV (some 3)] (K, I, J, R, A, B, Ln, n, sl) (fun r1 G1 => G1.1 11 = 9 ∧ EvM X mX9_compact (d + 60) [rV (some 11)] G1 (fun r2 G2 => r2 = r1 ∧ P G2)) := by
  obtain ⟨hm5, hf5, hv⟩ := h.vld (by omega)
  have hzz := h.hz
  have hti := h.tis
  have h0 := h
  obtain ⟨hH, hM, hR, hT, -, -, -, -, hE⟩ := h
  obtain ⟨⟨t1, t2⟩, t3, t4, t5, t6, t7, t8, t9, t10, t11⟩ := hT
  have hC := hH.1
  have hn := hH.2.2.2.2
  have sc := cs_countFiles (X := X) (d := d + 56) (J := J) (A := A) (sl := sl) (lv := nI 0) hC hH.2.1.1.1.2.1
  rw [hH.2.1.lv] at sc
  have sh := cs_horizon (X := X) (d := d + 58) (I := I) (J := J) (A := A) (B := B) (n := n) (sl := sl) hC t3 t1 hti
  rw [hzz] at sh
  generalize hhz : hzI (A 25) (A 26) (I 594 11) tn = hz at *
  have hl0 : lvS s (nI 0) ≤ 500 := Nat.le_trans List.countP_le_length hf5
  have el0 : (s.2.1.filter (fun p => decide (p.2 = 0))).length = lvS s (nI 0) := by rw [← List.countP_eq_length_filter]; rfl
  have el1 : (s.2.1.filter (fun p => decide (p.2 = 1))).length = lvS s (nI 1) := by rw [← List.countP_eq_length_filter]; rfl
  show Ev X mX8_compact (d + 60) 0 [some (rV (some 3)), none] [] (K, I, J, R, A, B, Ln, n, sl) _
  have main : ∀ L : Nat, (L = if 0 < lvS s (nI 0) then 0 else 1) → (∀ src, srcS s (nI L) = some src → EvM X mX6_mergeDown (d + 59) [rV (some 7), iV (nI L), iV hz] (K, I, J, R, A, B, Ln, n, sl) (fun r1 G1 => G1.1 11 = 9 ∧ EvM X mX9_compact (d + 60) [rV (some 11)] G1 (fun r2 G2 => r2 = r1 ∧ P G2 ∧ ∃ v, r1 = some (iV v)))) ∧ (srcS s (nI L) = none → EvM X mX6_mergeDown (d + 59) [rV (some 7), iV (nI L), iV hz] (K, I, J, R, A, B, Ln, n, sl) (fun r1 G1 => G1.1 11 = 9 ∧ EvM X mX9_compact (d + 60) [rV (some 11)] G1 (fun r2 G2 => r2 = r1 ∧ P G2 ∧ ∃ v, r1 = some (iV v)))) := by
    intro L hL
    have hLl : nI L = nI 0 ∨ nI L = nI 1 := by
      by_cases hz : 0 < lvS s (nI 0)
      · rw [if_pos hz] at hL; rw [hL]; exact Or.inl rfl
      · rw [if_neg hz] at hL; rw [hL]; exact Or.inr rfl
    refine ⟨fun src hs => ?_, fun hs => ?_⟩
    · refine (cs_mergeS (X := X) (d := d + 49) (sl := sl) (h := hz) hH hmd hs).mono ?_
      rintro r1 G1 ⟨K', I', R', B', Ln', n', sl', a', m', cs', fs', rfl, rfl, q1, q2, q3, q4, q5⟩
      have k11 := hM.1
      have i11 : ∀ f, I' f 11 = I f 11 := fun f => q2.2.2.2.1 f 11 (by omega) (by rw [k11]; omega)
      have hM' : MFix K' R' Ln' := hM.of (fun i hi => (q2.2.1 i (by omega)).1) (fun i hi => (q2.2.1 i (by omega)).2) (fun f => q2.2.2.2.2.1 f 11 (by omega) (by rw [k11]; omega))
      have hR' : RfR I' A many s := ⟨(i11 _).trans hR.1, hR.2.1, hR.2.2.1, (i11 _).trans hR.2.2.2.1, (i11 _).trans hR.2.2.2.2⟩
      have hcm := ref_comp (X := X) (d := d + 55) (J := J) (B := B') (n := n') (sl := sl') hH hM' hR' hv hmd ((i11 _).trans t4) t1 hs
      rw [i11 594, hhz] at hcm
      have hh : L = 0 ∨ 0 < (s.2.1.filter (fun p => decide (p.2 = 1))).length := by
        by_cases hz : 0 < lvS s (nI 0)
        · rw [if_pos hz] at hL; exact Or.inl hL
        · rw [if_neg hz] at hL
          right
          rw [el1, ← hL]
          refine List.countP_pos_iff.mpr ⟨_, srcS_mem hs, decide_eq_true rfl⟩
      have sp := sp_compact (X := X) (d := d + 58) (J := J) (B := B') (n := n') (sl := sl') hM' hR'.2.2.1 hR'.2.2.2.1 (by omega) (l := L) (by rw [el0]; exact hL) hh hcm (fun r G ⟨I2, A2, e1, _⟩ => ⟨_, e1⟩)
      refine ⟨(q2.2.1 11 (by omega)).1.trans hM.1, ?_⟩
      refine sp.mono ?_
      rintro r2 G2 ⟨I2, A2, e1, rfl, e3, e4, e5⟩
      refine ⟨e1, ?_, _, rfl⟩
      exact hP (nI L) src hLl (srcS_mem hs) K' I2 R' A2 B' Ln' n' sl' a' m' cs' fs' _ (h0.store q2 q1 e5 e4 e3 (hE.merge hv hmd (srcS_mem hs) hLl).1) q3 q4
    · have hsr := hH.2.1.src (lv := nI L)
      rw [hs] at hsr
      have hfo : fON I (nI L) (nI 0) fs 0 = none := by
        cases hq : fON I (nI L) (nI 0) fs 0 with
        | none => rfl
        | some o => rw [hq] at hsr; cases hsr
      refine (cs_mergeDown_no (X := X) (d := d + 55) (J := J) (A := A) (sl := sl) (h := hz) hC hH.2.1.1.1 hfo).mono ?_
      rintro r1 G1 ⟨rfl, rfl⟩
      have hnone : ∀ l, srcS s l = none → lvS s l = 0 := fun l z => by
        by_cases y : 0 < lvS s l
        · obtain ⟨src, hq⟩ := srcS_ex y
          rw [z] at hq; cases hq
        · omega
      have hz0 : ¬ 0 < lvS s (nI 0) := fun y => by
        rw [if_pos y] at hL
        rw [hL] at hs
        have := hnone _ hs
        omega
      rw [if_neg hz0] at hL
      rw [hL] at hs
      have hz1 := hnone _ hs
      refine ⟨hM.1, ?_⟩
      refine (sp_compact_no (X := X) (d := d + 58) (J := J) (B := B) (n := n) (sl := sl) hM hR.2.2.1 hR.2.2.2.1 (by omega) (by rw [el0]; omega) (by rw [el1]; omega)).mono ?_
      rintro r2 G2 ⟨rfl, rfl⟩
      exact ⟨rfl, hP0, _, rfl⟩
  have done : ∀ L : Nat, (L = if 0 < lvS s (nI 0) then 0 else 1) → EvM X mX6_mergeDown (d + 59) [rV (some 7), iV (nI L), iV hz] (K, I, J, R, A, B, Ln, n, sl) (fun r1 G1 => G1.1 11 = 9 ∧ EvM X mX9_compact (d + 60) [rV (some 11)] G1 (fun r2 G2 => r2 = r1 ∧ P G2 ∧ ∃ v, r1 = some (iV v))) := fun L hL => by
    cases hq : srcS s (nI L) with
    | none => exact (main L hL).2 hq
    | some src => exact (main L hL).1 src hq
  by_cases hz0 : 0 < lvS s (nI 0)
  · have sm := done 0 (by rw [if_pos hz0])
    refine ev_aload_n dX8_compact_0 rfl ?_
    refine ev_getR dX8_compact_1 fX8_27 hC.m hC.R_st ?_
    refine ev_iconstN 0 dX8_compact_4 (by decide) ?_
    refine ev_callV dX8_compact_5 okX6_countFiles inX6_countFiles seX6_countFiles mlX8_168 hC.K_st (by decide) rfl [iV _] rfl rfl (Nat.le_of_ble_eq_true rfl) (Nat.le_of_ble_eq_true rfl) (sc) (fun r_ G_ h_ => ?_)
    obtain ⟨rfl, rfl⟩ := h_
    try dsimp only [Option.toList, List.cons_append, List.nil_append]
    refine ev_if_leN 15 dX8_compact_8 (by decide) (by omega) (fun c8 => absurd c8 (by omega)) (fun c8 => ?_)
    refine ev_iconstN 0 dX8_compact_11 (by decide) ?_
    refine ev_goto 16 dX8_compact_12 (by decide) ?_
    refine ev_istore_nS dX8_compact_16 (by decide) rfl ?_
    refine ev_aload_n dX8_compact_17 rfl ?_
    refine ev_getR dX8_compact_18 fX8_27 hC.m hC.R_st ?_
    refine ev_iload_n dX8_compact_21 rfl ?_
    refine ev_aload_n dX8_compact_22 rfl ?_
    refine ev_callV dX8_compact_23 okX8_horizon inX8_horizon seX8_horizon mlX8_171 hC.m (by decide) rfl [] rfl rfl (Nat.le_of_ble_eq_true rfl) (Nat.le_of_ble_eq_true rfl) (sh) (fun r_ G_ h_ => ?_)
    obtain ⟨rfl, rfl⟩ := h_
    try dsimp only [Option.toList, List.cons_append, List.nil_append]
    refine ev_callV dX8_compact_26 okX6_mergeDown inX6_mergeDown seX6_mergeDown mlX8_174 hC.K_st (by decide) rfl [iV _, iV _] rfl rfl (Nat.le_of_ble_eq_true rfl) (Nat.le_of_ble_eq_true rfl) (sm) (fun r_ G_ h_ => ?_)
    have hv_ : ∃ v, r_ = some (iV v) := by
      obtain ⟨-, _, _, _, _, _, hx⟩ := h_
      exact hx.2.2
    obtain ⟨v_, rfl⟩ := hv_
    have fin := h_.2.mono (fun r2 G2 hx => (⟨hx.1, hx.2.1⟩ : r2 = some (iV v_) ∧ P G2))
    try dsimp only [Option.toList, List.cons_append, List.nil_append]
    refine ev_ireturn dX8_compact_29 rfl ?_
    refine ⟨by first | exact hM.1 | exact h_.1 | exact hM1.1 | exact (hq2.2.1 11 (by omega)).1.trans hM1.1 | exact (y2.2.1 11 (by omega)).1.trans hM.1 | exact (q1.2 11 (by omega)).1.trans hM.1 | exact (va_up_ne _ _ (by omega)).trans hM.1 | exact (va_up_ne _ _ (by omega)).trans ((va_up_ne _ _ (by omega)).trans ((va_up_ne _ _ (by omega)).trans hM.1)), ?_⟩
    exact fin
  · have sm := done 1 (by rw [if_neg hz0])
    refine ev_aload_n dX8_compact_0 rfl ?_
    refine ev_getR dX8_compact_1 fX8_27 hC.m hC.R_st ?_
    refine ev_iconstN 0 dX8_compact_4 (by decide) ?_
    refine ev_callV dX8_compact_5 okX6_countFiles inX6_countFiles seX6_countFiles mlX8_168 hC.K_st (by decide) rfl [iV _] rfl rfl (Nat.le_of_ble_eq_true rfl) (Nat.le_of_ble_eq_true rfl) (sc) (fun r_ G_ h_ => ?_)
    obtain ⟨rfl, rfl⟩ := h_
    try dsimp only [Option.toList, List.cons_append, List.nil_append]
    refine ev_if_leN 15 dX8_compact_8 (by decide) (by omega) (fun c8 => ?_) (fun c8 => absurd c8 (by omega))
    refine ev_iconstN 1 dX8_compact_15 (by decide) ?_
    refine ev_istore_nS dX8_compact_16 (by decide) rfl ?_
    refine ev_aload_n dX8_compact_17 rfl ?_
    refine ev_getR dX8_compact_18 fX8_27 hC.m hC.R_st ?_
    refine ev_iload_n dX8_compact_21 rfl ?_
    refine ev_aload_n dX8_compact_22 rfl ?_
    refine ev_callV dX8_compact_23 okX8_horizon inX8_horizon seX8_horizon mlX8_171 hC.m (by decide) rfl [] rfl rfl (Nat.le_of_ble_eq_true rfl) (Nat.le_of_ble_eq_true rfl) (sh) (fun r_ G_ h_ => ?_)
    obtain ⟨rfl, rfl⟩ := h_
    try dsimp only [Option.toList, List.cons_append, List.nil_append]
    refine ev_callV dX8_compact_26 okX6_mergeDown inX6_mergeDown seX6_mergeDown mlX8_174 hC.K_st (by decide) rfl [iV _, iV _] rfl rfl (Nat.le_of_ble_eq_true rfl) (Nat.le_of_ble_eq_true rfl) (sm) (fun r_ G_ h_ => ?_)
    have hv_ : ∃ v, r_ = some (iV v) := by
      obtain ⟨-, _, _, _, _, _, hx⟩ := h_
      exact hx.2.2
    obtain ⟨v_, rfl⟩ := hv_
    have fin := h_.2.mono (fun r2 G2 hx => (⟨hx.1, hx.2.1⟩ : r2 = some (iV v_) ∧ P G2))
    try dsimp only [Option.toList, List.cons_append, List.nil_append]
    refine ev_ireturn dX8_compact_29 rfl ?_
    refine ⟨by first | exact hM.1 | exact h_.1 | exact hM1.1 | exact (hq2.2.1 11 (by omega)).1.trans hM1.1 | exact (y2.2.1 11 (by omega)).1.trans hM.1 | exact (q1.2 11 (by omega)).1.trans hM.1 | exact (va_up_ne _ _ (by omega)).trans hM.1 | exact (va_up_ne _ _ (by omega)).trans ((va_up_ne _ _ (by omega)).trans ((va_up_ne _ _ (by omega)).trans hM.1)), ?_⟩
    exact fin
end C98I
