section M25
variable {X : CX} {d : Nat} {K : Nat → Nat} {I : Nat → Nat → Int32} {J : Nat → Nat → Int64} {R : Nat → Nat → Option Nat} {A : Nat → Nat → Int32} {B : Nat → Nat → Option Nat} {Ln : Nat → Nat} {n sl : Nat}
theorem nI_nneg {k : Nat} (h1 : k < 2147483648) : ¬ nI k < 0 := by
  rw [Int32.lt_iff_toInt_lt, nI_toInt h1, show (0 : Int32).toInt = 0 by decide]
  omega
theorem dI_sub {k : Nat} : dI k = nI k - nI 1 := by
  unfold dI
  rw [Int32.sub_eq_add_neg]
  rfl
theorem neg_nI {k : Nat} (h0 : 0 < k) (h1 : k < 2147483648) : -(nI k) < 0 := by
  have h : (nI k).toInt = (k : Int) := nI_toInt h1
  rw [Int32.lt_iff_toInt_lt, Int32.toInt_neg, h, show (0 : Int32).toInt = 0 by decide, Int.bmod_eq_of_le (by omega) (by omega)]
  omega
/-- which files stay -/
def stF (A : Nat → Nat → Int32) (many : Nat) (l src : Int32) (p : Int32 × Int32) : Bool := !selF A many l src p && decide (¬ p.1 = src)
/-- which entries a merge takes -/
def tkF (A : Nat → Nat → Int32) (many : Nat) (l src : Int32) (fl : List (Int32 × Int32)) (e : Nat) : Bool := decide (A 22 e = src) || fl.any (fun p => selF A many l src p && decide (A 22 e = p.1))
theorem mkF_filter {A : Nat → Nat → Int32} {many : Nat} {l src : Int32} : ∀ {fl : List (Int32 × Int32)}, (∀ p ∈ fl, ∃ k, p.1 = nI k ∧ 0 < k ∧ k < 2147483648) → (fl.map (mkF A many l src)).filter (kpF src) = fl.filter (stF A many l src)
  | [], _ => rfl
  | p :: r, h => by
    obtain ⟨k, hk, h0, h1⟩ := h p List.mem_cons_self
    rw [List.map_cons, List.filter_cons, List.filter_cons, mkF_filter (fun q hq => h q (List.mem_cons_of_mem _ hq))]
    cases hs : selF A many l src p with
    | true =>
      rw [show mkF A many l src p = (-p.1, p.2) by unfold mkF; rw [hs]; rfl]
      rw [show kpF src (-p.1, p.2) = false by unfold kpF; rw [hk]; exact decide_eq_false (fun z => z (Or.inl (neg_nI h0 h1)))]
      rw [show stF A many l src p = false by unfold stF; rw [hs]; rfl]
      rfl
    | false =>
      rw [show mkF A many l src p = p by unfold mkF; rw [hs]; rfl]
      have hn : ¬ p.1 < 0 := by rw [hk]; exact nI_nneg h1
      rw [show kpF src p = stF A many l src p by unfold kpF stF; rw [hs]; simp [hn]]
/-- what 'compacts' leaves -/
def CompQ (K : Nat → Nat) (I : Nat → Nat → Int32) (J : Nat → Nat → Int64) (R : Nat → Nat → Option Nat) (A : Nat → Nat → Int32) (B : Nat → Nat → Option Nat) (Ln : Nat → Nat) (n sl tn many md : Nat) (l src : Int32) (fl : List (Int32 × Int32)) (r : Option LV) (G' : GH) : Prop := ∃ I1 A1, (∀ i, i ∉ [23, 24, 32, 33] → A1 i = A i) ∧ FlA A1 (fl.filter (stF A many l src)) ∧ (∀ f i, ¬ ((f = 590 ∨ f = 612) ∧ i = 11) → I1 f i = I f i) ∧ I1 590 11 = nI (fl.filter (stF A many l src)).length ∧ MergeQ K I1 J R A1 B Ln n sl tn many (fl.filter (stF A many l src)).length md (l + 1) (srtR (bfB (A 16) (A 17) (A 18) (A 19)) (tkF A many l src fl) many) r G'
set_option maxRecDepth 100000 in
set_option maxHeartbeats 4000000 in
theorem sp_compacts (hM : MFix K R Ln) {tn : Nat} (ht : I 595 11 = nI tn) (hb : tn ≤ 60) {many : Nat} (hm : I 582 11 = nI many) (hbm : many ≤ 520) {md : Nat} {l src : Int32} {fl p1 p2 : List (Int32 × Int32)} (hfl : FlA A fl) (hfn : I 590 11 = nI fl.length) (hfb : fl.length ≤ 520) (hsp : fl = p1 ++ (src, l) :: p2) (hp1 : ∀ p ∈ p1, ¬ p.2 = l) (hpos : ∀ p ∈ fl, ∃ k, p.1 = nI k ∧ 0 < k ∧ k < 2147483648) (hne : ∀ p ∈ fl, HasE A many p.1) (hd : I 593 11 = nI md) (hlv : ∀ e, e < many → A 20 e = 0 ∨ A 20 e = 1) (hcap : (fl.filter (stF A many l src)).length + (srtR (bfB (A 16) (A 17) (A 18) (A 19)) (tkF A many l src fl) many).length ≤ 520) (hmdb : md + (srtR (bfB (A 16) (A 17) (A 18) (A 19)) (tkF A many l src fl) many).length < 2147483648) : EvM X mX9_compacts (d + 4) [rV (some 11), iV l] (K, I, J, R, A, B, Ln, n, sl) (CompQ K I J R A B Ln n sl tn many md l src fl) := by
  have hfl' := hfl
  rw [hsp] at hfl'
  have hmid := hfl'.mid
  have hlen : fl.length = p1.length + (p2.length + 1) := by rw [hsp]; simp
  have hsrc : HasE A many src := hne (src, l) (by rw [hsp]; simp)
  have k225 : ∀ (A3 I4 A4 : Nat → Nat → Int32) (w4 w5 w6 : Option LV), C3I A A3 many l src [] fl → C4I I A3 I4 A4 (fl.filter (stF A many l src)) → Ev X mX9_compacts (d + 4) 225 [some (rV (some 11)), some (iV l), some (iV (nI p1.length)), some (iV src), w4, w5, w6] [] (K, I4, J, R, A4, B, Ln, n, sl) (CompQ K I J R A B Ln n sl tn many md l src fl) := by
    intro A3 I4 A4 w4 w5 w6 hC3 hC4
    have hb16 := fun i (hi : i ∉ [23, 24]) (hj : i ∉ [23, 33]) => (hC4.1 i hi).trans (hC3.1 i hj)
    have hm4 : I4 582 11 = nI many := (hC4.2.2.2 582 11 (by omega)).trans hm
    have hsort := sp_sort (X := X) (d := d + 1) (J := J) (B := B) (n := n) (sl := sl) (I := I4) (A := A4) hM hm4 hbm
    have htk : ∀ j, j < many → decide (¬ A4 33 j = 0) = tkF A many l src fl j := fun j hj => by
      rw [hC4.1 33 (by decide), hC3.2.2 j hj]
      show decide (¬ bZ (tkF A many l src fl j) = 0) = _
      cases tkF A many l src fl j <;> rfl
    rw [srtR_congr (by rw [hb16 16 (by decide) (by decide), hb16 17 (by decide) (by decide), hb16 18 (by decide) (by decide), hb16 19 (by decide) (by decide)]) many htk] at hsort
    refine ev_aload_n dX9_compacts_225 rfl ?_
    refine ev_callV dX9_compacts_226 okX9_sort inX9_sort seX9_sort mlX9_197 hM.m (by decide) rfl [] rfl rfl (Nat.le_of_ble_eq_true rfl) (Nat.le_of_ble_eq_true rfl) (hsort) (fun r_ G_ h_ => ?_)
    obtain ⟨rfl, A5, I5, rfl, hA5, hO5, h612, hI5⟩ := h_
    have q1 : ∀ i, i ∉ [23, 24, 32, 33] → A5 i = A i := fun i hi => by
      simp only [List.mem_cons, List.not_mem_nil, or_false, not_or] at hi
      rw [hA5 i hi.2.2.1]
      exact hb16 i (by simp [hi]) (by simp [hi])
    have q2 : ∀ f i, ¬ ((f = 590 ∨ f = 612) ∧ i = 11) → I5 f i = I f i := fun f i hfi => (hI5 f i (by omega)).trans (hC4.2.2.2 f i (by omega))
    try dsimp only [Option.toList, List.cons_append, List.nil_append]
    refine ev_aload_n dX9_compacts_229 rfl ?_
    refine ev_iload_n dX9_compacts_230 rfl ?_
    refine ev_iconstN 1 dX9_compacts_231 (by decide) ?_
    refine ev_iadd (y := 1) dX9_compacts_232 ?_
    refine ev_callV dX9_compacts_233 okX9_merge inX9_merge seX9_merge mlX9_200 hM.m (by decide) rfl [iV _] rfl rfl (Nat.le_of_ble_eq_true rfl) (Nat.le_of_ble_eq_true rfl) (sp_merge (d := d + 2) hM ((q2 595 11 (by omega)).trans ht) hb ((q2 582 11 (by omega)).trans hm) hbm hO5 (fun y hy => (srtR_mem.mp hy).1) ((hI5 590 11 (by omega)).trans hC4.2.2.1) ((q2 593 11 (by omega)).trans hd) hcap hmdb h612 (fun e he => by rw [q1 20 (by decide)]; exact hlv e he)) (fun r_ G_ h_ => ?_)
    obtain ⟨I1, A1, A2, asg, c, o, m1, m2, m3, rfl, rfl⟩ := h_
    try dsimp only [Option.toList, List.cons_append, List.nil_append]
    refine ev_ireturn dX9_compacts_236 rfl ?_
    exact ⟨I5, A5, q1, hC4.2.1.congr (hA5 23 (by decide)) (hA5 24 (by decide)), q2, (hI5 590 11 (by omega)).trans hC4.2.2.1, I1, A1, A2, asg, c, o, m1, m2, m3, rfl, rfl⟩
  have k179 : ∀ (A3 : Nat → Nat → Int32) (w4 w5 w6 : Option LV), C3I A A3 many l src [] fl → Ev X mX9_compacts (d + 4) 179 [some (rV (some 11)), some (iV l), some (iV (nI p1.length)), some (iV src), w4, w5, w6] [] (K, I, J, R, A3, B, Ln, n, sl) (CompQ K I J R A B Ln n sl tn many md l src fl) := by
    intro A3 w4 w5 w6 hC3
    have hml : (fl.map (mkF A many l src)).length = fl.length := by simp
    have h187 := fun w5 w6 => lp_c5 (X := X) (d := d) (J := J) (B := B) (n := n) (sl := sl) (I0 := I) (A0 := A3) (l := l) (src := src) (it := p1.length) (fl := fl.filter (stF A many l src)) hM (fun I' A' w4 w5 w6 h => k225 A3 I' A' w4 w5 w6 hC3 h) (fl.length) (fl.map (mkF A many l src)) [] I A3 w5 w6 hml (by rw [List.append_nil, hml]; exact hfb) (by rw [List.append_nil, mkF_filter hpos]) ⟨fun _ _ => rfl, by rw [List.append_nil]; exact hC3.2.1, by rw [List.append_nil, hml]; exact hfn, fun _ _ _ => rfl⟩
    refine ev_aload_n dX9_compacts_179 rfl ?_
    refine ev_getIv dX9_compacts_180 fX9_167 hM.m hfn ?_
    refine ev_iconstN 1 dX9_compacts_183 (by decide) ?_
    refine ev_isub (y := 1) dX9_compacts_184 ?_
    refine ev_istoreS dX9_compacts_185 (by decide) rfl ?_
    have h := h187 w5 w6
    rw [dI_sub] at h
    exact h
  have k66 : ∀ (w4 w5 w6 : Option LV), Ev X mX9_compacts (d + 4) 66 [some (rV (some 11)), some (iV l), some (iV (nI p1.length)), some (iV src), w4, w5, w6] [] (K, I, J, R, tkA A src many, B, Ln, n, sl) (CompQ K I J R A B Ln n sl tn many md l src fl) := by
    intro w4 w5 w6
    have h74 := fun w5 w6 => lp_c4 (X := X) (d := d) (J := J) (A := A) (B := B) (n := n) (sl := sl) (l := l) (src := src) (it := p1.length) (fl := fl) hM hm hbm hfb hsrc hne k179 fl.length fl [] (tkA A src many) w5 w6 rfl (List.append_nil _).symm ⟨fun i hi => tkA_ne (by simp only [List.mem_cons, List.not_mem_nil, or_false, not_or] at hi; exact hi.2), by rw [List.map_nil, List.append_nil]; exact hfl.congr (tkA_ne (by decide)) (tkA_ne (by decide)), fun e he => by rw [tkA_33 he]; simp⟩
    refine ev_aload_n dX9_compacts_66 rfl ?_
    refine ev_getIv dX9_compacts_67 fX9_167 hM.m hfn ?_
    refine ev_iconstN 1 dX9_compacts_70 (by decide) ?_
    refine ev_isub (y := 1) dX9_compacts_71 ?_
    refine ev_istoreS dX9_compacts_72 (by decide) rfl ?_
    have h := h74 w5 w6
    rw [dI_sub] at h
    exact h
  have k18 : ∀ (w3 w4 w5 w6 : Option LV), Ev X mX9_compacts (d + 4) 18 [some (rV (some 11)), some (iV l), some (iV (nI p1.length)), w3, w4, w5, w6] [] (K, I, J, R, A, B, Ln, n, sl) (CompQ K I J R A B Ln n sl tn many md l src fl) := by
    intro w3 w4 w5 w6
    have h28 := fun w5 w6 => lp_c2 (X := X) (d := d + 4) (J := J) (A := A) (B := B) (n := n) (sl := sl) (l := l) (src := src) (it := p1.length) (w5 := w5) (w6 := w6) hM hm hbm (k66 _ _ _) many 0 (by omega)
    rw [tkA_0] at h28
    refine ev_aload_n dX9_compacts_18 rfl ?_
    refine ev_getR dX9_compacts_19 fX9_44 hM.m hM.R_number ?_
    refine ev_iload_n dX9_compacts_22 rfl ?_
    refine ev_ialdv dX9_compacts_23 hM.K_number hM.L_number (by decide) (by omega) hmid.1 ?_
    refine ev_istore_nS dX9_compacts_24 (by decide) rfl ?_
    refine ev_iconstN 0 dX9_compacts_25 (by decide) ?_
    refine ev_istoreS dX9_compacts_26 (by decide) rfl ?_
    exact h28 _ _
  show Ev X mX9_compacts (d + 4) 0 [some (rV (some 11)), some (iV l), none, none, none, none, none] [] (K, I, J, R, A, B, Ln, n, sl) _
  refine ev_iconstN 0 dX9_compacts_0 (by decide) ?_
  refine ev_istore_nS dX9_compacts_1 (by decide) rfl ?_
  exact lp_c1 hM (by omega) hmid.2 (fun j hj => by rw [(hfl' j p1[j] (by rw [List.getElem?_append_left hj]; exact List.getElem?_eq_getElem hj)).2]; exact hp1 _ (List.getElem_mem hj)) (k18 _ _ _ _) p1.length 0 (by omega)
end M25
