theorem vlE_cg {r r' : Nat → Int32} (h : ∀ f, f < 3 → r' f = r f) (e : EX) : vlE r' e = vlE r e := by
  unfold vlE
  rw [evE_congr h]
theorem keyE_cg {la : Nat} {had has : Bool} {ro rn ro' rn' : Nat → Int32} {ie : Nat → EX} {k ixn : Nat} (h1 : ∀ f, f < 3 → ro' f = ro f) (h2 : ∀ f, f < 3 → rn' f = rn f) : (keyE had has ro' rn' ie k ixn).map (mkE la rn') = (keyE had has ro rn ie k ixn).map (mkE la rn) := by
  have e1 : mkE la rn' = mkE la rn := by
    funext x
    unfold mkE
    rw [h2 0 (by decide), h2 1 (by decide), h2 2 (by decide)]
  rw [e1]
  unfold keyE ixL
  simp only [vlE_cg h1, vlE_cg h2]
theorem fm_cg {f g : Nat → List EE} : ∀ {l : List Nat}, (∀ x ∈ l, f x = g x) → l.flatMap f = l.flatMap g
  | [], _ => rfl
  | x :: l, h => by
    rw [List.flatMap_cons, List.flatMap_cons, h x List.mem_cons_self, fm_cg (fun y hy => h y (List.mem_cons_of_mem _ hy))]
theorem bat_mem {la : Nat} {wr had has : Nat → Bool} {ro rn : Nat → Nat → Int32} {ie : Nat → EX} {ixn : Nat} (h3 : ixn ≤ 3) {x : EE} (hx : x ∈ batL la wr had has ro rn ie ixn 32) : ∃ k, k < 32 ∧ (eS x = 0 → eV x = 0) ∧ eT x = nI (la + 1) ∧ eF x = 0 ∧ x.2.2.2.2.2.2.2.2 = rn k 2 := by
  unfold batL at hx
  obtain ⟨k, hk, hx⟩ := List.mem_flatMap.mp hx
  have hk := List.mem_range.mp hk
  by_cases hw : wr k = true
  · rw [if_pos hw] at hx
    obtain ⟨y, hy, rfl⟩ := List.mem_map.mp hx
    refine ⟨k, hk, ?_, rfl, rfl, rfl⟩
    unfold keyE at hy
    rcases List.mem_append.mp hy with hy | hy
    · unfold ixL at hy
      obtain ⟨i, hi, hy⟩ := List.mem_flatMap.mp hy
      have hi := List.mem_range.mp hi
      have h0 : ¬ nI (i + 1) = 0 := fun z => by
        have := (neq (by omega) (by omega)).mp (show nI (i + 1) = nI 0 from z)
        omega
      unfold ixE at hy
      rcases List.mem_append.mp hy with hy | hy
      · split at hy
        · rw [List.mem_singleton] at hy
          subst hy
          exact fun z => absurd z h0
        · cases hy
      · split at hy
        · rw [List.mem_singleton] at hy
          subst hy
          exact fun z => absurd z h0
        · cases hy
    · rw [List.mem_singleton] at hy
      subst hy
      exact fun _ => rfl
  · rw [if_neg hw] at hx; cases hx
section C98Q
variable {X : CX} {d : Nat} {K : Nat → Nat} {I : Nat → Nat → Int32} {J : Nat → Nat → Int64} {R : Nat → Nat → Option Nat} {A : Nat → Nat → Int32} {B : Nat → Nat → Option Nat} {Ln : Nat → Nat} {n sl : Nat} {a m : Nat} {cs fs : List Nat} {s : SA} {many tn la : Nat} {ti : Nat → Nat} {pn : Nat} {px : Nat → Nat} {pe : Nat → EX} {ixn : Nat} {ie : Nat → EX} {rn : Nat} {p : PP}
set_option maxRecDepth 100000 in
set_option maxHeartbeats 4000000 in
theorem ky_ex (hR : RfR I A many s) (hv : SaV s) : ∃ ky : Nat → Nat, ∀ e, e < many → A 18 e = nI (ky e) ∧ ky e < 32 := by
  have hx : ∀ e, e < many → ∃ k, A 18 e = nI k ∧ k < 32 := fun e he => by
    obtain hr := hR.rg hv he
    unfold RgE at hr
    rcases i4_cases (A 18 e) (k := 32) (by decide) with ⟨k, hk, z⟩ | z
    · exact ⟨k, z, hk⟩
    · exfalso; omega
  refine ⟨fun e => if h : e < many then (hx e h).choose else 0, fun e he => ?_⟩
  show A 18 e = nI (if h : e < many then (hx e h).choose else 0) ∧ (if h : e < many then (hx e h).choose else 0) < 32
  rw [dif_pos he]
  exact (hx e he).choose_spec
set_option maxRecDepth 100000 in
set_option maxHeartbeats 4000000 in
theorem late_S (h : Sim K I J R A B Ln n a m cs fs s many tn la ti pn px pe ixn ie rn p) (hmd : s.2.2 < 2147483648) {j : Nat} (hj : j < tn) {ky : Nat → Nat} (hky : ∀ e, e < many → A 18 e = nI (ky e) ∧ ky e < 32) : anyN (lateB I J A cs (ti j)) 32 = anyN (btP A j ky) many := by
  obtain ⟨hm5, -, hv⟩ := h.vld hmd
  obtain ⟨hH, hM, hR, hT, -, -, -, -, hE⟩ := h
  have t1 := hT.1
  obtain ⟨c1, c2, c3, c4, c5, ⟨b, c6, c6'⟩, c7, c8⟩ := hT.2.2.2.2.2.2.1 j hj
  have hS := hH.2.1
  rw [Bool.eq_iff_iff, anyN_iff, anyN_iff]
  constructor
  · rintro ⟨k, hk, hz⟩
    unfold lateB at hz
    rw [Bool.and_eq_true, decide_eq_true_iff, decide_eq_true_iff] at hz
    obtain ⟨z1, z2⟩ := hz
    have h27 : 0 < A 27 (32 * j + k) := by
      rcases c8 k hk with w | w | w
      · exact absurd w.1 z1
      · rw [w.2.1]; decide
      · rw [w.2.1]; decide
    unfold lsC at z2
    cases hx : rsC I J cs (plcL (nI 0) (nI 0) (nI k)) 2147483647 with
    | none =>
      rw [hx, c5, c6'] at z2
      exfalso
      have : nI b < nI 0 := z2
      rw [nlt (by omega) (by decide)] at this
      omega
    | some e =>
      rw [hx] at z2
      have e1 := rsC_S hS (q := plcL (nI 0) (nI 0) (nI k)) (u := 2147483647)
      rw [hx] at e1
      have e1 : some (entC I R e) = rwS s (plcL (nI 0) (nI 0) (nI k)) 2147483647 := e1
      unfold rwS at e1
      have hm := List.mem_of_find?_eq_some e1.symm
      have hp := List.find?_some e1.symm
      obtain ⟨c, hc, hce⟩ := List.mem_map.mp (hR.2.1.mem_iff.mpr hm)
      have hc := List.mem_range.mp hc
      have hce : nrmE (entA A c) = entC I R e := hce
      rw [Bool.and_eq_true, decide_eq_true_iff, ← hce, plc_nrm] at hp
      have hq := (plc_eq (hR.rg hv hc) (rg_nI (by omega) hk)).mp hp.1
      have h19 : A 19 c = I 4 e := by
        have := congrArg eT hce
        rw [(nrm_S _).2.2.2.1] at this
        exact this
      refine ⟨c, hc, ?_⟩
      have hkk : ky c = k := (neq (by have := (hky c hc).2; omega) (by omega)).mp ((hky c hc).1.symm.trans hq.2.2)
      unfold btP
      rw [decide_eq_true_iff, hkk, h19, ← c5]
      exact ⟨hq.1, z2, h27⟩
  · rintro ⟨e, he, hz⟩
    unfold btP at hz
    rw [decide_eq_true_iff] at hz
    obtain ⟨z1, z2, z3⟩ := hz
    obtain ⟨k1, k2⟩ := hky e he
    refine ⟨ky e, k2, ?_⟩
    have hw : ¬ A (ti j + 1) (ky e) = 0 := by
      rcases c8 _ k2 with w | w | w
      · rw [w.2] at z3; exact absurd z3 (by decide)
      · rw [w.1]; decide
      · rw [w.1]; decide
    have h17 : A 17 e = 0 := by
      have := (hE.1 _ (hR.mem he)).2.1
      rw [(nrm_S _).1, (nrm_S _).2.1] at this
      exact this z1
    obtain ⟨g1, g2⟩ := seen_char (A := A) (S := nI 0) (V := nI 0) (Q := nI (ky e)) (t := 2147483647) many
    have hmax : ∀ x : Int32, x ≤ 2147483647 := fun x => by
      rw [Int32.le_iff_toInt_le]
      have := x.toInt_lt
      have e : (2147483647 : Int32).toInt = 2147483647 := by decide
      omega
    have e1 := rsC_S hS (q := plcL (nI 0) (nI 0) (nI (ky e))) (u := 2147483647)
    have e2 := seen_S hR hv (S := nI 0) (W := nI 0) (Q := nI (ky e)) (t := 2147483647) (rg_nI (by omega) k2)
    cases hs : seenN A (nI 0) (nI 0) (nI (ky e)) 2147483647 many with
    | none => exact absurd ⟨z1, h17, k1, hmax _⟩ (g1 hs e he)
    | some b' =>
      have g3 := (g2 b' hs).2.2 e he ⟨z1, h17, k1, hmax _⟩
      rw [hs] at e2
      rw [← e2] at e1
      unfold lateB lsC
      cases hx : rsC I J cs (plcL (nI 0) (nI 0) (nI (ky e))) 2147483647 with
      | none => rw [hx] at e1; cases e1
      | some e' =>
        rw [hx] at e1
        have e1 : entC I R e' = nrmE (entA A b') := Option.some.inj e1
        have h4 : I 4 e' = A 19 b' := by
          have := congrArg eT e1
          rw [(nrm_S _).2.2.2.1] at this
          exact this
        rw [Bool.and_eq_true, decide_eq_true_iff, decide_eq_true_iff]
        refine ⟨hw, ?_⟩
        show I 448 (ti j) < I 4 e'
        rw [c5, h4]
        exact Int32.lt_of_lt_of_le z2 g3
set_option maxRecDepth 100000 in
set_option maxHeartbeats 4000000 in
theorem bat_S (h : Sim K I J R A B Ln n a m cs fs s many tn la ti pn px pe ixn ie rn p) (hmd : s.2.2 < 2147483648) {j : Nat} (hj : j < tn) : bcL I J R A B cs (ti j) la ie ixn 32 = batA A j many la ie ixn 32 := by
  obtain ⟨hm5, -, hv⟩ := h.vld hmd
  obtain ⟨hH, hM, hR, hT, -, -, -, -, hE⟩ := h
  have hTj := hT.2.2.2.2.2.2.1 j hj
  have hS := hH.2.1
  unfold bcL batA batL
  refine fm_cg (fun k hk => ?_)
  have hk := List.mem_range.mp hk
  obtain ⟨a1, a2⟩ := row_at hS hR hv hk (u := nI la)
  obtain ⟨b1, b2⟩ := row_for hS hR hv hk hTj
  have c8 := hTj.2.2.2.2.2.2.2 k hk
  by_cases hw : A (ti j + 1) k = 0
  · have h27 : ¬ 0 < A 27 (32 * j + k) := by
      rcases c8 with w | w | w
      · rw [w.2]; decide
      · rw [hw] at w; exact absurd w.1 (by decide)
      · rw [hw] at w; exact absurd w.1 (by decide)
    rw [if_neg (by rw [decide_eq_true_iff]; exact fun z => z hw), if_neg (by rw [decide_eq_true_iff]; exact h27)]
  · have h27 : 0 < A 27 (32 * j + k) := by
      rcases c8 with w | w | w
      · exact absurd w.1 hw
      · rw [w.2.1]; decide
      · rw [w.2.1]; decide
    rw [if_pos (by rw [decide_eq_true_iff]; exact hw), if_pos (by rw [decide_eq_true_iff]; exact h27)]
    have er : rfC I J R A B cs (ti j) k = B (ti j + 2) k := by
      unfold rfC
      rw [if_neg hw]
    rw [er] at b1 b2
    show (keyE (raC I J R cs (nI k) (nI la)).isSome (B (ti j + 2) k).isSome (rwO I (raC I J R cs (nI k) (nI la))) (rwO I (B (ti j + 2) k)) ie k ixn).map (mkE la (rwO I (B (ti j + 2) k))) = (keyE (raN A (nI k) (nI la) many).isSome (rfO A j k many) (rwV A (raN A (nI k) (nI la) many)) (rfV A j k many) ie k ixn).map (mkE la (rfV A j k many))
    rw [a1, b1]
    exact keyE_cg a2 b2
set_option maxRecDepth 100000 in
set_option maxHeartbeats 4000000 in
theorem ra_nm (h : Sim K I J R A B Ln n a m cs fs s many tn la ti pn px pe ixn ie rn p) (hmd : s.2.2 < 2147483648) {q : Nat} (hq : q < 32) {u : Int32} : ∃ nm, nm < 2147483648 ∧ rwV A (raN A (nI q) u many) 2 = nI nm := by
  obtain ⟨hm5, -, hv⟩ := h.vld hmd
  obtain ⟨hH, hM, hR, hT, -, -, -, -, hE⟩ := h
  obtain ⟨a1, a2⟩ := row_at hH.2.1 hR hv hq (u := u)
  rw [← a2 2 (by decide)]
  unfold raC
  cases hx : rsC I J cs (plcL (nI 0) (nI 0) (nI q)) u with
  | none => exact ⟨0, by decide, rfl⟩
  | some e =>
    have he := List.mem_of_find?_eq_some hx
    obtain ⟨-, -, nm, n1, n2⟩ := hE.1 (entC I R e) (by rw [hH.2.1.2.1]; exact List.mem_map_of_mem he)
    exact ⟨nm, n1, n2⟩
theorem rf_nm (h : Sim K I J R A B Ln n a m cs fs s many tn la ti pn px pe ixn ie rn p) (hmd : s.2.2 < 2147483648) {j q : Nat} (hj : j < tn) (hq : q < 32) : ∃ nm, nm < 2147483648 ∧ rfV A j q many 2 = nI nm := by
  obtain ⟨hm5, -, hv⟩ := h.vld hmd
  obtain ⟨nm, n1, n2⟩ := row_nm h hmd hj hq
  obtain ⟨hH, hM, hR, hT, -, -, -, -, hE⟩ := h
  obtain ⟨b1, b2⟩ := row_for hH.2.1 hR hv hq (hT.2.2.2.2.2.2.1 j hj)
  exact ⟨nm, n1, by rw [← b2 2 (by decide)]; exact n2⟩
end C98Q
