section C98N
variable {X : CX} {d : Nat} {K : Nat → Nat} {I : Nat → Nat → Int32} {J : Nat → Nat → Int64} {R : Nat → Nat → Option Nat} {A : Nat → Nat → Int32} {B : Nat → Nat → Option Nat} {Ln : Nat → Nat} {n sl : Nat} {a m : Nat} {cs fs : List Nat} {s : SA} {many tn la : Nat} {ti : Nat → Nat} {pn : Nat} {px : Nat → Nat} {pe : Nat → EX} {ixn : Nat} {ie : Nat → EX} {rn : Nat} {p : PP}
theorem find_cg {p q : Nat → Bool} : ∀ {l : List Nat}, (∀ x ∈ l, p x = q x) → l.find? p = l.find? q
  | [], _ => rfl
  | x :: l, h => by
    have ih := find_cg (fun y hy => h y (List.mem_cons_of_mem _ hy))
    have hx := h x List.mem_cons_self
    cases hb : q x with
    | true => rw [List.find?_cons_of_pos (by rw [hx, hb]), List.find?_cons_of_pos hb]
    | false => rw [List.find?_cons_of_neg (by rw [hx, hb]; decide), List.find?_cons_of_neg (by rw [hb]; decide)]; exact ih
theorem rsC_cg {I' : Nat → Nat → Int32} {J' : Nat → Nat → Int64} (h : ∀ x ∈ cs, J' 3 x = J 3 x ∧ I' 4 x = I 4 x) {q : Int64} {u : Int32} : rsC I' J' cs q u = rsC I J cs q u := by
  unfold rsC
  exact find_cg (fun x hx => by rw [(h x hx).1, (h x hx).2])
/-- whether an entry is a candidate -/
def cdC (I : Nat → Nat → Int32) (J : Nat → Nat → Int64) (R : Nat → Nat → Option Nat) (cs : List Nat) (S : Int32) (lo hi : Int64) (t : Int32) (e : Nat) : Bool := decide (R 5 e ≠ none) && witB (I 0 e) (I 1 e) S lo hi && decide (rsC I J cs (J 3 e) t = some e)
theorem rs_first {t : Int32} {pre l : List Nat} {e : Nat} (hcs : cs = pre ++ e :: l) (hno : ∀ x ∈ pre, I 4 x ≤ t → ¬ J 3 x = J 3 e) : rsC I J cs (J 3 e) t = some e ↔ I 4 e ≤ t := by
  unfold rsC
  have hp : pre.find? (fun x => decide (J 3 x = J 3 e) && decide (I 4 x ≤ t)) = none := by
    rw [List.find?_eq_none]
    intro x hx z
    rw [Bool.and_eq_true, decide_eq_true_iff, decide_eq_true_iff] at z
    exact hno x hx z.2 z.1
  rw [hcs, List.find?_append, hp, Option.none_or]
  constructor
  · intro z
    have := List.find?_some z
    rw [Bool.and_eq_true, decide_eq_true_iff, decide_eq_true_iff] at this
    exact this.2
  · intro z
    exact List.find?_cons_of_pos (p := fun x => decide (J 3 x = J 3 e) && decide (I 4 x ≤ t)) (by show (decide (J 3 e = J 3 e) && decide (I 4 e ≤ t)) = true; rw [decide_eq_true rfl, decide_eq_true z]; rfl)
theorem ct_cd {S t : Int32} {lo hi : Int64} (hO : SrtR I J cs) (hnd : cs.Nodup) : ∀ (l pre : List Nat) (sn : Option Nat), cs = pre ++ l → (∀ b, sn = some b → b ∈ pre ∧ I 4 b ≤ t) → (∀ x ∈ pre, I 4 x ≤ t → ∃ b, sn = some b ∧ ¬ J 3 b < J 3 x) → ctF I J R S lo hi t l sn = l.countP (cdC I J R cs S lo hi t)
  | [], _, _, _, _, _ => rfl
  | e :: l, pre, sn, hcs, h1, h2 => by
    have hO' := hO
    unfold SrtR at hO'
    rw [hcs, List.pairwise_append] at hO'
    obtain ⟨-, q2, q3⟩ := hO'
    have hcs' : cs = (pre ++ [e]) ++ l := by rw [hcs]; simp
    have hne : e ∉ pre := fun z => by
      rw [hcs, List.nodup_append] at hnd
      exact hnd.2.2 e z e List.mem_cons_self rfl
    rw [ctF, List.countP_cons]
    by_cases hc : ¬ t < I 4 e ∧ (∀ b, sn = some b → ¬ J 3 b = J 3 e)
    · rw [if_pos hc]
      have hle : I 4 e ≤ t := Int32.not_lt.mp hc.1
      have hno : ∀ x ∈ pre, I 4 x ≤ t → ¬ J 3 x = J 3 e := fun x hx hxt z => by
        obtain ⟨b, hb, hxb⟩ := h2 x hx hxt
        have hbe := q3 b (h1 b hb).1 e List.mem_cons_self
        have hnb := hc.2 b hb
        rw [befL_iff] at hbe
        rcases hbe with w | ⟨w, -⟩
        · rw [z] at hxb; exact hxb w
        · exact hnb w
      have hrs := (rs_first hcs hno).mpr hle
      rw [ct_cd hO hnd l (pre ++ [e]) (some e) hcs' (fun b hb => by cases hb; exact ⟨by simp, hle⟩) (fun x hx hxt => ⟨e, rfl, by
        rcases List.mem_append.mp hx with hx | hx
        · have hb := q3 x hx e List.mem_cons_self
          rw [befL_iff] at hb
          intro y
          rcases hb with w | ⟨w, -⟩
          · exact Int64.lt_irrefl (Int64.lt_trans y w)
          · rw [w] at y; exact Int64.lt_irrefl y
        · rw [List.mem_singleton.mp hx]; exact Int64.lt_irrefl⟩)]
      have hcd : cdC I J R cs S lo hi t e = (decide (R 5 e ≠ none) && witB (I 0 e) (I 1 e) S lo hi) := by
        unfold cdC
        rw [decide_eq_true hrs, Bool.and_true]
      rw [hcd, Nat.add_comm]
      congr 1
      by_cases z : R 5 e ≠ none ∧ witB (I 0 e) (I 1 e) S lo hi = true
      · rw [if_pos z, decide_eq_true z.1, z.2]; rfl
      · rw [if_neg z, if_neg]
        intro y
        rw [Bool.and_eq_true, decide_eq_true_iff] at y
        exact z y
    · rw [if_neg hc]
      have hcd : cdC I J R cs S lo hi t e = false := by
        unfold cdC
        rw [decide_eq_false (p := rsC I J cs (J 3 e) t = some e), Bool.and_false]
        intro z
        have hle : I 4 e ≤ t := by
          have := List.find?_some z
          rw [Bool.and_eq_true, decide_eq_true_iff, decide_eq_true_iff] at this
          exact this.2
        have hex : ∃ b, sn = some b ∧ J 3 b = J 3 e := by
          by_cases y : ∃ b, sn = some b ∧ J 3 b = J 3 e
          · exact y
          · exact absurd ⟨Int32.not_lt.mpr hle, fun b hb w => y ⟨b, hb, w⟩⟩ hc
        obtain ⟨b, hb, hbe⟩ := hex
        obtain ⟨hb1, hb2⟩ := h1 b hb
        unfold rsC at z
        rw [hcs, List.find?_append] at z
        cases hf : pre.find? (fun x => decide (J 3 x = J 3 e) && decide (I 4 x ≤ t)) with
        | none =>
          have := List.find?_eq_none.mp hf b hb1
          rw [decide_eq_true hbe, decide_eq_true hb2] at this
          exact this rfl
        | some y =>
          rw [hf, Option.some_or] at z
          cases z
          exact hne (List.mem_of_find?_eq_some hf)
      rw [hcd, if_neg (by decide), Nat.add_zero]
      refine ct_cd hO hnd l (pre ++ [e]) sn hcs' (fun b hb => ⟨List.mem_append_left _ (h1 b hb).1, (h1 b hb).2⟩) (fun x hx hxt => ?_)
      rcases List.mem_append.mp hx with hx | hx
      · exact h2 x hx hxt
      · have hxe := List.mem_singleton.mp hx
        subst hxe
        have hex : ∃ b, sn = some b ∧ J 3 b = J 3 x := by
          by_cases y : ∃ b, sn = some b ∧ J 3 b = J 3 x
          · exact y
          · exact absurd ⟨Int32.not_lt.mpr hxt, fun b hb w => y ⟨b, hb, w⟩⟩ hc
        obtain ⟨b, hb, hbe⟩ := hex
        exact ⟨b, hb, by rw [hbe]; exact Int64.lt_irrefl⟩
theorem cand_S (h : CsR K I J R B Ln n a m cs fs s) (hR : RfR I A many s) (hv : SaV s) (hE : SmE s la) {j : Nat} {pp : PP} (hp3 : ∀ i, pp.1 = some i → i < 3) : cnt (candB A many j pp) many = ccN I J R cs (A 26 j) pp := by
  haveI hdec : ∀ (a b : Option EE), Decidable (a = b) := fun a b => Classical.propDecidable _
  have hO := h.1.2.2.1
  have hnd := h.1.1.2.2.1.1
  have key : ∀ S lo hi, (∀ e ∈ cs, witB (I 0 e) (I 1 e) S lo hi = (match pp.1 with | none => decide (I 0 e = 0) | some i => decide (I 0 e = nI (i + 1) ∧ ¬ (I 1 e).toInt64 < pp.2.1 ∧ ¬ pp.2.2 < (I 1 e).toInt64))) → cnt (candB A many j pp) many = ctF I J R S lo hi (A 26 j) cs none := by
    intro S lo hi hw
    rw [ct_cd hO hnd cs [] none rfl (fun b hb => by cases hb) (fun x hx => by cases hx)]
    let g : EE → Bool := fun x => (match pp.1 with | none => decide (eS x = 0) | some i => decide (eS x = nI (i + 1) ∧ ¬ (eV x).toInt64 < pp.2.1 ∧ ¬ pp.2.2 < (eV x).toInt64)) && decide (¬ eL x = 0) && decide (rwS s (plc x) (A 26 j) = some x)
    have e1 : cs.countP (cdC I J R cs S lo hi (A 26 j)) = s.1.countP g := by
      rw [h.2.1, List.countP_map]
      refine List.countP_congr (fun e he => ?_)
      have hrs : rsC I J cs (J 3 e) (A 26 j) = some e ↔ rwS s (plc (entC I R e)) (A 26 j) = some (entC I R e) := by
        rw [plc_ent h.1 he, ← rsC_S h]
        constructor
        · intro z; rw [z]; rfl
        · intro z
          cases hx : rsC I J cs (J 3 e) (A 26 j) with
          | none => rw [hx] at z; cases z
          | some y =>
            rw [hx] at z
            have z : entC I R y = entC I R e := Option.some.inj z
            have hy := List.mem_of_find?_eq_some hx
            by_cases hye : y = e
            · rw [hye]
            · exfalso
              have hpl : J 3 y = J 3 e := by rw [← plc_ent h.1 hy, ← plc_ent h.1 he, z]
              have hst : I 4 y = I 4 e := congrArg eT z
              obtain ⟨iy, hiy, rfl⟩ := List.getElem_of_mem hy
              obtain ⟨ix, hix, rfl⟩ := List.getElem_of_mem he
              unfold SrtR at hO
              rw [List.pairwise_iff_getElem] at hO
              rcases Nat.lt_trichotomy iy ix with c | c | c
              · have := hO iy ix hiy hix c
                rw [hpl, hst] at this
                exact befL_irr this
              · subst c; exact hye rfl
              · have := hO ix iy hix hiy c
                rw [hpl, hst] at this
                exact befL_irr this
      show cdC I J R cs S lo hi (A 26 j) e = true ↔ g (entC I R e) = true
      show _ ↔ ((match pp.1 with | none => decide (I 0 e = 0) | some i => decide (I 0 e = nI (i + 1) ∧ ¬ (I 1 e).toInt64 < pp.2.1 ∧ ¬ pp.2.2 < (I 1 e).toInt64)) && decide (¬ lvR R e = 0) && decide (rwS s (plc (entC I R e)) (A 26 j) = some (entC I R e))) = true
      unfold cdC
      rw [hw e he, decide_eq_decide.mpr hrs]
      have hl : decide (R 5 e ≠ none) = decide (¬ lvR R e = 0) := by
        unfold lvR
        refine decide_eq_decide.mpr ?_
        by_cases z : R 5 e = none
        · rw [if_pos z]; exact ⟨fun y => absurd z y, fun y => absurd rfl y⟩
        · rw [if_neg z]; exact ⟨fun _ => by decide, fun _ => z⟩
      rw [hl, Bool.and_comm (decide (¬ lvR R e = 0))]
    have e2 : cnt (candB A many j pp) many = s.1.countP g := by
      rw [cnt_range, ← hR.2.1.countP_eq, List.countP_map]
      refine List.countP_congr (fun e he => ?_)
      have he := List.mem_range.mp he
      obtain ⟨n1, n2, n3, n4, n5, n6⟩ := nrm_S (entA A e)
      have hsn : seenN A (A 16 e) (A 17 e) (A 18 e) (A 26 j) many = some e ↔ rwS s (plc (nrmE (entA A e))) (A 26 j) = some (nrmE (entA A e)) := by
        rw [plc_nrm, show plc (entA A e) = plcL (A 16 e) (A 17 e) (A 18 e) from rfl, ← seen_S hR hv (hR.rg hv he)]
        constructor
        · intro z; rw [z]; rfl
        · intro z
          cases hx : seenN A (A 16 e) (A 17 e) (A 18 e) (A 26 j) many with
          | none => rw [hx] at z; cases z
          | some y =>
            rw [hx] at z
            have z : nrmE (entA A y) = nrmE (entA A e) := Option.some.inj z
            have hy := seenN_lt hx
            by_cases hye : y = e
            · rw [hye]
            · exfalso
              rcases hR.inj hv hy he hye with w | w
              · rw [← bfE_nrm, z] at w; exact befL_irr w
              · rw [← bfE_nrm, z] at w; exact befL_irr w
      show candB A many j pp e = true ↔ g (nrmE (entA A e)) = true
      have hg : g (nrmE (entA A e)) = candB A many j pp e := by
        show ((match pp.1 with | none => decide (eS (nrmE (entA A e)) = 0) | some i => decide (eS (nrmE (entA A e)) = nI (i + 1) ∧ ¬ (eV (nrmE (entA A e))).toInt64 < pp.2.1 ∧ ¬ pp.2.2 < (eV (nrmE (entA A e))).toInt64)) && decide (¬ eL (nrmE (entA A e)) = 0) && decide (rwS s (plc (nrmE (entA A e))) (A 26 j) = some (nrmE (entA A e)))) = _
        rw [n1, n2, n5, ← decide_eq_decide.mpr hsn]
        unfold candB mineB
        rfl
      rw [hg]
    rw [e1, e2]
  unfold ccN
  cases hpp : pp.1 with
  | none =>
    refine key (nI 0) 0 0 (fun e he => ?_)
    rw [hpp]
    unfold witB
    refine decide_eq_decide.mpr ⟨fun z => z.1, fun z => ⟨z, ?_⟩⟩
    have hx := (hE.1 (entC I R e) (by rw [h.2.1]; exact List.mem_map_of_mem he)).2.1 z
    have hx : I 1 e = 0 := hx
    rw [hx]
    decide
  | some i =>
    refine key (nI (i + 1)) pp.2.1 pp.2.2 (fun e he => ?_)
    rw [hpp]
    rfl
end C98N
