section C98O
variable {X : CX} {d : Nat} {K : Nat → Nat} {I : Nat → Nat → Int32} {J : Nat → Nat → Int64} {R : Nat → Nat → Option Nat} {A : Nat → Nat → Int32} {B : Nat → Nat → Option Nat} {Ln : Nat → Nat} {n sl : Nat} {a m : Nat} {cs fs : List Nat} {s : SA} {many tn la : Nat} {ti : Nat → Nat} {pn : Nat} {px : Nat → Nat} {pe : Nat → EX} {ixn : Nat} {ie : Nat → EX} {rn : Nat} {p : PP}
set_option maxRecDepth 100000 in
set_option maxHeartbeats 4000000 in
theorem Sim.qy {K' : Nat → Nat} {I' : Nat → Nat → Int32} {J' : Nat → Nat → Int64} {R' : Nat → Nat → Option Nat} {A' : Nat → Nat → Int32} {n' pn' rn' : Nat} {p' : PP} (h : Sim K I J R A B Ln n a m cs fs s many tn la ti pn px pe ixn ie rn p) (hn' : n ≤ n') (hK : ∀ i, i < n → K' i = K i) (hJ : ∀ f i, i < n → i ≠ 11 → J' f i = J f i) (hI : ∀ f i, i < n → ¬ (i = 3 ∧ (f = 513 ∨ f = 521 ∨ f = 522 ∨ f = 524)) → ¬ (i = 11 ∧ (f = 576 ∨ f = 603 ∨ f = 604 ∨ f = 605 ∨ f = 608)) → I' f i = I f i) (hRR : ∀ f i, i < n → ¬ (i = 3 ∧ f = 523) → R' f i = R f i) (hA : ∀ i, i ≠ 10 → i ≠ 29 → i ≠ 30 → i ≠ 31 → A' i = A i) (hF : FrH I' J' R' A' B n') (hFK : FrK K' n') (hRe : SmR I' A' rn') (hL : SmL K' I' J' R' p') (h513 : I' 513 3 = nI pn') (h576 : I' 576 11 = nI pn') (hpn : pn' ≤ pn) : Sim K' I' J' R' A' B Ln n' a m cs fs s many tn la ti pn' px pe ixn ie rn' p' := by
  obtain ⟨hH, hM, hRf, hT, ⟨p1, p2, p3, p4⟩, ⟨⟨x1, x2, x3⟩, x4, x5⟩, -, -, hE⟩ := h
  have hn := hH.2.2.2.2
  have hC := hH.1
  have k11 := hM.1
  have hN : NsF K I J R B Ln n K' I' J' R' B Ln n' := ⟨hn', fun i hi => ⟨hK i hi, rfl, fun f => by
    by_cases z : i = 11
    · exact Or.inr z
    · exact Or.inl (hJ f i hi z), fun h3 h11 _ f => hI f i hi (fun z => h3 z.1) (fun z => h11 z.1), fun f hf => hRR f i hi hf, fun _ => rfl⟩⟩
  have i3 : ∀ f, f ≠ 513 → f ≠ 521 → f ≠ 522 → f ≠ 524 → I' f 3 = I f 3 := fun f a1 a2 a3 a4 => hI f 3 (by omega) (by omega) (by omega)
  have i11 : ∀ f, f ≠ 576 → f ≠ 603 → f ≠ 604 → f ≠ 605 → f ≠ 608 → I' f 11 = I f 11 := fun f a1 a2 a3 a4 a5 => hI f 11 (by omega) (by omega) (by omega)
  have hA2 : ∀ i, i ≠ 10 → i ≤ 28 ∨ 32 ≤ i → A' i = A i := fun i h10 hi => hA i h10 (by omega) (by omega) (by omega)
  refine ⟨hH.ns k11 hN hF hFK, hM.of (fun i hi => hK i (by omega)) (fun _ _ => rfl) (fun f => hRR f 11 (by omega) (by omega)), ?_, ?_, ⟨h513, h576, by omega, fun j hj => ?_⟩, ⟨⟨(i3 _ (by decide) (by decide) (by decide) (by decide)).trans x1, x2, fun i hi => ?_⟩, (i11 _ (by decide) (by decide) (by decide) (by decide) (by decide)).trans x4, fun i hi => ?_⟩, hRe, hL, hE⟩
  · obtain ⟨r1, r2, r3, r4, r5⟩ := hRf
    have eA : ∀ e, entA A' e = entA A e := fun e => by
      unfold entA
      rw [hA2 16 (by omega) (by omega), hA2 17 (by omega) (by omega), hA2 18 (by omega) (by omega), hA2 19 (by omega) (by omega), hA2 20 (by omega) (by omega), hA2 21 (by omega) (by omega), hA2 22 (by omega) (by omega)]
    refine ⟨(i11 _ (by decide) (by decide) (by decide) (by decide) (by decide)).trans r1, ?_, r3.congr (hA2 23 (by omega) (by omega)) (hA2 24 (by omega) (by omega)), (i11 _ (by decide) (by decide) (by decide) (by decide) (by decide)).trans r4, (i11 _ (by decide) (by decide) (by decide) (by decide) (by decide)).trans r5⟩
    simp only [eA]
    exact r2
  · obtain ⟨t1, t3, t4, t5, t6, t7, t8, t9, t10, t11⟩ := hT
    have e25 := hA2 25 (by omega) (by omega)
    have e26 := hA2 26 (by omega) (by omega)
    have e27 := hA2 27 (by omega) (by omega)
    have e28 := hA2 28 (by omega) (by omega)
    refine ⟨t1, (i3 _ (by decide) (by decide) (by decide) (by decide)).trans t3, (i11 _ (by decide) (by decide) (by decide) (by decide) (by decide)).trans t4, (i3 _ (by decide) (by decide) (by decide) (by decide)).trans t5, (i11 _ (by decide) (by decide) (by decide) (by decide) (by decide)).trans t6, t7, fun j hj => ?_, by rw [e25]; exact t9, fun i hi => by rw [e27]; exact t10 i hi, fun q hq => by rw [e27] at hq; rw [e28]; exact t11 q hq⟩
    obtain ⟨c1, c2, ⟨o1, o2, o3, o4, o5, o6, o7, o8⟩, c4, c5, c6, c7, c8⟩ := t8 j hj
    have it : ∀ f, I' f (ti j) = I f (ti j) := fun f => hI f _ (by omega) (by omega) (by omega)
    refine ⟨c1, ⟨c2.1, by omega⟩, ⟨(hK _ (by omega)).trans o1, (hRR _ _ (by omega) (by omega)).trans o2, (hK _ (by omega)).trans o3, o4, (hRR _ _ (by omega) (by omega)).trans o5, (hK _ (by omega)).trans o6, o7, fun k hk r hr => ?_⟩, by rw [it, e25]; exact c4, by rw [it, e26]; exact c5, by rw [e26]; exact c6, by rw [it, e27]; exact c7, fun k hk => ?_⟩
    · have h3 := o8 k hk r hr
      have hrn : r < n := by
        by_cases z : r < n
        · exact z
        · have := hH.2.2.2.1 r (by omega); omega
      exact (hK r hrn).trans h3
    · have hw := c8 k hk
      unfold WrJ at hw ⊢
      rw [e27, e28, hA2 (ti j + 1) (by omega) (by omega)]
      rcases hw with w | ⟨w1, w2, r, w3, w4, w5⟩ | w
      · exact Or.inl w
      · have h3 := o8 k hk r w3
        exact Or.inr (Or.inl ⟨w1, w2, r, w3, by omega, fun f hf => by rw [hI _ r w4 (fun z => by rw [z.1, hC.m] at h3; omega) (fun z => by rw [z.1, k11] at h3; omega)]; exact w5 f hf⟩)
      · exact Or.inr (Or.inr w)
  · obtain ⟨z1, z2, z3, z4⟩ := p4 j (by omega)
    refine ⟨z1, Sim.expr hH k11 hN z2, ?_, by rw [hA2 15 (by omega) (by omega)]; exact z4⟩
    unfold ExA
    rw [hA2 12 (by omega) (by omega), hA2 13 (by omega) (by omega), hA2 14 (by omega) (by omega)]
    exact z3
  · obtain ⟨x, y1, y2, y3⟩ := x3 i hi
    exact ⟨x, y1, Sim.expr hH k11 hN y2, y3⟩
  · unfold ExA
    rw [hA2 12 (by omega) (by omega), hA2 13 (by omega) (by omega), hA2 14 (by omega) (by omega)]
    exact x5 i hi
theorem row_nm (h : Sim K I J R A B Ln n a m cs fs s many tn la ti pn px pe ixn ie rn p) (hmd : s.2.2 < 2147483648) {j q : Nat} (hj : j < tn) (hq : q < 32) : ∃ nm, nm < 2147483648 ∧ rwO I (rfC I J R A B cs (ti j) q) 2 = nI nm := by
  obtain ⟨hm5, -, hv⟩ := h.vld hmd
  obtain ⟨hH, hM, hR, hT, -, -, -, -, hE⟩ := h
  obtain ⟨-, -, -, -, -, -, t8, -, -, t11⟩ := hT
  have hTj := t8 j hj
  obtain ⟨-, -, -, -, hb, -, -, hW⟩ := hTj
  unfold rfC
  rcases hW q hq with ⟨w1, w2⟩ | ⟨w1, w2, r, w3, w4, w5⟩ | ⟨w1, w2, w3⟩
  · rw [if_pos w1]
    unfold raC
    cases hx : rsC I J cs (plcL (nI 0) (nI 0) (nI q)) (I 448 (ti j)) with
    | none => exact ⟨0, by decide, rfl⟩
    | some e =>
      have he := List.mem_of_find?_eq_some hx
      obtain ⟨-, -, nm, n1, n2⟩ := hE.1 (entC I R e) (by rw [hH.2.1.2.1]; exact List.mem_map_of_mem he)
      exact ⟨nm, n1, n2⟩
  · rw [if_neg (by rw [w1]; decide), w3]
    obtain ⟨nm, n1, n2⟩ := t11 _ w2
    exact ⟨nm, n1, (w5 2 (by decide)).symm.trans n2⟩
  · rw [if_neg (by rw [w1]; decide), w3]
    exact ⟨0, by decide, rfl⟩
end C98O
