section C98K
variable {X : CX} {d : Nat} {K : Nat → Nat} {I : Nat → Nat → Int32} {J : Nat → Nat → Int64} {R : Nat → Nat → Option Nat} {A : Nat → Nat → Int32} {B : Nat → Nat → Option Nat} {Ln : Nat → Nat} {n sl : Nat} {a m : Nat} {cs fs : List Nat} {s : SA} {many tn la : Nat} {ti : Nat → Nat} {pn : Nat} {px : Nat → Nat} {pe : Nat → EX} {ixn : Nat} {ie : Nat → EX} {rn : Nat} {p : PP}
set_option maxRecDepth 100000 in
set_option maxHeartbeats 4000000 in
/-- doings with the pile and the indexes -/
theorem Sim.pix {K' : Nat → Nat} {I' : Nat → Nat → Int32} {R' B' : Nat → Nat → Option Nat} {A' : Nat → Nat → Int32} {n' pn' ixn' : Nat} {px' : Nat → Nat} {pe' ie' : Nat → EX} (h : Sim K I J R A B Ln n a m cs fs s many tn la ti pn px pe ixn ie rn p) (hn' : n ≤ n') (hK : ∀ i, i < n → K' i = K i) (hI : ∀ f i, i < n → ¬ (i = 3 ∧ (f = 513 ∨ f = 515)) → ¬ (i = 11 ∧ (f = 576 ∨ f = 577)) → I' f i = I f i) (hRR : ∀ f i, i < n → R' f i = R f i) (hB : ∀ i, i < n → i ≠ 4 → i ≠ 5 → B' i = B i) (hA : ∀ i, i ≠ 12 → i ≠ 13 → i ≠ 14 → i ≠ 15 → A' i = A i) (hF : FrH I' J R' A' B' n') (hFK : FrK K' n') (hP : SmP K' I' R' A' B' pn' px' pe') (hX : SmX K' I' R' A' B' ixn' ie') : Sim K' I' J R' A' B' Ln n' a m cs fs s many tn la ti pn' px' pe' ixn' ie' rn p := by
  obtain ⟨hH, hM, hRf, hT, -, -, hRe, hL, hE⟩ := h
  have hn := hH.2.2.2.2
  have hC := hH.1
  have k11 := hM.1
  have hA2 : ∀ i, i ≤ 11 ∨ 16 ≤ i → A' i = A i := fun i hi => hA i (by omega) (by omega) (by omega) (by omega)
  have hN : NsF K I J R B Ln n K' I' J R' B' Ln n' := ⟨hn', fun i hi => ⟨hK i hi, rfl, fun f => Or.inl rfl, fun h3 h11 _ f => hI f i hi (fun z => h3 z.1) (fun z => h11 z.1), fun f _ => hRR f i hi, fun hz => hB i hi (fun z => by rcases hz with hz | hz; omega; rw [z, hC.K_pile] at hz; omega) (fun z => by rcases hz with hz | hz; omega; rw [z, hC.K_ix] at hz; omega)⟩⟩
  have i3 : ∀ f, f ≠ 513 → f ≠ 515 → I' f 3 = I f 3 := fun f a1 a2 => hI f 3 (by omega) (by omega) (by omega)
  have i11 : ∀ f, f ≠ 576 → f ≠ 577 → I' f 11 = I f 11 := fun f a1 a2 => hI f 11 (by omega) (by omega) (by omega)
  refine ⟨hH.ns k11 hN hF hFK, hM.of (fun i hi => hK i (by omega)) (fun _ _ => rfl) (fun f => hRR f 11 (by omega)), ?_, ?_, hP, hX, ?_, ?_, hE⟩
  · obtain ⟨r1, r2, r3, r4, r5⟩ := hRf
    have eA : ∀ e, entA A' e = entA A e := fun e => by
      unfold entA
      rw [hA2 16 (by omega), hA2 17 (by omega), hA2 18 (by omega), hA2 19 (by omega), hA2 20 (by omega), hA2 21 (by omega), hA2 22 (by omega)]
    refine ⟨(i11 _ (by decide) (by decide)).trans r1, ?_, r3.congr (hA2 23 (by omega)) (hA2 24 (by omega)), (i11 _ (by decide) (by decide)).trans r4, (i11 _ (by decide) (by decide)).trans r5⟩
    simp only [eA]
    exact r2
  · obtain ⟨t1, t3, t4, t5, t6, t7, t8, t9, t10, t11⟩ := hT
    refine ⟨t1, (i3 _ (by decide) (by decide)).trans t3, (i11 _ (by decide) (by decide)).trans t4, (i3 _ (by decide) (by decide)).trans t5, (i11 _ (by decide) (by decide)).trans t6, t7, fun j hj => ?_, by rw [hA2 25 (by omega)]; exact t9, fun i hi => by rw [hA2 27 (by omega)]; exact t10 i hi, fun q hq => by rw [hA2 27 (by omega)] at hq; rw [hA2 28 (by omega)]; exact t11 q hq⟩
    obtain ⟨c1, c2, ⟨o1, o2, o3, o4, o5, o6, o7, o8⟩, c4, c5, c6, c7, c8⟩ := t8 j hj
    have it : ∀ f, I' f (ti j) = I f (ti j) := fun f => hI f _ (by omega) (by omega) (by omega)
    have bt : B' (ti j + 2) = B (ti j + 2) := hB _ (by omega) (by omega) (by omega)
    refine ⟨by rw [hB 6 (by omega) (by decide) (by decide)]; exact c1, ⟨c2.1, by omega⟩, ⟨(hK _ (by omega)).trans o1, (hRR _ _ (by omega)).trans o2, (hK _ (by omega)).trans o3, o4, (hRR _ _ (by omega)).trans o5, (hK _ (by omega)).trans o6, o7, fun k hk r hr => ?_⟩, by rw [it, hA2 25 (by omega)]; exact c4, by rw [it, hA2 26 (by omega)]; exact c5, by rw [hA2 26 (by omega)]; exact c6, by rw [it, hA2 27 (by omega)]; exact c7, fun k hk => ?_⟩
    · rw [bt] at hr
      have h3 := o8 k hk r hr
      have hrn : r < n := by
        by_cases z : r < n
        · exact z
        · have := hH.2.2.2.1 r (by omega); omega
      exact (hK r hrn).trans h3
    · have hw := c8 k hk
      unfold WrJ at hw ⊢
      rw [hA2 27 (by omega), hA2 28 (by omega), hA2 (ti j + 1) (by omega), bt]
      rcases hw with w | ⟨w1, w2, r, w3, w4, w5⟩ | w
      · exact Or.inl w
      · have h3 := o8 k hk r w3
        exact Or.inr (Or.inl ⟨w1, w2, r, w3, by omega, fun f hf => by rw [hI _ r w4 (fun z => by rw [z.1, hC.m] at h3; omega) (fun z => by rw [z.1, k11] at h3; omega)]; exact w5 f hf⟩)
      · exact Or.inr (Or.inr w)
  · obtain ⟨z1, z2, z3, z4⟩ := hRe
    exact ⟨(i3 _ (by decide) (by decide)).trans z1, (i11 _ (by decide) (by decide)).trans z2, z3, fun j hj => by rw [hA2 10 (by omega), hA2 31 (by omega)]; exact z4 j hj⟩
  · obtain ⟨⟨l1, lq⟩, l2, l3, l4, l5, l6⟩ := hL
    refine ⟨⟨(i3 _ (by decide) (by decide)).trans l1, ?_⟩, (i11 _ (by decide) (by decide)).trans l2, l3, l4, l5, by rw [i3 _ (by decide) (by decide), i11 _ (by decide) (by decide)]; exact l6⟩
    rcases lq with ⟨z1, z2⟩ | ⟨z1, q, z2, z3, z4, z5⟩
    · exact Or.inl ⟨z1, (hRR 523 3 (by omega)).trans z2⟩
    · have hq : q < n := by
        by_cases z : q < n
        · exact z
        · have := hH.2.2.2.1 q (by omega); omega
      exact Or.inr ⟨z1, q, (hRR 523 3 (by omega)).trans z2, (hK q hq).trans z3, z4, z5⟩
end C98K
