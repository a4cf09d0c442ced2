theorem MFix.of {K K' : Nat → Nat} {R R' : Nat → Nat → Option Nat} {Ln Ln' : Nat → Nat} (h : MFix K R Ln) (hK : ∀ i, i ≤ 33 → K' i = K i) (hL : ∀ i, i ≤ 33 → Ln' i = Ln i) (hR : ∀ f, R' f 11 = R f 11) : MFix K' R' Ln' := by
  unfold MFix at h ⊢
  rw [hR 578, hR 579, hR 580, hR 581, hR 583, hR 584, hR 585, hR 586, hR 587, hR 588, hR 589, hR 591, hR 592, hR 596, hR 597, hR 598, hR 599, hR 600, hR 601, hR 602, hR 611, hR 613, hK 11 (by decide), hK 12 (by decide), hK 13 (by decide), hK 14 (by decide), hK 15 (by decide), hK 16 (by decide), hK 17 (by decide), hK 18 (by decide), hK 19 (by decide), hK 20 (by decide), hK 21 (by decide), hK 22 (by decide), hK 23 (by decide), hK 24 (by decide), hK 25 (by decide), hK 26 (by decide), hK 27 (by decide), hK 28 (by decide), hK 29 (by decide), hK 30 (by decide), hK 31 (by decide), hK 32 (by decide), hK 33 (by decide), hL 12 (by decide), hL 13 (by decide), hL 14 (by decide), hL 15 (by decide), hL 16 (by decide), hL 17 (by decide), hL 18 (by decide), hL 19 (by decide), hL 20 (by decide), hL 21 (by decide), hL 22 (by decide), hL 23 (by decide), hL 24 (by decide), hL 25 (by decide), hL 26 (by decide), hL 27 (by decide), hL 28 (by decide), hL 29 (by decide), hL 30 (by decide), hL 31 (by decide), hL 32 (by decide), hL 33 (by decide)]
  exact h
/-- what doings that leave the store alone keep of it -/
def NsF (K : Nat → Nat) (I : Nat → Nat → Int32) (J : Nat → Nat → Int64) (R B : Nat → Nat → Option Nat) (Ln : Nat → Nat) (n : Nat) (K' : Nat → Nat) (I' : Nat → Nat → Int32) (J' : Nat → Nat → Int64) (R' B' : Nat → Nat → Option Nat) (Ln' : Nat → Nat) (n' : Nat) : Prop := n ≤ n' ∧ ∀ i, i < n → K' i = K i ∧ Ln' i = Ln i ∧ (∀ f, J' f i = J f i ∨ i = 11) ∧ (i ≠ 3 → i ≠ 11 → K i ≠ 7 → ∀ f, I' f i = I f i) ∧ (∀ f, ¬ (i = 3 ∧ f = 523) → R' f i = R f i) ∧ (i = 8 ∨ K i = 106 → B' i = B i)
theorem HpC.ns {K K' : Nat → Nat} {I I' : Nat → Nat → Int32} {J J' : Nat → Nat → Int64} {R R' : Nat → Nat → Option Nat} {A A' : Nat → Nat → Int32} {B B' : Nat → Nat → Option Nat} {Ln Ln' : Nat → Nat} {n n' a m : Nat} {cs fs : List Nat} {s : SA} (h : HpC K I J R A B Ln n a m cs fs s) (h11 : K 11 = 9) (hN : NsF K I J R B Ln n K' I' J' R' B' Ln' n') (hF : FrH I' J' R' A' B' n') (hK : FrK K' n') : HpC K' I' J' R' A' B' Ln' n' a m cs fs s := by
  obtain ⟨hC, hS, hF0, hK0, hn⟩ := h
  obtain ⟨kE, kF⟩ := CsR.kinds hS.1
  obtain ⟨⟨⟨⟨e1, e2, e3⟩, sA, sN, s4, s5, s6, s7, s8, s9, s10⟩, hp, hO, hrw⟩, hL, hfl⟩ := hS
  obtain ⟨n1, n2⟩ := hN
  have hE : ∀ e ∈ cs, (∀ f, I' f e = I f e) ∧ (∀ f, R' f e = R f e) ∧ (∀ f, J' f e = J f e) := fun e he => by
    obtain ⟨z1, z2, z3⟩ := kE e he
    obtain ⟨y1, y2, y3, y4, y5, y6⟩ := n2 e z2
    exact ⟨y4 (by omega) (by omega) (by omega), fun f => y5 f (by omega), fun f => (y3 f).resolve_right (by omega)⟩
  have hFl : ∀ g ∈ fs, (∀ f, I' f g = I f g) ∧ (∀ f, R' f g = R f g) := fun g hg => by
    obtain ⟨z1, z2, z3⟩ := kF g hg
    obtain ⟨y1, y2, y3, y4, y5, y6⟩ := n2 g z2
    exact ⟨y4 (by omega) (by omega) (by omega), fun f => y5 f (by omega)⟩
  obtain ⟨a1, a2, a3, a4, a5, a6⟩ := n2 7 (by omega)
  obtain ⟨b1, b2, b3, b4, b5, b6⟩ := n2 9 (by omega)
  have i7 := a4 (by decide) (by decide) (by rw [hC.K_st]; decide)
  have i9 := b4 (by decide) (by decide) (by rw [hC.K_al]; decide)
  have hC' : CFix K' R' Ln' := hC.of (fun i hi => (n2 i (by omega)).1) (fun i hi => (n2 i (by omega)).2.1) (fun f hf => (n2 3 (by omega)).2.2.2.2.1 f (by omega)) (a5 _ (by omega)) (a5 _ (by omega))
  have hrow : ∀ e ∈ cs, rwO I' (R 5 e) = rwO I (R 5 e) := fun e he => by
    cases hr : R 5 e with
    | none => rfl
    | some r =>
      obtain ⟨r1, r2⟩ := hrw e he r hr
      obtain ⟨y1, y2, y3, y4, y5, y6⟩ := n2 r r2
      funext f
      show I' (192 + f) r = I (192 + f) r
      exact y4 (fun z => by rw [z, hC.m] at r1; omega) (fun z => by rw [z, h11] at r1; omega) (by omega) _
  have hent : ∀ e ∈ cs, entC I' R' e = entC I R e := fun e he => by
    obtain ⟨z1, z2, z3⟩ := hE e he
    unfold entC lvR nuF
    rw [z1, z1, z1, z1, z2, z2, hrow e he]
    have : nmO I' (R 6 e) = nmO I (R 6 e) := nmO_congr (fun f hf => (hFl f (s8 e he f hf)).1 320)
    rw [this]
  refine ⟨hC', ⟨⟨⟨⟨(i7 _).trans e1, e2, fun j e hj => ?_⟩, ?_, sN, fun e he => ?_, fun g hg => ?_, (i7 _).trans s6, ?_, fun e he f hf => ?_, fun g hg => ?_, fun f hf g hg z => ?_⟩, fun e he => ?_, ?_, fun e he r hr => ?_⟩, ?_, ?_⟩, hF, hK, by omega⟩
  · obtain ⟨z1, z2⟩ := e3 j e hj
    exact ⟨by rw [(n2 8 (by omega)).2.2.2.2.2 (Or.inl rfl)]; exact z1, by rw [(n2 e (kE e (List.mem_of_getElem? hj)).2.1).1]; exact z2⟩
  · obtain ⟨q1, q2, q3, q4, q5, q6⟩ := sA
    refine ⟨(i9 _).trans q1, (b5 _ (by omega)).trans q2, ?_, q4, q5, fun j f hj => ?_⟩
    · rcases q3 with z | ⟨z1, z2, z3, z4, z5⟩
      · exact Or.inl z
      · exact Or.inr ⟨z1, by omega, by rw [(n2 a z2).1]; exact z3, by rw [(n2 a z2).2.1]; exact z4, z5⟩
    · obtain ⟨z1, z2⟩ := q6 j f hj
      have hfm := List.mem_of_getElem? hj
      refine ⟨?_, by rw [(n2 f (kF f hfm).2.1).1]; exact z2⟩
      rcases q3 with ⟨-, z⟩ | ⟨y1, y2, y3, y4, y5⟩
      · have := List.length_pos_of_mem hfm; omega
      · rw [(n2 a y2).2.2.2.2.2 (Or.inr y3)]; exact z1
  · have := s4 e he; omega
  · have := s5 g hg; omega
  · rw [i7, s7]
    congr 1
    exact (List.countP_congr (fun e he => by unfold memB; rw [(hE e he).2.1 6])).symm
  · rw [(hE e he).2.1 6] at hf; exact s8 e he f hf
  · obtain ⟨z1, z2, k, k1, k2, k3⟩ := s9 g hg
    obtain ⟨y1, y2⟩ := hFl g hg
    exact ⟨(y1 _).trans z1, z2.congr (fun e he => by rw [(hE e he).2.1 6]) (y1 _) (y2 _) (y2 _), k, k1, k2, (y1 _).trans k3⟩
  · rw [(hFl f hf).1, (hFl g hg).1] at z; exact s10 f hf g hg z
  · obtain ⟨z1, z2, z3⟩ := hE e he
    rw [z1, z1, z1, z3]; exact hp e he
  · refine List.Pairwise.imp_of_mem (fun {x y} hx hy z => ?_) hO
    rw [(hE x hx).1, (hE y hy).1, (hE x hx).2.2, (hE y hy).2.2]
    exact z
  · rw [(hE e he).2.1] at hr
    obtain ⟨r1, r2⟩ := hrw e he r hr
    exact ⟨by rw [(n2 r r2).1]; exact r1, by omega⟩
  · rw [hL]; exact (List.map_congr_left hent).symm
  · rw [hfl]; exact (List.map_congr_left (fun g hg => by rw [(hFl g hg).1, (hFl g hg).1])).symm
section C98C
variable {X : CX} {d : Nat} {K : Nat → Nat} {I : Nat → Nat → Int32} {J : Nat → Nat → Int64} {R : Nat → Nat → Option Nat} {A : Nat → Nat → Int32} {B : Nat → Nat → Option Nat} {Ln : Nat → Nat} {n sl : Nat} {a m : Nat} {cs fs : List Nat} {s : SA} {many tn la : Nat} {ti : Nat → Nat} {pn : Nat} {px : Nat → Nat} {pe : Nat → EX} {ixn : Nat} {ie : Nat → EX} {rn : Nat} {p : PP}
theorem Sim.expr {K' : Nat → Nat} {I' : Nat → Nat → Int32} {J' : Nat → Nat → Int64} {R' B' : Nat → Nat → Option Nat} {Ln' : Nat → Nat} {n' : Nat} (hH : HpC K I J R A B Ln n a m cs fs s) (h11 : K 11 = 9) (hN : NsF K I J R B Ln n K' I' J' R' B' Ln' n') {f i : Nat} {e : EX} (he : ExpR K I R f i e) : ExpR K' I' R' f i e := he.congr (fun i hi => by
  have hin : i < n := by
    by_cases z : i < n
    · exact z
    · have := hH.2.2.2.1 i (by omega); omega
  obtain ⟨y1, y2, y3, y4, y5, y6⟩ := hN.2 i hin
  exact ⟨y1.trans hi, y4 (fun z => by rw [z, hH.1.m] at hi; omega) (fun z => by rw [z, h11] at hi; omega) (by omega), fun f => y5 f (fun z => by rw [z.1, hH.1.m] at hi; omega)⟩)
/-- doings with transactions alone -/
theorem Sim.tx {K' : Nat → Nat} {I' : Nat → Nat → Int32} {R' B' : Nat → Nat → Option Nat} {A' : Nat → Nat → Int32} {Ln' : Nat → Nat} {n' tn' : Nat} {ti' : Nat → Nat} (h : Sim K I J R A B Ln n a m cs fs s many tn la ti pn px pe ixn ie rn p) (hN : NsF K I J R B Ln n K' I' J R' B' Ln' n') (h3 : ∀ f, f ≠ 517 → I' f 3 = I f 3) (h11 : ∀ f, f ≠ 595 → I' f 11 = I f 11) (hR3 : R' 523 3 = R 523 3) (hB : B' 4 = B 4 ∧ B' 5 = B 5) (hA : ∀ i, i < 34 → i ≠ 25 → i ≠ 26 → i ≠ 27 → i ≠ 28 → i ≠ 29 → i ≠ 30 → A' i = A i) (hF : FrH I' J R' A' B' n') (hK : FrK K' n') (hT : SmT K' I' R' A' B' Ln' n' tn' la ti') : Sim K' I' J R' A' B' Ln' n' a m cs fs s many tn' la ti' pn px pe ixn ie rn p := by
  obtain ⟨hH, hM, hRf, hT0, hP, hX, hRe, hL, hE⟩ := h
  have hn := hH.2.2.2.2
  have k11 := hM.1
  have hM' : MFix K' R' Ln' := hM.of (fun i hi => (hN.2 i (by omega)).1) (fun i hi => (hN.2 i (by omega)).2.1) (fun f => (hN.2 11 (by omega)).2.2.2.2.1 f (by omega))
  refine ⟨hH.ns k11 hN hF hK, hM', ?_, hT, ?_, ?_, ?_, ?_, hE⟩
  · obtain ⟨r1, r2, r3, r4, r5⟩ := hRf
    have eA : ∀ e, entA A' e = entA A e := fun e => by
      unfold entA
      rw [hA 16 (by decide) (by decide) (by decide) (by decide) (by decide) (by decide) (by decide), hA 17 (by decide) (by decide) (by decide) (by decide) (by decide) (by decide) (by decide), hA 18 (by decide) (by decide) (by decide) (by decide) (by decide) (by decide) (by decide), hA 19 (by decide) (by decide) (by decide) (by decide) (by decide) (by decide) (by decide), hA 20 (by decide) (by decide) (by decide) (by decide) (by decide) (by decide) (by decide), hA 21 (by decide) (by decide) (by decide) (by decide) (by decide) (by decide) (by decide), hA 22 (by decide) (by decide) (by decide) (by decide) (by decide) (by decide) (by decide)]
    refine ⟨(h11 _ (by decide)).trans r1, ?_, r3.congr (hA 23 (by decide) (by decide) (by decide) (by decide) (by decide) (by decide) (by decide)) (hA 24 (by decide) (by decide) (by decide) (by decide) (by decide) (by decide) (by decide)), (h11 _ (by decide)).trans r4, (h11 _ (by decide)).trans r5⟩
    simp only [eA]
    exact r2
  · obtain ⟨p1, p2, p3, p4⟩ := hP
    refine ⟨(h3 _ (by decide)).trans p1, (h11 _ (by decide)).trans p2, p3, fun j hj => ?_⟩
    obtain ⟨z1, z2, z3, z4⟩ := p4 j hj
    refine ⟨by rw [hB.1]; exact z1, Sim.expr hH k11 hN z2, ?_, by rw [hA 15 (by decide) (by decide) (by decide) (by decide) (by decide) (by decide) (by decide)]; exact z4⟩
    unfold ExA
    rw [hA 12 (by decide) (by decide) (by decide) (by decide) (by decide) (by decide) (by decide), hA 13 (by decide) (by decide) (by decide) (by decide) (by decide) (by decide) (by decide), hA 14 (by decide) (by decide) (by decide) (by decide) (by decide) (by decide) (by decide)]
    exact z3
  · obtain ⟨⟨x1, x2, x3⟩, x4, x5⟩ := hX
    refine ⟨⟨(h3 _ (by decide)).trans x1, x2, fun i hi => ?_⟩, (h11 _ (by decide)).trans x4, fun i hi => ?_⟩
    · obtain ⟨x, y1, y2, y3⟩ := x3 i hi
      exact ⟨x, by rw [hB.2]; exact y1, Sim.expr hH k11 hN y2, y3⟩
    · unfold ExA
      rw [hA 12 (by decide) (by decide) (by decide) (by decide) (by decide) (by decide) (by decide), hA 13 (by decide) (by decide) (by decide) (by decide) (by decide) (by decide) (by decide), hA 14 (by decide) (by decide) (by decide) (by decide) (by decide) (by decide) (by decide)]
      exact x5 i hi
  · obtain ⟨z1, z2, z3, z4⟩ := hRe
    exact ⟨(h3 _ (by decide)).trans z1, (h11 _ (by decide)).trans z2, z3, fun j hj => by rw [hA 10 (by decide) (by decide) (by decide) (by decide) (by decide) (by decide) (by decide), hA 31 (by decide) (by decide) (by decide) (by decide) (by decide) (by decide) (by decide)]; exact z4 j hj⟩
  · obtain ⟨⟨l1, lq⟩, l2, l3, l4, l5, l6⟩ := hL
    refine ⟨⟨(h3 _ (by decide)).trans l1, ?_⟩, (h11 _ (by decide)).trans l2, l3, l4, l5, by rw [h3 _ (by decide), h11 _ (by decide)]; exact l6⟩
    rcases lq with ⟨z1, z2⟩ | ⟨z1, q, z2, z3, z4, z5⟩
    · exact Or.inl ⟨z1, hR3.trans z2⟩
    · have hq : q < n := by
        by_cases z : q < n
        · exact z
        · have := hH.2.2.2.1 q (by omega); omega
      exact Or.inr ⟨z1, q, hR3.trans z2, (hN.2 q hq).1.trans z3, z4, z5⟩
end C98C
