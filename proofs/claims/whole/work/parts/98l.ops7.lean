theorem ExA.keep {A A' : Nat → Nat → Int32} {x : Nat} {e : EX} (h : ExA A x e) (h12 : A' 12 x = A 12 x) (hk : ∀ k, k < 15 → A' 13 (15 * x + k) = A 13 (15 * x + k) ∧ A' 14 (15 * x + k) = A 14 (15 * x + k)) : ExA A' x e := by
  obtain ⟨h1, h2, h3⟩ := h
  refine ⟨h12.trans h1, h2, fun k on hk' => ?_⟩
  have := (List.getElem?_eq_some_iff.mp hk').1
  obtain ⟨z1, z2⟩ := hk k (by omega)
  rw [z1, z2]
  exact h3 k on hk'
section C98L
variable {X : CX} {d : Nat} {K : Nat → Nat} {I : Nat → Nat → Int32} {J : Nat → Nat → Int64} {R : Nat → Nat → Option Nat} {A : Nat → Nat → Int32} {B : Nat → Nat → Option Nat} {Ln : Nat → Nat} {n sl : Nat} {a m : Nat} {cs fs : List Nat} {s : SA} {many tn la : Nat} {ti : Nat → Nat} {pn : Nat} {px : Nat → Nat} {pe : Nat → EX} {ixn : Nat} {ie : Nat → EX} {rn : Nat} {p : PP}
set_option maxRecDepth 100000 in
set_option maxHeartbeats 4000000 in
theorem op_index (h : Sim K I J R A B Ln n a m cs fs s many tn la ti pn px pe ixn ie rn p) {P : GH → Prop} (hP0 : P (K, I, J, R, A, B, Ln, n, sl)) (hP : ∀ I' A' B' pn' ixn' ie', Sim K I' J R A' B' Ln n a m cs fs s many tn la ti pn' px pe ixn' ie' rn p → P (K, I', J, R, A', B', Ln, n, sl)) : EvM X mX8_index (d + 60) [rV (some 3)] (K, I, J, R, A, B, Ln, n, sl) (fun r1 G1 => G1.1 11 = 9 ∧ EvM X mX9_index (d + 60) [rV (some 11)] G1 (fun r2 G2 => r2 = r1 ∧ P G2)) := by
  have h0 := h
  obtain ⟨hH, hM, hR, hT, hPi, hX, -⟩ := h
  have hC := hH.1
  have hn := hH.2.2.2.2
  obtain ⟨⟨t1, t2⟩, t3, t4, t5, t6, -⟩ := hT
  obtain ⟨p1, p2, p3, p4⟩ := hPi
  obtain ⟨⟨x1, x2, x3⟩, x4, x5⟩ := hX
  have fno : (pn = 0 ∨ ¬ A 15 (pn - 1) = 0 ∨ ixn = 3 ∨ 0 < la) → EvM X mX9_index (d + 60) [rV (some 11)] (K, I, J, R, A, B, Ln, n, sl) (fun r2 G2 => r2 = some (iV (-1)) ∧ P G2) := fun hz => (sp_index_no (d := d + 60) hM p2 p3 x4 x2 t6 (by omega) hz).mono (fun r G' ⟨h1, h2⟩ => ⟨h1, by rw [h2]; exact hP0⟩)
  show Ev X mX8_index (d + 60) 0 [some (rV (some 3)), none] [] (K, I, J, R, A, B, Ln, n, sl) _
  by_cases hz : pn = 0
  · have fno2 := fno (Or.inl hz)
    subst hz
    refine ev_aload_n dX8_index_0 rfl ?_
    refine ev_callV dX8_index_1 okX8_topOfPile inX8_topOfPile seX8_topOfPile mlX8_64 hC.m (by decide) rfl [] rfl rfl (Nat.le_of_ble_eq_true rfl) (Nat.le_of_ble_eq_true rfl) (cs_top0 hC p1) (fun r_ G_ h_ => ?_)
    obtain ⟨rfl, rfl⟩ := h_
    try dsimp only [Option.toList, List.cons_append, List.nil_append]
    refine ev_astore_nS dX8_index_4 (by decide) rfl ?_
    refine ev_aload_n dX8_index_5 rfl ?_
    refine ev_ifnull 31 dX8_index_6 (by decide) (fun c6 => ?_) (fun x c6 => by cases c6)
    refine ev_iconst (-1) dX8_index_31 (by decide) ?_
    refine ev_ireturn dX8_index_32 rfl ?_
    refine ⟨by first | exact hM.1 | exact h_.1 | exact hM1.1 | exact (hq2.2.1 11 (by omega)).1.trans hM1.1 | exact (y2.2.1 11 (by omega)).1.trans hM.1 | exact (q1.2 11 (by omega)).1.trans hM.1 | exact (va_up_ne _ _ (by omega)).trans hM.1 | exact (va_up_ne _ _ (by omega)).trans ((va_up_ne _ _ (by omega)).trans ((va_up_ne _ _ (by omega)).trans hM.1)), ?_⟩
    exact fno2
  · obtain ⟨q, rfl⟩ : ∃ q, pn = q + 1 := ⟨pn - 1, by omega⟩
    obtain ⟨z1, z2, z3, z4⟩ := p4 q (by omega)
    obtain ⟨op, o1, o2, o3, o4, -⟩ := z2.ty
    have sb := cs_isBool (X := X) (d := d + 59) (J := J) (R := R) (A := A) (B := B) (Ln := Ln) (n := n) (sl := sl) o2 o3 o1
    rw [← o4] at sb
    rw [Nat.add_sub_cancel, z4] at fno
    cases ht : tyE (pe q) with
    | true =>
      rw [ht] at sb fno
      have fno := fno (Or.inr (Or.inl (by decide)))
      refine ev_aload_n dX8_index_0 rfl ?_
      refine ev_callV dX8_index_1 okX8_topOfPile inX8_topOfPile seX8_topOfPile mlX8_64 hC.m (by decide) rfl [] rfl rfl (Nat.le_of_ble_eq_true rfl) (Nat.le_of_ble_eq_true rfl) (cs_top1 hC p1 (by omega) z1) (fun r_ G_ h_ => ?_)
      obtain ⟨rfl, rfl⟩ := h_
      try dsimp only [Option.toList, List.cons_append, List.nil_append]
      refine ev_astore_nS dX8_index_4 (by decide) rfl ?_
      refine ev_aload_n dX8_index_5 rfl ?_
      refine ev_ifnull 31 dX8_index_6 (by decide) (fun c6 => by cases c6) (fun x c6 => ?_)
      refine ev_aload_n dX8_index_9 rfl ?_
      refine ev_callV dX8_index_10 okX1_isBool inX1_isBool seX1_isBool mlX8_68 o2 (by decide) rfl [] rfl rfl (Nat.le_of_ble_eq_true rfl) (Nat.le_of_ble_eq_true rfl) (sb) (fun r_ G_ h_ => ?_)
      obtain ⟨rfl, rfl⟩ := h_
      try dsimp only [Option.toList, List.cons_append, List.nil_append]
      refine ev_if_ne 31 dX8_index_13 (by decide) (fun c13 => ?_) (fun c13 => absurd c13 (by decide))
      refine ev_iconst (-1) dX8_index_31 (by decide) ?_
      refine ev_ireturn dX8_index_32 rfl ?_
      refine ⟨by first | exact hM.1 | exact h_.1 | exact hM1.1 | exact (hq2.2.1 11 (by omega)).1.trans hM1.1 | exact (y2.2.1 11 (by omega)).1.trans hM.1 | exact (q1.2 11 (by omega)).1.trans hM.1 | exact (va_up_ne _ _ (by omega)).trans hM.1 | exact (va_up_ne _ _ (by omega)).trans ((va_up_ne _ _ (by omega)).trans ((va_up_ne _ _ (by omega)).trans hM.1)), ?_⟩
      exact fno
    | false =>
      rw [ht] at sb
      by_cases h3 : ixn = 3
      · have fno := fno (Or.inr (Or.inr (Or.inl h3)))
        refine ev_aload_n dX8_index_0 rfl ?_
        refine ev_callV dX8_index_1 okX8_topOfPile inX8_topOfPile seX8_topOfPile mlX8_64 hC.m (by decide) rfl [] rfl rfl (Nat.le_of_ble_eq_true rfl) (Nat.le_of_ble_eq_true rfl) (cs_top1 hC p1 (by omega) z1) (fun r_ G_ h_ => ?_)
        obtain ⟨rfl, rfl⟩ := h_
        try dsimp only [Option.toList, List.cons_append, List.nil_append]
        refine ev_astore_nS dX8_index_4 (by decide) rfl ?_
        refine ev_aload_n dX8_index_5 rfl ?_
        refine ev_ifnull 31 dX8_index_6 (by decide) (fun c6 => by cases c6) (fun x c6 => ?_)
        refine ev_aload_n dX8_index_9 rfl ?_
        refine ev_callV dX8_index_10 okX1_isBool inX1_isBool seX1_isBool mlX8_68 o2 (by decide) rfl [] rfl rfl (Nat.le_of_ble_eq_true rfl) (Nat.le_of_ble_eq_true rfl) (sb) (fun r_ G_ h_ => ?_)
        obtain ⟨rfl, rfl⟩ := h_
        try dsimp only [Option.toList, List.cons_append, List.nil_append]
        refine ev_if_ne 31 dX8_index_13 (by decide) (fun c13 => absurd c13 (fun z => z rfl)) (fun c13 => ?_)
        refine ev_aload_n dX8_index_16 rfl ?_
        refine ev_getIv dX8_index_17 fX8_72 hC.m x1 ?_
        refine ev_iconstN 3 dX8_index_20 (by decide) ?_
        refine ev_icmp_geN 31 dX8_index_21 (by decide) (by omega) (by omega) (fun c21 => ?_) (fun c21 => absurd c21 (by omega))
        refine ev_iconst (-1) dX8_index_31 (by decide) ?_
        refine ev_ireturn dX8_index_32 rfl ?_
        refine ⟨by first | exact hM.1 | exact h_.1 | exact hM1.1 | exact (hq2.2.1 11 (by omega)).1.trans hM1.1 | exact (y2.2.1 11 (by omega)).1.trans hM.1 | exact (q1.2 11 (by omega)).1.trans hM.1 | exact (va_up_ne _ _ (by omega)).trans hM.1 | exact (va_up_ne _ _ (by omega)).trans ((va_up_ne _ _ (by omega)).trans ((va_up_ne _ _ (by omega)).trans hM.1)), ?_⟩
        exact fno
      · by_cases hl : 0 < la
        · have fno := fno (Or.inr (Or.inr (Or.inr hl)))
          refine ev_aload_n dX8_index_0 rfl ?_
          refine ev_callV dX8_index_1 okX8_topOfPile inX8_topOfPile seX8_topOfPile mlX8_64 hC.m (by decide) rfl [] rfl rfl (Nat.le_of_ble_eq_true rfl) (Nat.le_of_ble_eq_true rfl) (cs_top1 hC p1 (by omega) z1) (fun r_ G_ h_ => ?_)
          obtain ⟨rfl, rfl⟩ := h_
          try dsimp only [Option.toList, List.cons_append, List.nil_append]
          refine ev_astore_nS dX8_index_4 (by decide) rfl ?_
          refine ev_aload_n dX8_index_5 rfl ?_
          refine ev_ifnull 31 dX8_index_6 (by decide) (fun c6 => by cases c6) (fun x c6 => ?_)
          refine ev_aload_n dX8_index_9 rfl ?_
          refine ev_callV dX8_index_10 okX1_isBool inX1_isBool seX1_isBool mlX8_68 o2 (by decide) rfl [] rfl rfl (Nat.le_of_ble_eq_true rfl) (Nat.le_of_ble_eq_true rfl) (sb) (fun r_ G_ h_ => ?_)
          obtain ⟨rfl, rfl⟩ := h_
          try dsimp only [Option.toList, List.cons_append, List.nil_append]
          refine ev_if_ne 31 dX8_index_13 (by decide) (fun c13 => absurd c13 (fun z => z rfl)) (fun c13 => ?_)
          refine ev_aload_n dX8_index_16 rfl ?_
          refine ev_getIv dX8_index_17 fX8_72 hC.m x1 ?_
          refine ev_iconstN 3 dX8_index_20 (by decide) ?_
          refine ev_icmp_geN 31 dX8_index_21 (by decide) (by omega) (by omega) (fun c21 => absurd c21 (by omega)) (fun c21 => ?_)
          refine ev_aload_n dX8_index_24 rfl ?_
          refine ev_getIv dX8_index_25 fX8_75 hC.m t5 ?_
          refine ev_if_leN 33 dX8_index_28 (by decide) (by omega) (fun c28 => absurd c28 (by omega)) (fun c28 => ?_)
          refine ev_iconst (-1) dX8_index_31 (by decide) ?_
          refine ev_ireturn dX8_index_32 rfl ?_
          refine ⟨by first | exact hM.1 | exact h_.1 | exact hM1.1 | exact (hq2.2.1 11 (by omega)).1.trans hM1.1 | exact (y2.2.1 11 (by omega)).1.trans hM.1 | exact (q1.2 11 (by omega)).1.trans hM.1 | exact (va_up_ne _ _ (by omega)).trans hM.1 | exact (va_up_ne _ _ (by omega)).trans ((va_up_ne _ _ (by omega)).trans ((va_up_ne _ _ (by omega)).trans hM.1)), ?_⟩
          exact fno
        · have k3 := hC.m
          have e515 : u2 I 513 3 (nI (q + 1 - 1)) 515 3 = nI ixn := by rw [u2_ne1 (by decide)]; exact x1
          have e515' : u2 (u2 I 513 3 (nI (q + 1 - 1))) 515 3 (nI (ixn + 1)) 515 3 = nI (ixn + 1) := u2_self
          have hI : ∀ f i, ¬ (i = 3 ∧ (f = 513 ∨ f = 515)) → u2 (u2 I 513 3 (nI (q + 1 - 1))) 515 3 (nI (ixn + 1)) f i = I f i := fun f i hi => by
            unfold u2; rw [if_neg (fun z => hi ⟨z.2, Or.inr z.1⟩), if_neg (fun z => hi ⟨z.2, Or.inl z.1⟩)]
          have fin : EvM X mX9_index (d + 60) [rV (some 11)] (K, u2 (u2 I 513 3 (nI (q + 1 - 1))) 515 3 (nI (ixn + 1)), J, R, A, u2 B 5 ixn (some (px q)), Ln, n, sl) (fun r2 G2 => r2 = some (iV (nI (ixn + 1 - 1))) ∧ P G2) := (sp_index_yes (d := d + 60) hM ((hI _ 11 (by omega)).trans p2) p3 ((hI _ 11 (by omega)).trans x4) x2 ((hI _ 11 (by omega)).trans t6) (by omega) (by omega) (by rw [Nat.add_sub_cancel, z4, ht]; rfl) (by omega) (by omega)).mono (fun r G' ⟨h1, h2⟩ => ⟨h1, by
            rw [h2]
            have hA : ∀ i j, i ≠ 12 → i ≠ 13 → i ≠ 14 → u2 (cpX A (15 * (q + 1 - 1)) (15 * (8 + ixn)) 15) 12 (8 + ixn) (A 12 (q + 1 - 1)) i j = A i j := fun i j a1 a2 a3 => by
              rw [u2_ne1 a1]; unfold cpX; rw [if_neg (by omega)]
            have hA13 : ∀ i, i = 13 ∨ i = 14 → ∀ j, u2 (cpX A (15 * (q + 1 - 1)) (15 * (8 + ixn)) 15) 12 (8 + ixn) (A 12 (q + 1 - 1)) i j = if 15 * (8 + ixn) ≤ j ∧ j < 15 * (8 + ixn) + 15 then A i (15 * q + (j - 15 * (8 + ixn))) else A i j := fun i hi j => by
              rw [u2_ne1 (by omega)]
              unfold cpX
              by_cases c : 15 * (8 + ixn) ≤ j ∧ j < 15 * (8 + ixn) + 15
              · rw [if_pos ⟨hi, c.1, c.2⟩, if_pos c]; rfl
              · rw [if_neg (fun z => c ⟨z.2.1, z.2.2⟩), if_neg c]
            have hA12 : ∀ j, j ≠ 8 + ixn → u2 (cpX A (15 * (q + 1 - 1)) (15 * (8 + ixn)) 15) 12 (8 + ixn) (A 12 (q + 1 - 1)) 12 j = A 12 j := fun j hj => by
              rw [u2_ne2 hj]; unfold cpX; rw [if_neg (by omega)]
            have keep : ∀ {x : Nat} {e : EX}, x < 8 + ixn → ExA A x e → ExA (u2 (cpX A (15 * (q + 1 - 1)) (15 * (8 + ixn)) 15) 12 (8 + ixn) (A 12 (q + 1 - 1))) x e := fun {x e} hx he => he.keep (hA12 x (by omega)) (fun k hk => ⟨by rw [hA13 13 (Or.inl rfl), if_neg (by omega)], by rw [hA13 14 (Or.inr rfl), if_neg (by omega)]⟩)
            have hI5 : ∀ f i, ¬ (i = 3 ∧ (f = 513 ∨ f = 515)) → ¬ (i = 11 ∧ (f = 576 ∨ f = 577)) → u2 (u2 (u2 (u2 I 513 3 (nI (q + 1 - 1))) 515 3 (nI (ixn + 1))) 576 11 (nI (q + 1 - 1))) 577 11 (nI (ixn + 1)) f i = I f i := fun f i a1 a2 => by
              rw [← hI f i a1]
              conv => lhs; unfold u2
              rw [if_neg (fun z => a2 ⟨z.2, Or.inr z.1⟩), if_neg (fun z => a2 ⟨z.2, Or.inl z.1⟩)]
              rfl
            have hex : ∀ {f i : Nat} {e : EX}, ExpR K I R f i e → ExpR K (u2 (u2 (u2 (u2 I 513 3 (nI (q + 1 - 1))) 515 3 (nI (ixn + 1))) 576 11 (nI (q + 1 - 1))) 577 11 (nI (ixn + 1))) R f i e := fun he => he.congr (fun i hi => ⟨hi, fun f => hI5 f i (fun z => by rw [z.1, k3] at hi; omega) (fun z => by rw [z.1, hM.1] at hi; omega), fun _ => rfl⟩)
            refine hP _ _ _ q (ixn + 1) (fun i => if i = ixn then pe q else ie i) (h0.pix (Nat.le_refl _) (fun _ _ => rfl) (fun f i _ a1 a2 => hI5 f i a1 a2) (fun _ _ _ => rfl) (fun i _ _ a5 => u2_row' a5) (fun i a1 a2 a3 a4 => by funext j; exact hA i j a1 a2 a3) (fun i hi => ?_) hH.2.2.2.1 ⟨?_, ?_, by omega, fun j hj => ?_⟩ ⟨⟨?_, by omega, fun i hi => ?_⟩, u2_self, fun i hi => ?_⟩)
            · obtain ⟨y1, y2, y3, y4, y5⟩ := hH.2.2.1 i hi
              exact ⟨fun f => by rw [hI5 f i (by omega) (by omega)]; exact y1 f, y2, y3, fun j => by rw [hA i j (by omega) (by omega) (by omega)]; exact y4 j, fun j => by rw [u2_row' (by omega)]; exact y5 j⟩
            · rw [u2_ne1 (by decide), u2_ne1 (by decide), u2_ne1 (by decide)]; exact u2_self
            · rw [u2_ne1 (by decide)]; exact u2_self
            · obtain ⟨y1, y2, y3, y4⟩ := p4 j (by omega)
              exact ⟨by rw [u2_row' (by decide)]; exact y1, hex y2, keep (by omega) y3, by rw [hA 15 j (by decide) (by decide) (by decide)]; exact y4⟩
            · rw [u2_ne1 (by decide), u2_ne1 (by decide)]; exact u2_self
            · show ∃ x, (u2 B 5 ixn (some (px q))) 5 i = some x ∧ ExpR K _ R 16 x (if i = ixn then pe q else ie i) ∧ tyE (if i = ixn then pe q else ie i) = false
              by_cases hi' : i = ixn
              · rw [if_pos hi', hi']; exact ⟨px q, u2_self, hex z2, ht⟩
              · rw [if_neg hi']
                obtain ⟨x, y1, y2, y3⟩ := x3 i (by omega)
                exact ⟨x, by rw [u2_ne2 hi']; exact y1, hex y2, y3⟩
            · show ExA _ (8 + i) (if i = ixn then pe q else ie i)
              by_cases hi' : i = ixn
              · rw [if_pos hi', hi']
                obtain ⟨y1, y2, y3⟩ := z3
                refine ⟨by rw [u2_self]; exact y1, y2, fun k on hk => ?_⟩
                have hkl := (List.getElem?_eq_some_iff.mp hk).1
                rw [hA13 13 (Or.inl rfl), hA13 14 (Or.inr rfl), if_pos (by omega), if_pos (by omega), show 15 * q + (15 * (8 + ixn) + k - 15 * (8 + ixn)) = 15 * q + k by omega]
                exact y3 k on hk
              · rw [if_neg hi']; exact keep (by omega) (x5 i (by omega))⟩)
          refine ev_aload_n dX8_index_0 rfl ?_
          refine ev_callV dX8_index_1 okX8_topOfPile inX8_topOfPile seX8_topOfPile mlX8_64 hC.m (by decide) rfl [] rfl rfl (Nat.le_of_ble_eq_true rfl) (Nat.le_of_ble_eq_true rfl) (cs_top1 hC p1 (by omega) z1) (fun r_ G_ h_ => ?_)
          obtain ⟨rfl, rfl⟩ := h_
          try dsimp only [Option.toList, List.cons_append, List.nil_append]
          refine ev_astore_nS dX8_index_4 (by decide) rfl ?_
          refine ev_aload_n dX8_index_5 rfl ?_
          refine ev_ifnull 31 dX8_index_6 (by decide) (fun c6 => by cases c6) (fun x c6 => ?_)
          refine ev_aload_n dX8_index_9 rfl ?_
          refine ev_callV dX8_index_10 okX1_isBool inX1_isBool seX1_isBool mlX8_68 o2 (by decide) rfl [] rfl rfl (Nat.le_of_ble_eq_true rfl) (Nat.le_of_ble_eq_true rfl) (sb) (fun r_ G_ h_ => ?_)
          obtain ⟨rfl, rfl⟩ := h_
          try dsimp only [Option.toList, List.cons_append, List.nil_append]
          refine ev_if_ne 31 dX8_index_13 (by decide) (fun c13 => absurd c13 (fun z => z rfl)) (fun c13 => ?_)
          refine ev_aload_n dX8_index_16 rfl ?_
          refine ev_getIv dX8_index_17 fX8_72 hC.m x1 ?_
          refine ev_iconstN 3 dX8_index_20 (by decide) ?_
          refine ev_icmp_geN 31 dX8_index_21 (by decide) (by omega) (by omega) (fun c21 => absurd c21 (by omega)) (fun c21 => ?_)
          refine ev_aload_n dX8_index_24 rfl ?_
          refine ev_getIv dX8_index_25 fX8_75 hC.m t5 ?_
          refine ev_if_leN 33 dX8_index_28 (by decide) (by omega) (fun c28 => ?_) (fun c28 => absurd c28 (by omega))
          refine ev_aload_n dX8_index_33 rfl ?_
          refine ev_dup dX8_index_34 rfl ?_
          refine ev_getIv dX8_index_35 fX8_47 hC.m p1 ?_
          refine ev_iconstN 1 dX8_index_38 (by decide) ?_
          refine ev_isubN dX8_index_39 (by omega) ?_
          refine ev_putI dX8_index_40 fX8_47 (Or.inl rfl) (Or.inl rfl) hC.m ?_
          refine ev_aload_n dX8_index_43 rfl ?_
          refine ev_getR dX8_index_44 fX8_15 hC.m hC.R_ix ?_
          refine ev_aload_n dX8_index_47 rfl ?_
          refine ev_getIv dX8_index_48 fX8_72 hC.m e515 ?_
          refine ev_aload_n dX8_index_51 rfl ?_
          refine ev_aast (q := 2) dX8_index_52 hC.K_ix (by decide) (by decide) hC.L_ix (by decide) (by omega) o2 (by decide) (Or.inl rfl) ?_
          refine ev_aload_n dX8_index_53 rfl ?_
          refine ev_dup dX8_index_54 rfl ?_
          refine ev_getIv dX8_index_55 fX8_72 hC.m e515 ?_
          refine ev_iconstN 1 dX8_index_58 (by decide) ?_
          refine ev_iaddN dX8_index_59 ?_
          refine ev_putI dX8_index_60 fX8_72 (Or.inl rfl) (Or.inl rfl) hC.m ?_
          refine ev_aload_n dX8_index_63 rfl ?_
          refine ev_getIv dX8_index_64 fX8_72 hC.m e515' ?_
          refine ev_iconstN 1 dX8_index_67 (by decide) ?_
          refine ev_isubN dX8_index_68 (by omega) ?_
          refine ev_ireturn dX8_index_69 rfl ?_
          refine ⟨by first | exact hM.1 | exact h_.1 | exact hM1.1 | exact (hq2.2.1 11 (by omega)).1.trans hM1.1 | exact (y2.2.1 11 (by omega)).1.trans hM.1 | exact (q1.2 11 (by omega)).1.trans hM.1 | exact (va_up_ne _ _ (by omega)).trans hM.1 | exact (va_up_ne _ _ (by omega)).trans ((va_up_ne _ _ (by omega)).trans ((va_up_ne _ _ (by omega)).trans hM.1)), ?_⟩
          exact fin
end C98L
