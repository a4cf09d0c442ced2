def bcL (I : Nat → Nat → Int32) (J : Nat → Nat → Int64) (R : Nat → Nat → Option Nat) (A : Nat → Nat → Int32) (B : Nat → Nat → Option Nat) (cs : List Nat) (t la : Nat) (ie : Nat → EX) (ixn k : Nat) : List EE := batL la (fun k => decide (¬ A (t + 1) k = 0)) (fun k => (raC I J R cs (nI k) (nI la)).isSome) (fun k => (B (t + 2) k).isSome) (fun k => rwO I (raC I J R cs (nI k) (nI la))) (fun k => rwO I (B (t + 2) k)) ie ixn k
theorem nrm_gone {I : Nat → Nat → Int32} {s v k : Int32} {la : Nat} {r : Nat → Int32} : nrmE (mkE la r (s, v, k, 0)) = enN I s v k (nI (la + 1)) none := rfl
theorem nrm_live {I : Nat → Nat → Int32} {s v k : Int32} {la y : Nat} : nrmE (mkE la (rwO I (some y)) (s, v, k, 1)) = enN I s v k (nI (la + 1)) (some y) := rfl
theorem nrm_row {I : Nat → Nat → Int32} {k : Int32} {la : Nat} {o : Option Nat} : nrmE (mkE la (rwO I o) (0, 0, k, bZ o.isSome)) = enN I (nI 0) (nI 0) k (nI (la + 1)) o := by
  cases o <;> rfl
theorem ixE_map {I : Nat → Nat → Int32} {old now : Option Nat} {x y k : Int32} {i la : Nat} : (ixE old.isSome now.isSome x y i k).map (fun z => nrmE (mkE la (rwO I now) z)) = (if goneB old.isSome now.isSome x y = true then [enN I (nI (i + 1)) x k (nI (la + 1)) none] else []) ++ (if goneB now.isSome old.isSome x y = true then [enN I (nI (i + 1)) y k (nI (la + 1)) now] else []) := by
  unfold ixE
  rw [List.map_append]
  congr 1
  · split
    · rfl
    · rfl
  · split
    · rename_i h
      cases now with
      | none => cases h
      | some z => rfl
    · rfl
section C89
variable {X : CX} {d : Nat} {A : Nat → Nat → Int32} {Ln : Nat → Nat}
set_option maxRecDepth 100000 in
set_option maxHeartbeats 4000000 in
theorem lp_ai {Q : Option LV → GH → Prop} {K0 : Nat → Nat} {I0 : Nat → Nat → Int32} {J0 : Nat → Nat → Int64} {R0 B0 : Nat → Nat → Option Nat} {n0 sl0 a m : Nat} {cs0 fs : List Nat} {md la ixn k : Nat} {ie : Nat → EX} (hC0 : CFix K0 R0 Ln) (hn0 : 34 ≤ n0) (hK0 : FrK K0 n0) (hX0 : IxR K0 I0 R0 B0 ixn ie) (hla : la + 1 < 2147483648) (hk : k < 32) {old now : Option Nat} (h1 : ∀ r, old = some r → K0 r = 3 ∧ r < n0) (h2 : ∀ r, now = some r → K0 r = 3 ∧ r < n0) {eb : List EE} (hcap : cs0.length + eb.length + (ixL old.isSome now.isSome (rwO I0 old) (rwO I0 now) ie (nI k) ixn).length ≤ 500)
    (hq : ∀ (K : Nat → Nat) (I : Nat → Nat → Int32) (J : Nat → Nat → Int64) (R B : Nat → Nat → Option Nat) (n sl : Nat) (cs : List Nat), BtI K0 I0 J0 R0 B0 Ln n0 sl0 a m cs0 fs md la A (eb ++ (ixL old.isSome now.isSome (rwO I0 old) (rwO I0 now) ie (nI k) ixn).map (fun z => nrmE (mkE la (rwO I0 now) z))) (NbP k (ixn + 1)) K I J R B n sl cs → Q none (K, I, J, R, A, B, Ln, n, sl)) : ∀ (g i : Nat) (K : Nat → Nat) (I : Nat → Nat → Int32) (J : Nat → Nat → Int64) (R B : Nat → Nat → Option Nat) (n sl : Nat) (cs : List Nat), i + g = ixn → BtI K0 I0 J0 R0 B0 Ln n0 sl0 a m cs0 fs md la A (eb ++ (ixL old.isSome now.isSome (rwO I0 old) (rwO I0 now) ie (nI k) i).map (fun z => nrmE (mkE la (rwO I0 now) z))) (NbP k (i + 1)) K I J R B n sl cs → Ev X mX8_addIndexEntries (d + 19) 3 [some (rV (some 3)), some (iV (nI k)), some (iV (nI (la + 1))), some (rV old), some (rV now), some (iV (nI (i)))] [] (K, I, J, R, A, B, Ln, n, sl) Q := by
  intro g
  have hx3 := hX0.2.1
  induction g with
  | zero =>
    intro i K I J R B n sl cs hi hB
    have e1 : i = ixn := by omega
    subst e1
    have hC := hB.2.1.cfix hn0 hC0
    have hX := hB.2.1.ixr hn0 hK0 hC0.K_st hX0
    have hq := hq K I J R B n sl cs hB
    refine ev_iload dX8_addIndexEntries_3 rfl ?_
    refine ev_aload_n dX8_addIndexEntries_5 rfl ?_
    refine ev_getIv dX8_addIndexEntries_6 fX8_72 hC.m hX.1 ?_
    refine ev_icmp_geN 100 dX8_addIndexEntries_9 (by decide) (by omega) (by omega) (fun c9 => ?_) (fun c9 => absurd c9 (by omega))
    refine ev_return dX8_addIndexEntries_100 rfl ?_
    exact hq
  | succ g ih =>
    intro i K I J R B n sl cs hi hB
    have hC := hB.2.1.cfix hn0 hC0
    have hX := hB.2.1.ixr hn0 hK0 hC0.K_st hX0
    have hmono := ixL_le (had := old.isSome) (has := now.isSome) (ro := rwO I0 old) (rn := rwO I0 now) (ie := ie) (k := nI k) (i := i + 1) (j := g)
    rw [show i + 1 + g = ixn by omega, ixL_s, List.length_append, ixE_len] at hmono
    by_cases h0 : cs0.length + (eb ++ (ixL old.isSome now.isSome (rwO I0 old) (rwO I0 now) ie (nI k) i).map (fun z => nrmE (mkE la (rwO I0 now) z))).length < 500
    · have go : Ev X mX8_addIndexEntries (d + 19) 12 [some (rV (some 3)), some (iV (nI k)), some (iV (nI (la + 1))), some (rV old), some (rV now), some (iV (nI (i)))] [] (K, I, J, R, A, B, Ln, n, sl) Q := by
        refine ai_a hC0 hn0 hK0 hX0 hla hk h1 h2 (show i < ixn by omega) hB h0 ?_
        intro K I J R B n sl cs em' he hB'
        refine ai_b hC0 hn0 hK0 hX0 hla hk h1 h2 (show i < ixn by omega) hB' ?_ ?_
        · cases b2 : goneB now.isSome old.isSome (vlE (rwO I0 old) (ie i)) (vlE (rwO I0 now) (ie i)) with
          | false => exact Or.inr rfl
          | true =>
            left
            rw [b2, if_pos rfl] at hmono
            rw [he, List.length_append, List.length_append, List.length_map]
            split
            · rename_i b1
              rw [b1, if_pos rfl] at hmono
              simp only [List.length_singleton]
              omega
            · rename_i b1
              simp only [List.length_nil]
              split at hmono <;> omega
        · intro K I J R B n sl cs em2 he2 hB2
          refine ih (i + 1) K I J R B n sl cs (by omega) ?_
          rw [ixL_s, List.map_append, ixE_map, ← List.append_assoc, ← List.append_assoc, ← he, ← he2]
          exact hB2
      refine ev_iload dX8_addIndexEntries_3 rfl ?_
      refine ev_aload_n dX8_addIndexEntries_5 rfl ?_
      refine ev_getIv dX8_addIndexEntries_6 fX8_72 hC.m hX.1 ?_
      refine ev_icmp_geN 100 dX8_addIndexEntries_9 (by decide) (by omega) (by omega) (fun c9 => absurd c9 (by omega)) (fun c9 => ?_)
      exact go
    · rw [List.length_append, List.length_map] at h0
      have z1 : goneB old.isSome now.isSome (vlE (rwO I0 old) (ie i)) (vlE (rwO I0 now) (ie i)) = false := by
        cases b : goneB old.isSome now.isSome (vlE (rwO I0 old) (ie i)) (vlE (rwO I0 now) (ie i)) with
        | false => rfl
        | true => rw [b, if_pos rfl] at hmono; omega
      have z2 : goneB now.isSome old.isSome (vlE (rwO I0 old) (ie i)) (vlE (rwO I0 now) (ie i)) = false := by
        cases b : goneB now.isSome old.isSome (vlE (rwO I0 old) (ie i)) (vlE (rwO I0 now) (ie i)) with
        | false => rfl
        | true => rw [b, if_pos rfl] at hmono; omega
      have hgo := ih (i + 1) K I J R B n sl cs (by omega) (by
        rw [ixL_s, List.map_append, ixE_map, z1, z2, if_neg (by decide), if_neg (by decide), List.append_nil, List.append_nil]
        refine hB.weak (fun a b c => ?_) (List.Perm.refl _)
        rintro ⟨kk, ss, y1, y2, y3, y4, y5⟩
        exact ⟨kk, ss, y1, y2, y3, y4, by omega⟩)
      have h7 := hC0.K_st
      have e1 := hB.2.1.rw (fun r hr => ⟨(h1 r hr).2, (h1 r hr).1⟩) h7
      have e2 := hB.2.1.rw (fun r hr => ⟨(h2 r hr).2, (h2 r hr).1⟩) h7
      have k1 : ∀ r, old = some r → K r = 3 := fun r hr => by rw [(hB.2.1.2 r (h1 r hr).2).1]; exact (h1 r hr).1
      have k2 : ∀ r, now = some r → K r = 3 := fun r hr => by rw [(hB.2.1.2 r (h2 r hr).2).1]; exact (h2 r hr).1
      have s1 := cs_hasOwn (X := X) (d := d) (J := J) (A := A) (n := n) (sl := sl) hC hX (show i < ixn by omega) k1 k2
      have s2 := cs_hasOwn (X := X) (d := d) (J := J) (A := A) (n := n) (sl := sl) hC hX (show i < ixn by omega) k2 k1
      rw [e1, e2, z1] at s1
      rw [e1, e2, goneB_sw, z2] at s2
      refine ev_iload dX8_addIndexEntries_3 rfl ?_
      refine ev_aload_n dX8_addIndexEntries_5 rfl ?_
      refine ev_getIv dX8_addIndexEntries_6 fX8_72 hC.m hX.1 ?_
      refine ev_icmp_geN 100 dX8_addIndexEntries_9 (by decide) (by omega) (by omega) (fun c9 => absurd c9 (by omega)) (fun c9 => ?_)
      refine ev_aload_n dX8_addIndexEntries_12 rfl ?_
      refine ev_iload dX8_addIndexEntries_13 rfl ?_
      refine ev_aload_n dX8_addIndexEntries_15 rfl ?_
      refine ev_aload dX8_addIndexEntries_16 rfl ?_
      refine ev_callV dX8_addIndexEntries_18 okX8_hasOwnValue inX8_hasOwnValue seX8_hasOwnValue mlX8_244 hC.m (by decide) rfl [iV _, rV _, rV _] rfl rfl (Nat.le_of_ble_eq_true rfl) (Nat.le_of_ble_eq_true rfl) (s1) (fun r_ G_ h_ => ?_)
      obtain ⟨rfl, rfl⟩ := h_
      try dsimp only [Option.toList, List.cons_append, List.nil_append]
      refine ev_if_eq 52 dX8_addIndexEntries_21 (by decide) (fun c21 => ?_) (fun c21 => absurd c21 (fun z => z rfl))
      refine ev_aload_n dX8_addIndexEntries_52 rfl ?_
      refine ev_iload dX8_addIndexEntries_53 rfl ?_
      refine ev_aload dX8_addIndexEntries_55 rfl ?_
      refine ev_aload_n dX8_addIndexEntries_57 rfl ?_
      refine ev_callV dX8_addIndexEntries_58 okX8_hasOwnValue inX8_hasOwnValue seX8_hasOwnValue mlX8_244 hC.m (by decide) rfl [iV _, rV _, rV _] rfl rfl (Nat.le_of_ble_eq_true rfl) (Nat.le_of_ble_eq_true rfl) (s2) (fun r_ G_ h_ => ?_)
      obtain ⟨rfl, rfl⟩ := h_
      try dsimp only [Option.toList, List.cons_append, List.nil_append]
      refine ev_if_eq 94 dX8_addIndexEntries_61 (by decide) (fun c61 => ?_) (fun c61 => absurd c61 (fun z => z rfl))
      refine ev_iincNS (b := 1) dX8_addIndexEntries_94 rfl (by decide) (by decide) rfl ?_
      refine ev_goto 3 dX8_addIndexEntries_97 (by decide) ?_
      exact hgo
theorem cs_addIdx {K0 : Nat → Nat} {I0 : Nat → Nat → Int32} {J0 : Nat → Nat → Int64} {R0 B0 : Nat → Nat → Option Nat} {n0 sl0 a m : Nat} {cs0 fs : List Nat} {md la ixn k : Nat} {ie : Nat → EX} (hC0 : CFix K0 R0 Ln) (hn0 : 34 ≤ n0) (hK0 : FrK K0 n0) (hX0 : IxR K0 I0 R0 B0 ixn ie) (hla : la + 1 < 2147483648) (hk : k < 32) {old now : Option Nat} (h1 : ∀ r, old = some r → K0 r = 3 ∧ r < n0) (h2 : ∀ r, now = some r → K0 r = 3 ∧ r < n0) {eb : List EE} (hcap : cs0.length + eb.length + (ixL old.isSome now.isSome (rwO I0 old) (rwO I0 now) ie (nI k) ixn).length ≤ 500) {K : Nat → Nat} {I : Nat → Nat → Int32} {J : Nat → Nat → Int64} {R B : Nat → Nat → Option Nat} {n sl : Nat} {cs : List Nat} (hB : BtI K0 I0 J0 R0 B0 Ln n0 sl0 a m cs0 fs md la A eb (NbP k 1) K I J R B n sl cs) : EvM X mX8_addIndexEntries (d + 19) [rV (some 3), iV (nI k), iV (nI (la + 1)), rV old, rV now] (K, I, J, R, A, B, Ln, n, sl) (fun r_ G' => r_ = none ∧ ∃ (K : Nat → Nat) (I : Nat → Nat → Int32) (J : Nat → Nat → Int64) (R B : Nat → Nat → Option Nat) (n sl : Nat) (cs : List Nat), BtI K0 I0 J0 R0 B0 Ln n0 sl0 a m cs0 fs md la A (eb ++ (ixL old.isSome now.isSome (rwO I0 old) (rwO I0 now) ie (nI k) ixn).map (fun z => nrmE (mkE la (rwO I0 now) z))) (NbP k (ixn + 1)) K I J R B n sl cs ∧ G' = (K, I, J, R, A, B, Ln, n, sl)) := by
  have hC := hB.2.1.cfix hn0 hC0
  show Ev X mX8_addIndexEntries (d + 19) 0 [some (rV (some 3)), some (iV (nI k)), some (iV (nI (la + 1))), some (rV old), some (rV now), none] [] (K, I, J, R, A, B, Ln, n, sl) _
  have go := lp_ai (X := X) (d := d) hC0 hn0 hK0 hX0 hla hk h1 h2 hcap (Q := fun r_ G' => r_ = none ∧ ∃ (K : Nat → Nat) (I : Nat → Nat → Int32) (J : Nat → Nat → Int64) (R B : Nat → Nat → Option Nat) (n sl : Nat) (cs : List Nat), BtI K0 I0 J0 R0 B0 Ln n0 sl0 a m cs0 fs md la A (eb ++ (ixL old.isSome now.isSome (rwO I0 old) (rwO I0 now) ie (nI k) ixn).map (fun z => nrmE (mkE la (rwO I0 now) z))) (NbP k (ixn + 1)) K I J R B n sl cs ∧ G' = (K, I, J, R, A, B, Ln, n, sl)) (fun K I J R B n sl cs hB => ⟨rfl, K, I, J, R, B, n, sl, cs, hB, rfl⟩) ixn 0 K I J R B n sl cs (by omega) (by rw [show (ixL old.isSome now.isSome (rwO I0 old) (rwO I0 now) ie (nI k) 0).map (fun z => nrmE (mkE la (rwO I0 now) z)) = [] from rfl, List.append_nil]; exact hB)
  refine ev_iconstN 0 dX8_addIndexEntries_0 (by decide) ?_
  refine ev_istoreS dX8_addIndexEntries_1 (by decide) rfl ?_
  exact go
set_option maxRecDepth 100000 in
set_option maxHeartbeats 4000000 in
theorem lp_tb {Q : Option LV → GH → Prop} {K0 : Nat → Nat} {I0 : Nat → Nat → Int32} {J0 : Nat → Nat → Int64} {R0 B0 : Nat → Nat → Option Nat} {n0 sl0 a m : Nat} {cs0 fs : List Nat} {md la ixn : Nat} {ie : Nat → EX} (hC0 : CFix K0 R0 Ln) (hn0 : 34 ≤ n0) (hK0 : FrK K0 n0) (hX0 : IxR K0 I0 R0 B0 ixn ie) (hla : la + 1 < 2147483648) {t : Nat} (hT : TxO K0 R0 B0 Ln t) (ht : 34 ≤ t) (htn : t + 2 < n0) (hrn : ∀ k, k < 32 → ∀ r, B0 (t + 2) k = some r → r < n0) (hrw : ∀ e ∈ cs0, ∀ r, R0 5 e = some r → K0 r = 3 ∧ r < n0) (hcn : ∀ e ∈ cs0, e < n0) (hl0 : I0 519 3 = nI la) (hcap : cs0.length + (bcL I0 J0 R0 A B0 cs0 t la ie ixn 32).length ≤ 500)
    (hq : ∀ (K : Nat → Nat) (I : Nat → Nat → Int32) (J : Nat → Nat → Int64) (R B : Nat → Nat → Option Nat) (n sl : Nat) (cs : List Nat), BtI K0 I0 J0 R0 B0 Ln n0 sl0 a m cs0 fs md la A ((bcL I0 J0 R0 A B0 cs0 t la ie ixn 32).map nrmE) (NbP 32 0) K I J R B n sl cs → Q none (K, (u2 (u2 I 519 3 (nI (la + 1))) 449 t (nI 2)), J, R, A, B, Ln, n, sl)) : ∀ (g k : Nat) (K : Nat → Nat) (I : Nat → Nat → Int32) (J : Nat → Nat → Int64) (R B : Nat → Nat → Option Nat) (n sl : Nat) (cs : List Nat) (w4 w5 : Option LV), k + g = 32 → BtI K0 I0 J0 R0 B0 Ln n0 sl0 a m cs0 fs md la A ((bcL I0 J0 R0 A B0 cs0 t la ie ixn k).map nrmE) (NbP k 0) K I J R B n sl cs → Ev X mX8_takeBatch (d + 20) 9 [some (rV (some 3)), some (rV (some t)), some (iV (nI (la + 1))), some (iV (nI (k))), w4, w5] [] (K, I, J, R, A, B, Ln, n, sl) Q := by
  intro g
  induction g with
  | zero =>
    intro k K I J R B n sl cs w4 w5 hk hB
    have e1 : k = 32 := by omega
    subst e1
    have hC := hB.2.1.cfix hn0 hC0
    have hT := hB.2.1.txo hn0 ht hT hrn htn
    have hq := hq K I J R B n sl cs hB
    refine ev_iload_n dX8_takeBatch_9 rfl ?_
    refine ev_bipushN 32 dX8_takeBatch_10 (by decide) ?_
    refine ev_icmp_geN 82 dX8_takeBatch_12 (by decide) (by omega) (by omega) (fun c12 => ?_) (fun c12 => absurd c12 (by omega))
    refine ev_aload_n dX8_takeBatch_82 rfl ?_
    refine ev_iload_n dX8_takeBatch_83 rfl ?_
    refine ev_putI dX8_takeBatch_84 fX8_75 (Or.inl rfl) (Or.inl rfl) hC.m ?_
    refine ev_aload_n dX8_takeBatch_87 rfl ?_
    refine ev_iconstN 2 dX8_takeBatch_88 (by decide) ?_
    refine ev_putI dX8_takeBatch_89 fX8_138 (Or.inl rfl) (Or.inl rfl) hT.1 ?_
    refine ev_return dX8_takeBatch_92 rfl ?_
    exact hq
  | succ g ih =>
    intro k K I J R B n sl cs w4 w5 hk hB
    have hk32 : k < 32 := by omega
    have hC := hB.2.1.cfix hn0 hC0
    have hT0 := hT
    have hT := hB.2.1.txo hn0 ht hT hrn htn
    have hnn := hB.2.1.1
    have hbs := batL_s (la := la) (wr := fun k => decide (¬ A (t + 1) k = 0)) (had := fun k => (raC I0 J0 R0 cs0 (nI k) (nI la)).isSome) (has := fun k => (B0 (t + 2) k).isSome) (ro := fun k => rwO I0 (raC I0 J0 R0 cs0 (nI k) (nI la))) (rn := fun k => rwO I0 (B0 (t + 2) k)) (ie := ie) (ixn := ixn) (k := k)
    by_cases hw : A (t + 1) k = 0
    · have hw' : decide (¬ A (t + 1) k = 0) = false := decide_eq_false (fun z => z hw)
      have hgo := fun w4 w5 => ih (k + 1) K I J R B n sl cs w4 w5 (by omega) (by
        unfold bcL
        rw [hbs]
        simp only [hw', Bool.false_eq_true, if_false, List.append_nil]
        refine hB.weak (fun a b c => ?_) (List.Perm.refl _)
        rintro ⟨kk, ss, y1, y2, y3, y4, y5⟩
        exact ⟨kk, ss, y1, y2, y3, y4, by omega⟩)
      refine ev_iload_n dX8_takeBatch_9 rfl ?_
      refine ev_bipushN 32 dX8_takeBatch_10 (by decide) ?_
      refine ev_icmp_geN 82 dX8_takeBatch_12 (by decide) (by omega) (by omega) (fun c12 => absurd c12 (by omega)) (fun c12 => ?_)
      refine ev_aload_n dX8_takeBatch_15 rfl ?_
      refine ev_getR dX8_takeBatch_16 fX8_225 hT.1 hT.2.1 ?_
      refine ev_iload_n dX8_takeBatch_19 rfl ?_
      refine ev_zald dX8_takeBatch_20 hT.2.2.1 hT.2.2.2.1 (by decide) (by omega) ?_
      refine ev_if_eq 76 dX8_takeBatch_21 (by decide) (fun c21 => ?_) (fun c21 => absurd hw c21)
      refine ev_iincNS (b := 1) dX8_takeBatch_76 rfl (by decide) (by decide) rfl ?_
      refine ev_goto 9 dX8_takeBatch_79 (by decide) ?_
      exact hgo _ _
    · have hw' : decide (¬ A (t + 1) k = 0) = true := decide_eq_true hw
      have hl : I 519 3 = nI la := ((hB.2.1.2 3 (by omega)).2.2.2.2.1 519 (by omega)).trans hl0
      have hold : raC I J R cs (nI k) (nI la) = raC I0 J0 R0 cs0 (nI k) (nI la) := by
        unfold raC
        rw [hB.2.2.2.2.2.1]
        cases hx : rsC I0 J0 cs0 (plcL (nI 0) (nI 0) (nI k)) (nI la) with
        | none => rfl
        | some e => exact (hB.2.1.2 e (hcn e (List.mem_of_find?_eq_some hx))).2.2.2.1 5
      have hnow : B (t + 2) k = B0 (t + 2) k := by rw [(hB.2.1.2 (t + 2) htn).2.2.2.2.2 (by omega)]
      have h1 : ∀ r, raC I0 J0 R0 cs0 (nI k) (nI la) = some r → K0 r = 3 ∧ r < n0 := fun r hr => by
        unfold raC at hr
        cases hx : rsC I0 J0 cs0 (plcL (nI 0) (nI 0) (nI k)) (nI la) with
        | none => rw [hx] at hr; cases hr
        | some e => rw [hx] at hr; exact hrw e (List.mem_of_find?_eq_some hx) r hr
      have h2 : ∀ r, B0 (t + 2) k = some r → K0 r = 3 ∧ r < n0 := fun r hr => ⟨hT0.2.2.2.2.2.2.2 k hk32 r hr, hrn k hk32 r hr⟩
      have sr := cs_rowAt2 (X := X) (d := d + 16) (A := A) (n := n) (sl := sl) (k := nI k) (u := nI la) hC hB.1.1.1 hB.1.2.2.1
      rw [hold] at sr
      have hlen := batL_le (la := la) (wr := fun k => decide (¬ A (t + 1) k = 0)) (had := fun k => (raC I0 J0 R0 cs0 (nI k) (nI la)).isSome) (has := fun k => (B0 (t + 2) k).isSome) (ro := fun k => rwO I0 (raC I0 J0 R0 cs0 (nI k) (nI la))) (rn := fun k => rwO I0 (B0 (t + 2) k)) (ie := ie) (ixn := ixn) (k := k + 1) (j := g)
      rw [show k + 1 + g = 32 by omega, hbs] at hlen
      simp only [hw', if_true] at hlen hbs
      rw [List.length_append, List.length_map] at hlen
      unfold keyE at hlen
      rw [List.length_append, List.length_singleton] at hlen
      have hcap' : cs0.length + ((bcL I0 J0 R0 A B0 cs0 t la ie ixn k).map nrmE).length + (ixL (raC I0 J0 R0 cs0 (nI k) (nI la)).isSome (B0 (t + 2) k).isSome (rwO I0 (raC I0 J0 R0 cs0 (nI k) (nI la))) (rwO I0 (B0 (t + 2) k)) ie (nI k) ixn).length + 1 ≤ 500 := by
        rw [List.length_map]
        unfold bcL at hcap ⊢
        omega
      have kn : va_up K n 0 n = 0 := va_up_self _ _ _
      have hC' := (BtF.new (K := K) (I := I) (J := J) (R := R) (B := B) (Ln := Ln) (n := n)).cfix (by omega) hC
      have sa := cs_addE (X := X) (d := d + 17) (sl := sl) (s := nI 0) (v := nI 0) (k := nI k) (t := nI (la + 1)) (o := B0 (t + 2) k) hC hB.1 (by omega) hB.2.2.1 hB.2.2.2.1 (by rw [hB.len]; omega) (rg_nI (by omega) hk32) (fun r hr => ⟨by rw [(hB.2.1.2 r (h2 r hr).2).1]; exact (h2 r hr).1, by have := (h2 r hr).2; omega⟩) (fun x hx z1 z2 z3 z4 => by have := hB.2.2.2.2.2.2.1 x hx z1; rw [z2, z3, z4] at this; exact nbp_no (by omega) hk32 this)
      have fin : ∀ (K : Nat → Nat) (I : Nat → Nat → Int32) (J : Nat → Nat → Int64) (R B : Nat → Nat → Option Nat) (n sl : Nat) (cs : List Nat) (w4 w5 : Option LV), BtI K0 I0 J0 R0 B0 Ln n0 sl0 a m cs0 fs md la A (((bcL I0 J0 R0 A B0 cs0 t la ie ixn k).map nrmE) ++ [enN I0 (nI 0) (nI 0) (nI k) (nI (la + 1)) (B0 (t + 2) k)] ++ (ixL (raC I0 J0 R0 cs0 (nI k) (nI la)).isSome (B0 (t + 2) k).isSome (rwO I0 (raC I0 J0 R0 cs0 (nI k) (nI la))) (rwO I0 (B0 (t + 2) k)) ie (nI k) ixn).map (fun z => nrmE (mkE la (rwO I0 (B0 (t + 2) k)) z))) (NbP k (ixn + 1)) K I J R B n sl cs → Ev X mX8_takeBatch (d + 20) 9 [some (rV (some 3)), some (rV (some t)), some (iV (nI (la + 1))), some (iV (nI (k + 1))), w4, w5] [] (K, I, J, R, A, B, Ln, n, sl) Q := by
        intro K I J R B n sl cs w4 w5 hB
        refine ih (k + 1) K I J R B n sl cs w4 w5 (by omega) (hB.weak (fun a b c => ?_) ?_)
        · rintro ⟨kk, ss, y1, y2, y3, y4, y5⟩
          exact ⟨kk, ss, y1, y2, y3, y4, by omega⟩
        · unfold bcL
          rw [hbs, List.map_append, List.append_assoc]
          refine List.Perm.append_left _ ?_
          unfold keyE
          rw [List.map_append, List.map_append, List.map_map]
          show List.Perm _ (_ ++ [nrmE (mkE la (rwO I0 (B0 (t + 2) k)) (0, 0, nI k, bZ (B0 (t + 2) k).isSome))])
          rw [nrm_row]
          exact List.perm_append_comm
      refine ev_iload_n dX8_takeBatch_9 rfl ?_
      refine ev_bipushN 32 dX8_takeBatch_10 (by decide) ?_
      refine ev_icmp_geN 82 dX8_takeBatch_12 (by decide) (by omega) (by omega) (fun c12 => absurd c12 (by omega)) (fun c12 => ?_)
      refine ev_aload_n dX8_takeBatch_15 rfl ?_
      refine ev_getR dX8_takeBatch_16 fX8_225 hT.1 hT.2.1 ?_
      refine ev_iload_n dX8_takeBatch_19 rfl ?_
      refine ev_zald dX8_takeBatch_20 hT.2.2.1 hT.2.2.2.1 (by decide) (by omega) ?_
      refine ev_if_eq 76 dX8_takeBatch_21 (by decide) (fun c21 => absurd c21 hw) (fun c21 => ?_)
      refine ev_aload_n dX8_takeBatch_24 rfl ?_
      refine ev_getR dX8_takeBatch_25 fX8_27 hC.m hC.R_st ?_
      refine ev_iload_n dX8_takeBatch_28 rfl ?_
      refine ev_aload_n dX8_takeBatch_29 rfl ?_
      refine ev_getIv dX8_takeBatch_30 fX8_75 hC.m hl ?_
      refine ev_callV dX8_takeBatch_33 okX6_rowAt inX6_rowAt seX6_rowAt mlX8_233 hC.K_st (by decide) rfl [iV _, iV _] rfl rfl (Nat.le_of_ble_eq_true rfl) (Nat.le_of_ble_eq_true rfl) (sr) (fun r_ G_ h_ => ?_)
      obtain ⟨rfl, rfl⟩ := h_
      try dsimp only [Option.toList, List.cons_append, List.nil_append]
      refine ev_astoreS dX8_takeBatch_36 (by decide) rfl ?_
      refine ev_aload_n dX8_takeBatch_38 rfl ?_
      refine ev_getR dX8_takeBatch_39 fX8_229 hT.1 hT.2.2.2.2.1 ?_
      refine ev_iload_n dX8_takeBatch_42 rfl ?_
      refine ev_aald (q := 4) dX8_takeBatch_43 hT.2.2.2.2.2.1 (by decide) (by decide) hT.2.2.2.2.2.2.1 (by decide) (by omega) hnow ?_
      refine ev_astoreS dX8_takeBatch_44 (by decide) rfl ?_
      refine ev_aload_n dX8_takeBatch_46 rfl ?_
      refine ev_getR dX8_takeBatch_47 fX8_27 hC.m hC.R_st ?_
      refine ev_new dX8_takeBatch_50 nwX8_256 ?_
      refine ev_dup dX8_takeBatch_53 rfl ?_
      refine ev_iconstN 0 dX8_takeBatch_54 (by decide) ?_
      refine ev_iconstN 0 dX8_takeBatch_55 (by decide) ?_
      refine ev_iload_n dX8_takeBatch_56 rfl ?_
      refine ev_iload_n dX8_takeBatch_57 rfl ?_
      refine ev_aload dX8_takeBatch_58 rfl ?_
      refine ev_callI dX8_takeBatch_60 okX0_init inX0_init rfl rfl mlX8_258 [iV _, iV _, iV _, iV _, rV _] rfl rfl (Nat.le_of_ble_eq_true rfl) (Nat.le_of_ble_eq_true rfl) (cs_newEntry kn) (fun r_ G_ h_ => ?_)
      obtain ⟨rfl, rfl⟩ := h_
      try dsimp only [Option.toList, List.cons_append, List.nil_append]
      refine ev_callV dX8_takeBatch_63 okX6_add inX6_add seX6_add mlX8_261 hC'.K_st (by decide) rfl [rV _] rfl rfl (Nat.le_of_ble_eq_true rfl) (Nat.le_of_ble_eq_true rfl) (sa) (fun r_ G_ h_ => ?_)
      obtain ⟨rfl, I', B', cs', q1, q2, q3, q4, q5, q6, q7, q8, q9, rfl⟩ := h_
      have hB' := hB.add hC0.K_st hla (o := B0 (t + 2) k) h2 q1 q2 q3 q4 q5 q6 q7 q8 q9
      have hB'' := hB'.weak (P' := NbP k 1) (fun a b c h => by
        rcases h with ⟨kk, ss, y1, y2, y3, y4, y5⟩ | ⟨y1, y2, y3⟩
        · exact ⟨kk, ss, y1, y2, y3, y4, by omega⟩
        · exact ⟨k, 0, y3, y1, hk32, by omega, by omega⟩) (List.Perm.refl _)
      have hC2 := hB''.2.1.cfix hn0 hC0
      have sx := cs_addIdx (X := X) (d := d) hC0 hn0 hK0 hX0 hla hk32 h1 h2 (eb := ((bcL I0 J0 R0 A B0 cs0 t la ie ixn k).map nrmE) ++ [enN I0 (nI 0) (nI 0) (nI k) (nI (la + 1)) (B0 (t + 2) k)]) (by rw [List.length_append, List.length_singleton]; omega) hB''
      try dsimp only [Option.toList, List.cons_append, List.nil_append]
      refine ev_aload_n dX8_takeBatch_66 rfl ?_
      refine ev_iload_n dX8_takeBatch_67 rfl ?_
      refine ev_iload_n dX8_takeBatch_68 rfl ?_
      refine ev_aload dX8_takeBatch_69 rfl ?_
      refine ev_aload dX8_takeBatch_71 rfl ?_
      refine ev_callV dX8_takeBatch_73 okX8_addIndexEntries inX8_addIndexEntries seX8_addIndexEntries mlX8_265 hC2.m (by decide) rfl [iV _, iV _, rV _, rV _] rfl rfl (Nat.le_of_ble_eq_true rfl) (Nat.le_of_ble_eq_true rfl) (sx) (fun r_ G_ h_ => ?_)
      obtain ⟨rfl, K2, I2, J2, R2, B2, n2, sl2, cs2, hB2, rfl⟩ := h_
      try dsimp only [Option.toList, List.cons_append, List.nil_append]
      refine ev_iincNS (b := 1) dX8_takeBatch_76 rfl (by decide) (by decide) rfl ?_
      refine ev_goto 9 dX8_takeBatch_79 (by decide) ?_
      exact fin K2 I2 J2 R2 B2 n2 sl2 cs2 _ _ hB2
theorem cs_takeBatch {K0 : Nat → Nat} {I0 : Nat → Nat → Int32} {J0 : Nat → Nat → Int64} {R0 B0 : Nat → Nat → Option Nat} {n0 sl0 a m : Nat} {cs0 fs : List Nat} {md la ixn : Nat} {ie : Nat → EX} (hC0 : CFix K0 R0 Ln) (hn0 : 34 ≤ n0) (hK0 : FrK K0 n0) (hX0 : IxR K0 I0 R0 B0 ixn ie) (hla : la + 1 < 2147483648) {t : Nat} (hT : TxO K0 R0 B0 Ln t) (ht : 34 ≤ t) (htn : t + 2 < n0) (hrn : ∀ k, k < 32 → ∀ r, B0 (t + 2) k = some r → r < n0) (hrw : ∀ e ∈ cs0, ∀ r, R0 5 e = some r → K0 r = 3 ∧ r < n0) (hcn : ∀ e ∈ cs0, e < n0) (hl0 : I0 519 3 = nI la) (hcap : cs0.length + (bcL I0 J0 R0 A B0 cs0 t la ie ixn 32).length ≤ 500) (hS : BsR K0 I0 J0 R0 B0 Ln n0 a m cs0 fs md) (hF : FrH I0 J0 R0 A B0 n0) (hst : ∀ x ∈ cs0, I0 4 x ≤ nI la) : EvM X mX8_takeBatch (d + 20) [rV (some 3), rV (some t)] (K0, I0, J0, R0, A, B0, Ln, n0, sl0) (fun r_ G' => r_ = none ∧ ∃ (K : Nat → Nat) (I : Nat → Nat → Int32) (J : Nat → Nat → Int64) (R B : Nat → Nat → Option Nat) (n sl : Nat) (cs : List Nat), BtI K0 I0 J0 R0 B0 Ln n0 sl0 a m cs0 fs md la A ((bcL I0 J0 R0 A B0 cs0 t la ie ixn 32).map nrmE) (NbP 32 0) K I J R B n sl cs ∧ G' = (K, (u2 (u2 I 519 3 (nI (la + 1))) 449 t (nI 2)), J, R, A, B, Ln, n, sl)) := by
  have hB : BtI K0 I0 J0 R0 B0 Ln n0 sl0 a m cs0 fs md la A ((bcL I0 J0 R0 A B0 cs0 t la ie ixn 0).map nrmE) (NbP 0 0) K0 I0 J0 R0 B0 n0 sl0 cs0 := by
    refine ⟨hS, BtF.refl, hF, hK0, by rw [show ((bcL I0 J0 R0 A B0 cs0 t la ie ixn 0).map nrmE) = [] from rfl, List.append_nil], fun _ => rfl, fun x hx z => ?_, rfl, rfl⟩
    have := hst x hx
    rw [z, nle (by omega) (by omega)] at this
    omega
  have hC := hC0
  show Ev X mX8_takeBatch (d + 20) 0 [some (rV (some 3)), some (rV (some t)), none, none, none, none] [] (K0, I0, J0, R0, A, B0, Ln, n0, sl0) _
  have go := lp_tb (X := X) (d := d) hC0 hn0 hK0 hX0 hla hT ht htn hrn hrw hcn hl0 hcap (Q := fun r_ G' => r_ = none ∧ ∃ (K : Nat → Nat) (I : Nat → Nat → Int32) (J : Nat → Nat → Int64) (R B : Nat → Nat → Option Nat) (n sl : Nat) (cs : List Nat), BtI K0 I0 J0 R0 B0 Ln n0 sl0 a m cs0 fs md la A ((bcL I0 J0 R0 A B0 cs0 t la ie ixn 32).map nrmE) (NbP 32 0) K I J R B n sl cs ∧ G' = (K, (u2 (u2 I 519 3 (nI (la + 1))) 449 t (nI 2)), J, R, A, B, Ln, n, sl)) (fun K I J R B n sl cs hB => ⟨rfl, K, I, J, R, B, n, sl, cs, hB, rfl⟩) 32 0 K0 I0 J0 R0 B0 n0 sl0 cs0 none none rfl hB
  refine ev_aload_n dX8_takeBatch_0 rfl ?_
  refine ev_getIv dX8_takeBatch_1 fX8_75 hC.m hl0 ?_
  refine ev_iconstN 1 dX8_takeBatch_4 (by decide) ?_
  refine ev_iaddN dX8_takeBatch_5 ?_
  refine ev_istore_nS dX8_takeBatch_6 (by decide) rfl ?_
  refine ev_iconstN 0 dX8_takeBatch_7 (by decide) ?_
  refine ev_istore_nS dX8_takeBatch_8 (by decide) rfl ?_
  exact go
end C89
