section M31
variable {X : CX} {d : Nat} {K : Nat → Nat} {I : Nat → Nat → Int32} {J : Nat → Nat → Int64} {R : Nat → Nat → Option Nat} {A : Nat → Nat → Int32} {B : Nat → Nat → Option Nat} {Ln : Nat → Nat} {n sl : Nat}
theorem batA_yes {A : Nat → Nat → Int32} {t many la : Nat} {ie : Nat → EX} {ixn k : Nat} (h : 0 < A 27 (32 * t + k)) : batA A t many la ie ixn (k + 1) = batA A t many la ie ixn k ++ ((ixL (raN A (nI k) (nI la) many).isSome (rfO A t k many) (rwV A (raN A (nI k) (nI la) many)) (rfV A t k many) ie (nI k) ixn).map (mkE la (rfV A t k many)) ++ [mkE la (rfV A t k many) (0, 0, nI k, bZ (rfO A t k many))]) := by
  unfold batA
  rw [batL_s, if_pos (decide_eq_true h)]
  unfold keyE
  rw [List.map_append]
  rfl
theorem batA_no {A : Nat → Nat → Int32} {t many la : Nat} {ie : Nat → EX} {ixn k : Nat} (h : ¬ 0 < A 27 (32 * t + k)) : batA A t many la ie ixn (k + 1) = batA A t many la ie ixn k := by
  unfold batA
  rw [batL_s, if_neg (by rw [decide_eq_false h]; decide), List.append_nil]
set_option maxRecDepth 100000 in
set_option maxHeartbeats 4000000 in
theorem lp_bo {Q : Option LV → GH → Prop} (hM : MFix K R Ln) {A0 I0 : Nat → Nat → Int32} {many la t ixn : Nat} {put : Bool} {ie : Nat → EX} (hla : la + 1 < 2147483648) (hl : I0 594 11 = nI la) (hix : I0 577 11 = nI ixn) (hi3 : ixn ≤ 3) (ht : t < 60) (hbe : A0 26 t ≤ nI la) (hE : ∀ i, i < ixn → ExA A0 (8 + i) (ie i) ∧ TreeE (ie i)) (hn1 : ∀ k, k < 32 → ∃ nm, nm < 2147483648 ∧ rwV A0 (raN A0 (nI k) (nI la) many) 2 = nI nm) (hn2 : ∀ k, k < 32 → ∃ nm, nm < 2147483648 ∧ rfV A0 t k many 2 = nI nm) (hcm : many ≤ 520) (hcap : put = true → many + (batA A0 t many la ie ixn 32).length ≤ 520) (hq : ∀ I A, BatI A0 many la A (emP put (batA A0 t many la ie ixn 32)) → I 582 11 = nI (many + (emP put (batA A0 t many la ie ixn 32)).length) → (∀ f i, ¬ (f = 582 ∧ i = 11) → I f i = I0 f i) → Q (some (iV (nI (batA A0 t many la ie ixn 32).length))) (K, I, J, R, A, B, Ln, n, sl)) : ∀ (g k : Nat) (I A : Nat → Nat → Int32) (w5 w6 w7 w8 w9 w10 w11 w12 : Option LV), k + g = 32 → BatI A0 many la A (emP put (batA A0 t many la ie ixn k)) → I 582 11 = nI (many + (emP put (batA A0 t many la ie ixn k)).length) → (∀ f i, ¬ (f = 582 ∧ i = 11) → I f i = I0 f i) → Ev X mX9_batch (d + 3) 5 [some (rV (some 11)), some (iV (nI t)), some (iV (bZ put)), some (iV (nI ((batA A0 t many la ie ixn k).length))), some (iV (nI k)), w5, w6, w7, w8, w9, w10, w11, w12] [] (K, I, J, R, A, B, Ln, n, sl) Q := by
  intro g
  induction g with
  | zero =>
    intro k I A w5 w6 w7 w8 w9 w10 w11 w12 hk hB hm hF
    have e2 : k = 32 := by omega
    subst e2
    refine ev_iload dX9_batch_5 rfl ?_
    refine ev_bipushN 32 dX9_batch_7 (by decide) ?_
    refine ev_icmp_geN 240 dX9_batch_9 (by decide) (by omega) (by omega) (fun c9 => ?_) (fun c9 => absurd c9 (by omega))
    refine ev_iload_n dX9_batch_240 rfl ?_
    refine ev_ireturn dX9_batch_241 rfl ?_
    exact hq I A hB hm hF
  | succ g ih =>
    intro k I A w5 w6 w7 w8 w9 w10 w11 w12 hk hB hm hF
    have h27 : A 27 (32 * t + k) = A0 27 (32 * t + k) := by rw [hB.1 27 (by decide)]
    have k234 : ∀ (I' A' : Nat → Nat → Int32) (w5 w6 w7 w8 w9 w10 w11 w12 : Option LV), BatI A0 many la A' (emP put (batA A0 t many la ie ixn (k + 1))) → I' 582 11 = nI (many + (emP put (batA A0 t many la ie ixn (k + 1))).length) → (∀ f i, ¬ (f = 582 ∧ i = 11) → I' f i = I0 f i) → Ev X mX9_batch (d + 3) 234 [some (rV (some 11)), some (iV (nI t)), some (iV (bZ put)), some (iV (nI ((batA A0 t many la ie ixn (k + 1)).length))), some (iV (nI k)), w5, w6, w7, w8, w9, w10, w11, w12] [] (K, I', J, R, A', B, Ln, n, sl) Q := by
      intro I' A' w5 w6 w7 w8 w9 w10 w11 w12 hB' hm' hF'
      refine ev_iincNS (b := 1) dX9_batch_234 rfl (by decide) (by decide) rfl ?_
      refine ev_goto 5 dX9_batch_237 (by decide) ?_
      exact ih (k + 1) I' A' _ _ _ _ _ _ _ _ (by omega) hB' hm' hF'
    by_cases hw : 0 < A0 27 (32 * t + k)
    · have hlen : (batA A0 t many la ie ixn (k + 1)).length = (batA A0 t many la ie ixn k).length + 1 + (ixL (raN A0 (nI k) (nI la) many).isSome (rfO A0 t k many) (rwV A0 (raN A0 (nI k) (nI la) many)) (rfV A0 t k many) ie (nI k) ixn).length := by
        rw [batA_yes hw]
        simp
        omega
      have hle : (batA A0 t many la ie ixn (k + 1)).length ≤ (batA A0 t many la ie ixn 32).length := by
        have := batL_le (la := la) (wr := fun k => decide (0 < A0 27 (32 * t + k))) (had := fun k => (raN A0 (nI k) (nI la) many).isSome) (has := fun k => rfO A0 t k many) (ro := fun k => rwV A0 (raN A0 (nI k) (nI la) many)) (rn := fun k => rfV A0 t k many) (ie := ie) (ixn := ixn) (k := k + 1) (j := 31 - k)
        rw [show k + 1 + (31 - k) = 32 by omega] at this
        exact this
      have hc1 : put = true → many + (batA A0 t many la ie ixn k).length + (ixL (raN A0 (nI k) (nI la) many).isSome (rfO A0 t k many) (rwV A0 (raN A0 (nI k) (nI la) many)) (rfV A0 t k many) ie (nI k) ixn).length < 520 := fun hp => by have := hcap hp; omega
      have hcE : many + (emP put (batA A0 t many la ie ixn k)).length ≤ 520 := by
        cases put with
        | true => have := hc1 rfl; have := emP_len (put := true) (a := (batA A0 t many la ie ixn k)); omega
        | false => simpa [emP] using hcm
      rw [hlen] at k234
      have k37 : ∀ (w7 w8 w9 w10 w11 w12 : Option LV), Ev X mX9_batch (d + 3) 37 [some (rV (some 11)), some (iV (nI t)), some (iV (bZ put)), some (iV (nI ((batA A0 t many la ie ixn k).length + 1 + 0))), some (iV (nI k)), some (iV (A0 27 (32 * t + k))), some (iV (nI (0))), w7, w8, w9, w10, w11, w12] [] (K, I, J, R, A, B, Ln, n, sl) Q := by
        intro w7 w8 w9 w10 w11 w12
        refine lp_bi (E := emP put (batA A0 t many la ie ixn k)) (c0 := (batA A0 t many la ie ixn k).length + 1) (k := k) hM hla hl hix hi3 ht hbe hE hn1 hn2 (by omega) hcE (fun hp => by have := hc1 hp; have := emP_len (put := put) (a := (batA A0 t many la ie ixn k)); omega) ?_ ixn 0 I A _ _ _ _ _ _ _ (by omega) (by simpa [ixL, emP] using hB) (by simpa [ixL, emP] using hm) hF
        intro I1 A1 x5' w6 w7 w8 w9 w10 w11 w12 hB1 hm1 hF1
        have hel : (emP put (batA A0 t many la ie ixn k) ++ emP put ((ixL (raN A0 (nI k) (nI la) many).isSome (rfO A0 t k many) (rwV A0 (raN A0 (nI k) (nI la) many)) (rfV A0 t k many) ie (nI k) ixn).map (mkE la (rfV A0 t k many)))).length ≤ (batA A0 t many la ie ixn k).length + (ixL (raN A0 (nI k) (nI la) many).isSome (rfO A0 t k many) (rwV A0 (raN A0 (nI k) (nI la) many)) (rfV A0 t k many) ie (nI k) ixn).length := by
          rw [List.length_append]
          have q1 := emP_len (put := put) (a := (ixL (raN A0 (nI k) (nI la) many).isSome (rfO A0 t k many) (rwV A0 (raN A0 (nI k) (nI la) many)) (rfV A0 t k many) ie (nI k) ixn).map (mkE la (rfV A0 t k many)))
          have q2 := emP_len (put := put) (a := (batA A0 t many la ie ixn k))
          rw [List.length_map] at q1
          omega
        have hbm1 : many + (emP put (batA A0 t many la ie ixn k) ++ emP put ((ixL (raN A0 (nI k) (nI la) many).isSome (rfO A0 t k many) (rwV A0 (raN A0 (nI k) (nI la) many)) (rfV A0 t k many) ie (nI k) ixn).map (mkE la (rfV A0 t k many)))).length ≤ 520 := by
          cases put with
          | true => have := hc1 rfl; omega
          | false => simpa [emP] using hcm
        have s1 := sp_rowFor (X := X) (d := d) (J := J) (A := A1) (B := B) (n := n) (sl := sl) hM hm1 hbm1 ht (show k < 32 by omega)
        rw [hB1.rfo hla hbe] at s1
        have hl1 : I1 594 11 = nI la := (hF1 594 11 (by omega)).trans hl
        cases put with
        | false =>
          show Ev X mX9_batch (d + 3) 211 [some (rV (some 11)), some (iV (nI t)), some (iV (nI 0)), some (iV (nI ((batA A0 t many la ie ixn k).length + 1 + (ixL (raN A0 (nI k) (nI la) many).isSome (rfO A0 t k many) (rwV A0 (raN A0 (nI k) (nI la) many)) (rfV A0 t k many) ie (nI k) ixn).length))), some (iV (nI k)), some (iV x5'), w6, w7, w8, w9, w10, w11, w12] [] (K, I1, J, R, A1, B, Ln, n, sl) Q
          refine ev_aload_n dX9_batch_211 rfl ?_
          refine ev_iload_n dX9_batch_212 rfl ?_
          refine ev_iload dX9_batch_213 rfl ?_
          refine ev_callV dX9_batch_215 okX9_rowFor inX9_rowFor seX9_rowFor mlX9_129 hM.m (by decide) rfl [iV _, iV _] rfl rfl (Nat.le_of_ble_eq_true rfl) (Nat.le_of_ble_eq_true rfl) (s1) (fun r_ G_ h_ => ?_)
          obtain ⟨A2, rfl, rfl, a2, a2r⟩ := h_
          have hB2 := hB1.row (A'' := A2) (fun i hi => a2 i (fun z => hi (by rw [z]; decide)))
          have r2 : ∀ f, f < 3 → A2 29 f = rfV A0 t k many f := fun f hf => (a2r f hf).trans (hB1.rfv hla hbe hf)
          try dsimp only [Option.toList, List.cons_append, List.nil_append]
          refine ev_istoreS dX9_batch_218 (by decide) rfl ?_
          refine ev_iload_n dX9_batch_220 rfl ?_
          refine ev_if_eqN 234 dX9_batch_221 (by decide) (by omega) (fun c221 => ?_) (fun c221 => absurd c221 (by decide))
          refine k234 _ A2 _ _ _ _ _ _ _ _ ?_ ?_ hF1
          · simpa [emP] using hB2
          · simpa [emP] using hm1
        | true =>
          show Ev X mX9_batch (d + 3) 211 [some (rV (some 11)), some (iV (nI t)), some (iV (nI 1)), some (iV (nI ((batA A0 t many la ie ixn k).length + 1 + (ixL (raN A0 (nI k) (nI la) many).isSome (rfO A0 t k many) (rwV A0 (raN A0 (nI k) (nI la) many)) (rfV A0 t k many) ie (nI k) ixn).length))), some (iV (nI k)), some (iV x5'), w6, w7, w8, w9, w10, w11, w12] [] (K, I1, J, R, A1, B, Ln, n, sl) Q
          refine ev_aload_n dX9_batch_211 rfl ?_
          refine ev_iload_n dX9_batch_212 rfl ?_
          refine ev_iload dX9_batch_213 rfl ?_
          refine ev_callV dX9_batch_215 okX9_rowFor inX9_rowFor seX9_rowFor mlX9_129 hM.m (by decide) rfl [iV _, iV _] rfl rfl (Nat.le_of_ble_eq_true rfl) (Nat.le_of_ble_eq_true rfl) (s1) (fun r_ G_ h_ => ?_)
          obtain ⟨A2, rfl, rfl, a2, a2r⟩ := h_
          have hB2 := hB1.row (A'' := A2) (fun i hi => a2 i (fun z => hi (by rw [z]; decide)))
          have r2 : ∀ f, f < 3 → A2 29 f = rfV A0 t k many f := fun f hf => (a2r f hf).trans (hB1.rfv hla hbe hf)
          try dsimp only [Option.toList, List.cons_append, List.nil_append]
          refine ev_istoreS dX9_batch_218 (by decide) rfl ?_
          refine ev_iload_n dX9_batch_220 rfl ?_
          refine ev_if_eqN 234 dX9_batch_221 (by decide) (by omega) (fun c221 => absurd c221 (by decide)) (fun c221 => ?_)
          refine ev_aload_n dX9_batch_224 rfl ?_
          refine ev_iconstN 0 dX9_batch_225 (by decide) ?_
          refine ev_iconstN 0 dX9_batch_226 (by decide) ?_
          refine ev_iload dX9_batch_227 rfl ?_
          refine ev_iload dX9_batch_229 rfl ?_
          refine ev_callV dX9_batch_231 okX9_entry inX9_entry seX9_entry mlX9_134 hM.m (by decide) rfl [iV _, iV _, iV _, iV _] rfl rfl (Nat.le_of_ble_eq_true rfl) (Nat.le_of_ble_eq_true rfl) (sp_entry (la := la) hM hm1 (by have := hc1 rfl; omega) hl1 (bZ_01 _)) (fun r_ G_ h_ => ?_)
          obtain ⟨rfl, A3, rfl, q1, q2, q3⟩ := h_
          try dsimp only [Option.toList, List.cons_append, List.nil_append]
          refine k234 _ A3 _ _ _ _ _ _ _ _ ?_ ?_ (fun f i hfi => (if_neg hfi).trans (hF1 f i hfi))
          · have hx := hB2.add q1 q2 (q3.trans (show _ = mkE la (rfV A0 t k many) (0, 0, nI k, bZ (rfO A0 t k many)) by unfold mkE; rw [r2 0 (by decide), r2 1 (by decide), r2 2 (by decide)]; rfl)) rfl
            rw [batA_yes hw]
            simpa [emP] using hx
          · rw [u2_self, batA_yes hw]
            simp [emP, Nat.add_assoc]
      refine ev_iload dX9_batch_5 rfl ?_
      refine ev_bipushN 32 dX9_batch_7 (by decide) ?_
      refine ev_icmp_geN 240 dX9_batch_9 (by decide) (by omega) (by omega) (fun c9 => absurd c9 (by omega)) (fun c9 => ?_)
      refine ev_aload_n dX9_batch_12 rfl ?_
      refine ev_getR dX9_batch_13 fX9_56 hM.m hM.R_writes ?_
      refine ev_bipushN 32 dX9_batch_16 (by decide) ?_
      refine ev_iload_n dX9_batch_18 rfl ?_
      refine ev_imulN dX9_batch_19 ?_
      refine ev_iload dX9_batch_20 rfl ?_
      refine ev_iaddN dX9_batch_22 ?_
      refine ev_ialdv dX9_batch_23 hM.K_writes hM.L_writes (by decide) (by omega) h27 ?_
      refine ev_istoreS dX9_batch_24 (by decide) rfl ?_
      refine ev_iload dX9_batch_26 rfl ?_
      refine ev_if_le 234 dX9_batch_28 (by decide) (fun c28 => absurd c28 (Int32.not_le.mpr hw)) (fun c28 => ?_)
      refine ev_iincNS (b := 1) dX9_batch_31 rfl (by decide) (by decide) rfl ?_
      refine ev_iconstN 0 dX9_batch_34 (by decide) ?_
      refine ev_istoreS dX9_batch_35 (by decide) rfl ?_
      exact k37 _ _ _ _ _ _
    · have hno := batA_no (many := many) (la := la) (ie := ie) (ixn := ixn) hw
      rw [hno] at k234
      refine ev_iload dX9_batch_5 rfl ?_
      refine ev_bipushN 32 dX9_batch_7 (by decide) ?_
      refine ev_icmp_geN 240 dX9_batch_9 (by decide) (by omega) (by omega) (fun c9 => absurd c9 (by omega)) (fun c9 => ?_)
      refine ev_aload_n dX9_batch_12 rfl ?_
      refine ev_getR dX9_batch_13 fX9_56 hM.m hM.R_writes ?_
      refine ev_bipushN 32 dX9_batch_16 (by decide) ?_
      refine ev_iload_n dX9_batch_18 rfl ?_
      refine ev_imulN dX9_batch_19 ?_
      refine ev_iload dX9_batch_20 rfl ?_
      refine ev_iaddN dX9_batch_22 ?_
      refine ev_ialdv dX9_batch_23 hM.K_writes hM.L_writes (by decide) (by omega) h27 ?_
      refine ev_istoreS dX9_batch_24 (by decide) rfl ?_
      refine ev_iload dX9_batch_26 rfl ?_
      refine ev_if_le 234 dX9_batch_28 (by decide) (fun c28 => ?_) (fun c28 => absurd (Int32.not_le.mp c28) hw)
      exact k234 I A _ _ _ _ _ _ _ _ hB hm hF
theorem sp_batch (hM : MFix K R Ln) {many la t ixn : Nat} {put : Bool} {ie : Nat → EX} (hm : I 582 11 = nI many) (hcm : many ≤ 520) (hla : la + 1 < 2147483648) (hl : I 594 11 = nI la) (hix : I 577 11 = nI ixn) (hi3 : ixn ≤ 3) (ht : t < 60) (hbe : A 26 t ≤ nI la) (hE : ∀ i, i < ixn → ExA A (8 + i) (ie i) ∧ TreeE (ie i)) (hn1 : ∀ k, k < 32 → ∃ nm, nm < 2147483648 ∧ rwV A (raN A (nI k) (nI la) many) 2 = nI nm) (hn2 : ∀ k, k < 32 → ∃ nm, nm < 2147483648 ∧ rfV A t k many 2 = nI nm) (hcap : put = true → many + (batA A t many la ie ixn 32).length ≤ 520) : EvM X mX9_batch (d + 3) [rV (some 11), iV (nI t), iV (bZ put)] (K, I, J, R, A, B, Ln, n, sl) (fun r G' => r = some (iV (nI (batA A t many la ie ixn 32).length)) ∧ ∃ I' A', G' = (K, I', J, R, A', B, Ln, n, sl) ∧ BatI A many la A' (emP put (batA A t many la ie ixn 32)) ∧ I' 582 11 = nI (many + (emP put (batA A t many la ie ixn 32)).length) ∧ ∀ f i, ¬ (f = 582 ∧ i = 11) → I' f i = I f i) := by
  have h0 : batA A t many la ie ixn 0 = [] := rfl
  show Ev X mX9_batch (d + 3) 0 [some (rV (some 11)), some (iV (nI t)), some (iV (bZ put)), none, none, none, none, none, none, none, none, none, none] [] (K, I, J, R, A, B, Ln, n, sl) _
  refine ev_iconstN 0 dX9_batch_0 (by decide) ?_
  refine ev_istore_nS dX9_batch_1 (by decide) rfl ?_
  refine ev_iconstN 0 dX9_batch_2 (by decide) ?_
  refine ev_istoreS dX9_batch_3 (by decide) rfl ?_
  exact lp_bo (I0 := I) (A0 := A) hM hla hl hix hi3 ht hbe hE hn1 hn2 hcm hcap (fun I' A' a b c => ⟨rfl, I', A', rfl, a, b, c⟩) 32 0 I A none none none none none none none none (by omega) (by rw [h0]; cases put <;> exact BatI.refl) (by rw [h0]; cases put <;> exact hm) (fun _ _ _ => rfl)
end M31
