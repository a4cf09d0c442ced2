section M30
variable {X : CX} {d : Nat} {K : Nat → Nat} {I : Nat → Nat → Int32} {J : Nat → Nat → Int64} {R : Nat → Nat → Option Nat} {A : Nat → Nat → Int32} {B : Nat → Nat → Option Nat} {Ln : Nat → Nat} {n sl : Nat}
theorem em_len5 {put g : Bool} {em : List EE} {x : EE} : (em ++ emP put (if g = true then [x] else [])).length ≤ em.length + (if g = true then 1 else 0) := by cases put <;> cases g <;> simp [emP]
theorem emP_app {put : Bool} {a b : List EE} : emP put a ++ emP put b = emP put (a ++ b) := by cases put <;> rfl
theorem emP_len {put : Bool} {a : List EE} : (emP put a).length ≤ a.length := by cases put <;> simp [emP]
/-- what the commit of transaction t puts, up to key k -/
def batA (A : Nat → Nat → Int32) (t many la : Nat) (ie : Nat → EX) (ixn k : Nat) : List EE := batL la (fun k => decide (0 < A 27 (32 * t + k))) (fun k => (raN A (nI k) (nI la) many).isSome) (fun k => rfO A t k many) (fun k => rwV A (raN A (nI k) (nI la) many)) (fun k => rfV A t k many) ie ixn k
theorem ix_step {put had has : Bool} {ro rn : Nat → Int32} {ie : Nat → EX} {k : Int32} {i la : Nat} {E : List EE} : (E ++ emP put ((ixL had has ro rn ie k i).map (mkE la rn))) ++ emP put (if goneB had has (vlE ro (ie i)) (vlE rn (ie i)) = true then [mkE la rn (nI (i + 1), vlE ro (ie i), k, 0)] else []) ++ emP put (if goneB has had (vlE ro (ie i)) (vlE rn (ie i)) = true then [mkE la rn (nI (i + 1), vlE rn (ie i), k, 1)] else []) = E ++ emP put ((ixL had has ro rn ie k (i + 1)).map (mkE la rn)) := by
  rw [List.append_assoc, List.append_assoc, emP_app, emP_app, ixL_s, List.map_append]
  unfold ixE
  cases goneB had has (vlE ro (ie i)) (vlE rn (ie i)) <;> cases goneB has had (vlE ro (ie i)) (vlE rn (ie i)) <;> simp
theorem ix_len {had has : Bool} {ro rn : Nat → Int32} {ie : Nat → EX} {k : Int32} {i : Nat} : (ixL had has ro rn ie k (i + 1)).length = (ixL had has ro rn ie k i).length + ((if goneB had has (vlE ro (ie i)) (vlE rn (ie i)) = true then 1 else 0) + (if goneB has had (vlE ro (ie i)) (vlE rn (ie i)) = true then 1 else 0)) := by
  rw [ixL_s, List.length_append]
  unfold ixE
  cases goneB had has (vlE ro (ie i)) (vlE rn (ie i)) <;> cases goneB has had (vlE ro (ie i)) (vlE rn (ie i)) <;> rfl
set_option maxRecDepth 100000 in
set_option maxHeartbeats 4000000 in
theorem lp_bi {Q : Option LV → GH → Prop} (hM : MFix K R Ln) {A0 I0 : Nat → Nat → Int32} {many la t ixn : Nat} {put : Bool} {ie : Nat → EX} (hla : la + 1 < 2147483648) (hl : I0 594 11 = nI la) (hix : I0 577 11 = nI ixn) (hi3 : ixn ≤ 3) (ht : t < 60) (hbe : A0 26 t ≤ nI la) (hE : ∀ i, i < ixn → ExA A0 (8 + i) (ie i) ∧ TreeE (ie i)) (hn1 : ∀ k, k < 32 → ∃ nm, nm < 2147483648 ∧ rwV A0 (raN A0 (nI k) (nI la) many) 2 = nI nm) (hn2 : ∀ k, k < 32 → ∃ nm, nm < 2147483648 ∧ rfV A0 t k many 2 = nI nm) {k c0 : Nat} {E : List EE} (hk : k < 32) (hcE : many + E.length ≤ 520) (hcap : put = true → many + E.length + (ixL (raN A0 (nI k) (nI la) many).isSome (rfO A0 t k many) (rwV A0 (raN A0 (nI k) (nI la) many)) (rfV A0 t k many) ie (nI k) ixn).length < 520) (kont : ∀ I A x5 w6 w7 w8 w9 w10 w11 w12, BatI A0 many la A (E ++ emP put ((ixL (raN A0 (nI k) (nI la) many).isSome (rfO A0 t k many) (rwV A0 (raN A0 (nI k) (nI la) many)) (rfV A0 t k many) ie (nI k) ixn).map (mkE la (rfV A0 t k many)))) → I 582 11 = nI (many + (E ++ emP put ((ixL (raN A0 (nI k) (nI la) many).isSome (rfO A0 t k many) (rwV A0 (raN A0 (nI k) (nI la) many)) (rfV A0 t k many) ie (nI k) ixn).map (mkE la (rfV A0 t k many)))).length) → (∀ f i, ¬ (f = 582 ∧ i = 11) → I f i = I0 f i) → Ev X mX9_batch (d + 3) 211 [some (rV (some 11)), some (iV (nI t)), some (iV (bZ put)), some (iV (nI (c0 + (ixL (raN A0 (nI k) (nI la) many).isSome (rfO A0 t k many) (rwV A0 (raN A0 (nI k) (nI la) many)) (rfV A0 t k many) ie (nI k) ixn).length))), some (iV (nI k)), some (iV x5), w6, w7, w8, w9, w10, w11, w12] [] (K, I, J, R, A, B, Ln, n, sl) Q) : ∀ (g i : Nat) (I A : Nat → Nat → Int32) (x5 : Int32) (w7 w8 w9 w10 w11 w12 : Option LV), i + g = ixn → BatI A0 many la A (E ++ emP put ((ixL (raN A0 (nI k) (nI la) many).isSome (rfO A0 t k many) (rwV A0 (raN A0 (nI k) (nI la) many)) (rfV A0 t k many) ie (nI k) i).map (mkE la (rfV A0 t k many)))) → I 582 11 = nI (many + (E ++ emP put ((ixL (raN A0 (nI k) (nI la) many).isSome (rfO A0 t k many) (rwV A0 (raN A0 (nI k) (nI la) many)) (rfV A0 t k many) ie (nI k) i).map (mkE la (rfV A0 t k many)))).length) → (∀ f i, ¬ (f = 582 ∧ i = 11) → I f i = I0 f i) → Ev X mX9_batch (d + 3) 37 [some (rV (some 11)), some (iV (nI t)), some (iV (bZ put)), some (iV (nI (c0 + (ixL (raN A0 (nI k) (nI la) many).isSome (rfO A0 t k many) (rwV A0 (raN A0 (nI k) (nI la) many)) (rfV A0 t k many) ie (nI k) i).length))), some (iV (nI k)), some (iV x5), some (iV (nI i)), w7, w8, w9, w10, w11, w12] [] (K, I, J, R, A, B, Ln, n, sl) Q := by
  intro g
  induction g with
  | zero =>
    intro i I A x5 w7 w8 w9 w10 w11 w12 he hB hm hF
    have e2 : i = ixn := by omega
    subst e2
    have hix' : I 577 11 = nI i := (hF 577 11 (by omega)).trans hix
    refine ev_iload dX9_batch_37 rfl ?_
    refine ev_aload_n dX9_batch_39 rfl ?_
    refine ev_getIv dX9_batch_40 fX9_100 hM.m hix' ?_
    refine ev_icmp_geN 211 dX9_batch_43 (by decide) (by omega) (by omega) (fun c43 => ?_) (fun c43 => absurd c43 (by omega))
    exact kont I A _ _ _ _ _ _ _ _ hB hm hF
  | succ g ih =>
    intro i I A x5 w7 w8 w9 w10 w11 w12 he hB hm hF
    have hix' : I 577 11 = nI ixn := (hF 577 11 (by omega)).trans hix
    have hlen := ix_len (had := (raN A0 (nI k) (nI la) many).isSome) (has := rfO A0 t k many) (ro := rwV A0 (raN A0 (nI k) (nI la) many)) (rn := rfV A0 t k many) (ie := ie) (k := nI k) (i := i)
    have hle : (ixL (raN A0 (nI k) (nI la) many).isSome (rfO A0 t k many) (rwV A0 (raN A0 (nI k) (nI la) many)) (rfV A0 t k many) ie (nI k) (i + 1)).length ≤ (ixL (raN A0 (nI k) (nI la) many).isSome (rfO A0 t k many) (rwV A0 (raN A0 (nI k) (nI la) many)) (rfV A0 t k many) ie (nI k) ixn).length := by
      have := ixL_le (had := (raN A0 (nI k) (nI la) many).isSome) (has := rfO A0 t k many) (ro := rwV A0 (raN A0 (nI k) (nI la) many)) (rn := rfV A0 t k many) (ie := ie) (k := nI k) (i := i + 1) (j := ixn - (i + 1))
      rw [show i + 1 + (ixn - (i + 1)) = ixn by omega] at this
      exact this
    have hem : (E ++ emP put ((ixL (raN A0 (nI k) (nI la) many).isSome (rfO A0 t k many) (rwV A0 (raN A0 (nI k) (nI la) many)) (rfV A0 t k many) ie (nI k) i).map (mkE la (rfV A0 t k many)))).length ≤ E.length + (ixL (raN A0 (nI k) (nI la) many).isSome (rfO A0 t k many) (rwV A0 (raN A0 (nI k) (nI la) many)) (rfV A0 t k many) ie (nI k) i).length := by
      rw [List.length_append]
      have := emP_len (put := put) (a := (ixL (raN A0 (nI k) (nI la) many).isSome (rfO A0 t k many) (rwV A0 (raN A0 (nI k) (nI la) many)) (rfV A0 t k many) ie (nI k) i).map (mkE la (rfV A0 t k many)))
      rw [List.length_map] at this
      omega
    have hel : put = true → (E ++ emP put ((ixL (raN A0 (nI k) (nI la) many).isSome (rfO A0 t k many) (rwV A0 (raN A0 (nI k) (nI la) many)) (rfV A0 t k many) ie (nI k) i).map (mkE la (rfV A0 t k many)))).length = E.length + (ixL (raN A0 (nI k) (nI la) many).isSome (rfO A0 t k many) (rwV A0 (raN A0 (nI k) (nI la) many)) (rfV A0 t k many) ie (nI k) i).length := fun hp => by
      rw [List.length_append, hp]
      simp [emP]
    have hbm : many + (E ++ emP put ((ixL (raN A0 (nI k) (nI la) many).isSome (rfO A0 t k many) (rwV A0 (raN A0 (nI k) (nI la) many)) (rfV A0 t k many) ie (nI k) i).map (mkE la (rfV A0 t k many)))).length ≤ 520 := by
      cases put with
      | true => have := hcap rfl; omega
      | false => simpa [emP] using hcE
    have k46 : Ev X mX9_batch (d + 3) 46 [some (rV (some 11)), some (iV (nI t)), some (iV (bZ put)), some (iV (nI (c0 + (ixL (raN A0 (nI k) (nI la) many).isSome (rfO A0 t k many) (rwV A0 (raN A0 (nI k) (nI la) many)) (rfV A0 t k many) ie (nI k) i).length))), some (iV (nI k)), some (iV x5), some (iV (nI i)), w7, w8, w9, w10, w11, w12] [] (K, I, J, R, A, B, Ln, n, sl) Q := by
      refine bt_1 hM hB hla (by rw [hF 594 11 (by omega)]; exact hl) hm (by omega) ht hk (by omega) hbe (hE i (by omega)).1 (hE i (by omega)).2 (hn1 k hk) (hn2 k hk) ?_
      intro A1 hB1 hr1
      refine bt_2 hM ?_
      refine bt_3 hM ?_
      refine bt_4 (d := d + 2) (w8 := none) (w11 := none) hM hB1 (by rw [hF 594 11 (by omega)]; exact hl) hm (fun h1 h2 => by rw [if_pos h2] at hlen; have := hcap h1; have := hel h1; omega) hr1 ?_
      intro I2 A2 hB2 hr2 hm2 hF2
      refine bt_5 (d := d + 2) (w10 := none) (w12 := none) hM hB2 (by rw [hF2 594 11 (by omega), hF 594 11 (by omega)]; exact hl) hm2 (fun h1 h2 => by rw [if_pos h2] at hlen; have := hcap h1; have := hel h1; have h5 := em_len5 (put := put) (em := (E ++ emP put ((ixL (raN A0 (nI k) (nI la) many).isSome (rfO A0 t k many) (rwV A0 (raN A0 (nI k) (nI la) many)) (rfV A0 t k many) ie (nI k) i).map (mkE la (rfV A0 t k many))))) (g := goneB (raN A0 (nI k) (nI la) many).isSome (rfO A0 t k many) (vlE (rwV A0 (raN A0 (nI k) (nI la) many)) (ie i)) (vlE (rfV A0 t k many) (ie i))) (x := mkE la (rfV A0 t k many) (nI (i + 1), vlE (rwV A0 (raN A0 (nI k) (nI la) many)) (ie i), nI k, 0)); omega) hr2 ?_
      intro I3 A3 hB3 hr3 hm3 hF3
      rw [ix_step] at hB3 hm3
      have hgo := fun w7 w8 w9 w10 w11 w12 => ih (i + 1) I3 A3 x5 w7 w8 w9 w10 w11 w12 (by omega) hB3 hm3 (fun f i hfi => (hF3 f i hfi).trans ((hF2 f i hfi).trans (hF f i hfi)))
      have hcc : c0 + (ixL (raN A0 (nI k) (nI la) many).isSome (rfO A0 t k many) (rwV A0 (raN A0 (nI k) (nI la) many)) (rfV A0 t k many) ie (nI k) (i + 1)).length = c0 + (ixL (raN A0 (nI k) (nI la) many).isSome (rfO A0 t k many) (rwV A0 (raN A0 (nI k) (nI la) many)) (rfV A0 t k many) ie (nI k) i).length + ((if goneB (raN A0 (nI k) (nI la) many).isSome (rfO A0 t k many) (vlE (rwV A0 (raN A0 (nI k) (nI la) many)) (ie i)) (vlE (rfV A0 t k many) (ie i)) = true then 1 else 0) + (if goneB (rfO A0 t k many) (raN A0 (nI k) (nI la) many).isSome (vlE (rwV A0 (raN A0 (nI k) (nI la) many)) (ie i)) (vlE (rfV A0 t k many) (ie i)) = true then 1 else 0)) := by rw [ix_len, Nat.add_assoc]
      simp only [hcc] at hgo
      refine ev_iincNS (b := 1) dX9_batch_205 rfl (by decide) (by decide) rfl ?_
      refine ev_goto 37 dX9_batch_208 (by decide) ?_
      exact hgo _ _ _ _ _ _
    refine ev_iload dX9_batch_37 rfl ?_
    refine ev_aload_n dX9_batch_39 rfl ?_
    refine ev_getIv dX9_batch_40 fX9_100 hM.m hix' ?_
    refine ev_icmp_geN 211 dX9_batch_43 (by decide) (by omega) (by omega) (fun c43 => absurd c43 (by omega)) (fun c43 => ?_)
    exact k46
end M30
