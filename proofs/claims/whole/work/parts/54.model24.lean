section M24
variable {X : CX} {d : Nat} {K : Nat → Nat} {I : Nat → Nat → Int32} {J : Nat → Nat → Int64} {R : Nat → Nat → Option Nat} {A : Nat → Nat → Int32} {B : Nat → Nat → Option Nat} {Ln : Nat → Nat} {n sl : Nat}
/-- the fourth loop of 'compacts' in its midst -/
def C4I (I A I' A' : Nat → Nat → Int32) (fl : List (Int32 × Int32)) : Prop := (∀ i, i ∉ [23, 24] → A' i = A i) ∧ FlA A' fl ∧ I' 590 11 = nI fl.length ∧ ∀ f i, ¬ (f = 590 ∧ i = 11) → I' f i = I f i
def kpF (src : Int32) (p : Int32 × Int32) : Bool := decide (¬ (p.1 < 0 ∨ p.1 = src))
set_option maxRecDepth 100000 in
set_option maxHeartbeats 4000000 in
theorem lp_c5 {Q : Option LV → GH → Prop} (hM : MFix K R Ln) {I0 A0 : Nat → Nat → Int32} {l src : Int32} {it : Nat} {fl : List (Int32 × Int32)} (kont : ∀ I' A' w4 w5 w6, C4I I0 A0 I' A' fl → Ev X mX9_compacts (d + 4) 225 [some (rV (some 11)), some (iV l), some (iV (nI it)), some (iV src), w4, w5, w6] [] (K, I', J, R, A', B, Ln, n, sl) Q) : ∀ (k : Nat) (pre post : List (Int32 × Int32)) (I A : Nat → Nat → Int32) (w5 w6 : Option LV), pre.length = k → (pre ++ post).length ≤ 520 → fl = pre.filter (kpF src) ++ post → C4I I0 A0 I A (pre ++ post) → Ev X mX9_compacts (d + 4) 187 [some (rV (some 11)), some (iV l), some (iV (nI it)), some (iV src), some (iV (dI k)), w5, w6] [] (K, I, J, R, A, B, Ln, n, sl) Q := by
  intro k
  induction k with
  | zero =>
    intro pre post I A w5 w6 hl hb hf hI
    have hp : pre = [] := List.eq_nil_of_length_eq_zero hl
    subst hp
    have hpf : fl = post := hf
    subst hpf
    rw [dI_0]
    refine ev_iload dX9_compacts_187 rfl ?_
    refine ev_if_lt 225 dX9_compacts_189 (by decide) (fun c189 => ?_) (fun c189 => absurd (by decide) c189)
    exact kont I A _ _ _ hI
  | succ k ih =>
    intro pre post I A w5 w6 hl hb hf hI
    obtain ⟨q, p, rfl, hq⟩ := snoc_of hl
    obtain ⟨i1, i2, i3, i4⟩ := hI
    have i2' : FlA A (q ++ p :: post) := by rw [List.append_assoc] at i2; exact i2
    have hlen : (q ++ [p] ++ post).length = (q ++ p :: post).length := by rw [List.append_assoc]; rfl
    rw [hlen] at i3 hb
    have hb' := hb
    rw [List.length_append, List.length_cons, hq] at hb'
    have hmid := i2'.mid
    rw [hq] at hmid
    rw [dI_s]
    have k219 : ∀ (I' A' : Nat → Nat → Int32) (post' : List (Int32 × Int32)) (w5 w6 : Option LV), (q ++ post').length ≤ 520 → fl = q.filter (kpF src) ++ post' → C4I I0 A0 I' A' (q ++ post') → Ev X mX9_compacts (d + 4) 219 [some (rV (some 11)), some (iV l), some (iV (nI it)), some (iV src), some (iV (nI (k))), w5, w6] [] (K, I', J, R, A', B, Ln, n, sl) Q := by
      intro I' A' post' w5 w6 hb2 hf2 hC
      refine ev_iincS dX9_compacts_219 rfl (by decide) rfl ?_
      refine ev_goto 187 dX9_compacts_222 (by decide) ?_
      exact ih q post' I' A' _ _ hq hb2 hf2 hC
    by_cases hk : p.1 < 0 ∨ p.1 = src
    · have hgo : Ev X mX9_compacts (d + 4) 213 [some (rV (some 11)), some (iV l), some (iV (nI it)), some (iV src), some (iV (nI (k))), w5, w6] [] (K, I, J, R, A, B, Ln, n, sl) Q := by
        refine ev_aload_n dX9_compacts_213 rfl ?_
        refine ev_iload dX9_compacts_214 rfl ?_
        refine ev_callV dX9_compacts_216 okX9_dropFile inX9_dropFile seX9_dropFile mlX9_194 hM.m (by decide) rfl [iV _] rfl rfl (Nat.le_of_ble_eq_true rfl) (Nat.le_of_ble_eq_true rfl) (sp_drop hM i3 hb (by rw [List.length_append, List.length_cons, hq]; omega)) (fun r_ G_ h_ => ?_)
        obtain ⟨rfl, rfl⟩ := h_
        try dsimp only [Option.toList, List.cons_append, List.nil_append]
        refine k219 _ _ post _ _ (by rw [List.length_append]; omega) (by rw [hf, List.filter_append, List.append_assoc]; simp [kpF, hk]) ⟨fun i hi => ?_, ?_, ?_, fun f i hfi => ?_⟩
        · rw [← i1 i hi]
          simp only [List.mem_cons, List.not_mem_nil, or_false, not_or] at hi
          funext j
          unfold drA
          rw [if_neg (by omega)]
        · rw [← hq]
          exact i2'.drop
        · rw [u2_self]
          rw [List.length_append, List.length_append, List.length_cons]
          rfl
        · rw [show u2 I 590 11 (nI ((q ++ p :: post).length - 1)) f i = I f i from if_neg hfi]
          exact i4 f i hfi
      by_cases hneg : p.1 < 0
      · skip
        refine ev_iload dX9_compacts_187 rfl ?_
        refine ev_if_ltN 225 dX9_compacts_189 (by decide) (by omega) ?_
        refine ev_aload_n dX9_compacts_192 rfl ?_
        refine ev_getR dX9_compacts_193 fX9_44 hM.m hM.R_number ?_
        refine ev_iload dX9_compacts_196 rfl ?_
        refine ev_ialdv dX9_compacts_198 hM.K_number hM.L_number (by decide) (by omega) hmid.1 ?_
        refine ev_if_lt 213 dX9_compacts_199 (by decide) (fun c199 => ?_) (fun c199 => absurd hneg c199)
        exact hgo
      · have hsr : p.1 = src := hk.resolve_left hneg
        refine ev_iload dX9_compacts_187 rfl ?_
        refine ev_if_ltN 225 dX9_compacts_189 (by decide) (by omega) ?_
        refine ev_aload_n dX9_compacts_192 rfl ?_
        refine ev_getR dX9_compacts_193 fX9_44 hM.m hM.R_number ?_
        refine ev_iload dX9_compacts_196 rfl ?_
        refine ev_ialdv dX9_compacts_198 hM.K_number hM.L_number (by decide) (by omega) hmid.1 ?_
        refine ev_if_lt 213 dX9_compacts_199 (by decide) (fun c199 => absurd c199 hneg) (fun c199 => ?_)
        refine ev_aload_n dX9_compacts_202 rfl ?_
        refine ev_getR dX9_compacts_203 fX9_44 hM.m hM.R_number ?_
        refine ev_iload dX9_compacts_206 rfl ?_
        refine ev_ialdv dX9_compacts_208 hM.K_number hM.L_number (by decide) (by omega) hmid.1 ?_
        refine ev_iload_n dX9_compacts_209 rfl ?_
        refine ev_icmp_ne 219 dX9_compacts_210 (by decide) (fun c210 => absurd hsr c210) (fun c210 => ?_)
        exact hgo
    · have hn1 : ¬ p.1 < 0 := fun z => hk (Or.inl z)
      have hn2 : ¬ p.1 = src := fun z => hk (Or.inr z)
      refine ev_iload dX9_compacts_187 rfl ?_
      refine ev_if_ltN 225 dX9_compacts_189 (by decide) (by omega) ?_
      refine ev_aload_n dX9_compacts_192 rfl ?_
      refine ev_getR dX9_compacts_193 fX9_44 hM.m hM.R_number ?_
      refine ev_iload dX9_compacts_196 rfl ?_
      refine ev_ialdv dX9_compacts_198 hM.K_number hM.L_number (by decide) (by omega) hmid.1 ?_
      refine ev_if_lt 213 dX9_compacts_199 (by decide) (fun c199 => absurd c199 hn1) (fun c199 => ?_)
      refine ev_aload_n dX9_compacts_202 rfl ?_
      refine ev_getR dX9_compacts_203 fX9_44 hM.m hM.R_number ?_
      refine ev_iload dX9_compacts_206 rfl ?_
      refine ev_ialdv dX9_compacts_208 hM.K_number hM.L_number (by decide) (by omega) hmid.1 ?_
      refine ev_iload_n dX9_compacts_209 rfl ?_
      refine ev_icmp_ne 219 dX9_compacts_210 (by decide) (fun c210 => ?_) (fun c210 => absurd c210 hn2)
      exact k219 I A (p :: post) _ _ hb (by rw [hf, List.filter_append, List.append_assoc]; simp [kpF, hn1, hn2]) ⟨i1, i2', i3, i4⟩
end M24
