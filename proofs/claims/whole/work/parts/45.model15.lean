section M15
variable {X : CX} {d : Nat} {K : Nat → Nat} {I : Nat → Nat → Int32} {J : Nat → Nat → Int64} {R : Nat → Nat → Option Nat} {A : Nat → Nat → Int32} {B : Nat → Nat → Option Nat} {Ln : Nat → Nat} {n sl : Nat}
def SlotSame (A A' : Nat → Nat → Int32) (j : Nat) : Prop := A' 12 j = A 12 j ∧ A' 15 j = A 15 j ∧ ∀ k, k < 15 → A' 13 (15 * j + k) = A 13 (15 * j + k) ∧ A' 14 (15 * j + k) = A 14 (15 * j + k)
def withV (m : Nat) (v : Int32) : Int32 := if m = 3 ∨ m = 12 then v else 0
def ofB (m : Nat) : Nat := if 9 ≤ m ∧ m ≤ 11 then 1 else 0
/-- what 'say' leaves: expression e in place q of the pile, q + 1 expressions -/
def SayQ (K : Nat → Nat) (I : Nat → Nat → Int32) (J : Nat → Nat → Int64) (R : Nat → Nat → Option Nat) (A : Nat → Nat → Int32) (B : Nat → Nat → Option Nat) (Ln : Nat → Nat) (n sl : Nat) (q m : Nat) (e : EX) (r : Option LV) (G' : GH) : Prop := r = some (iV 1) ∧ ∃ A', G' = (K, u2 I 576 11 (nI (q + 1)), J, R, A', B, Ln, n, sl) ∧ (∀ i, i ∉ [12, 13, 14, 15] → A' i = A i) ∧ ExA A' q e ∧ A' 15 q = bZ (decide (7 ≤ m)) ∧ ∀ j, j ≠ q → j < 11 → SlotSame A A' j
set_option maxRecDepth 100000 in
set_option maxHeartbeats 4000000 in
theorem say_end (hM : MFix K R Ln) {A1 : Nat → Nat → Int32} {m q tot : Nat} {v : Int32} {e : EX} {w3 w6 w7 : Option LV} (hm : m ≤ 12) (hq : q < 8) (ht : tot + 1 ≤ 15) (he : e.length = tot) (hx : ∀ k on, e[k]? = some on → A1 13 (15 * q + k) = nI on.1 ∧ A1 14 (15 * q + k) = on.2) (hr : ∀ i, i ∉ [12, 13, 14, 15] → A1 i = A i) (hs : ∀ j, j ≠ q → j < 11 → SlotSame A A1 j) : Ev X mX9_say (d + 1) 248 [some (rV (some 11)), some (iV (nI m)), some (iV v), w3, some (iV (nI (tot + 1))), some (iV (nI (q))), w6, w7] [] (K, I, J, R, A1, B, Ln, n, sl) (SayQ K I J R A B Ln n sl q m (e ++ [(m, withV m v)])) := by
  have fin : ∀ (x y : Int32) (I' : Nat → Nat → Int32), x = withV m v → y = bZ (decide (7 ≤ m)) → I' = u2 I 576 11 (nI (q + 1)) → SayQ K I J R A B Ln n sl q m (e ++ [(m, withV m v)]) (some (iV (nI 1))) (K, I', J, R, u2 (u2 (u2 (u2 A1 13 (15 * q + (tot + 1) - 1) (nI m)) 14 (15 * q + (tot + 1) - 1) x) 12 q (nI (tot + 1))) 15 q y, B, Ln, n, sl) := by
    intro x y I' hx' hy' hI'
    subst hI'
    rw [show 15 * q + (tot + 1) - 1 = 15 * q + tot by omega]
    generalize hF : u2 (u2 (u2 (u2 A1 13 (15 * q + tot) (nI m)) 14 (15 * q + tot) x) 12 q (nI (tot + 1))) 15 q y = F
    have r13 : ∀ j, F 13 j = if j = 15 * q + tot then nI m else A1 13 j := fun j => by rw [← hF]; simp [u2]
    have r14 : ∀ j, F 14 j = if j = 15 * q + tot then x else A1 14 j := fun j => by rw [← hF]; simp [u2]
    have r12 : ∀ j, F 12 j = if j = q then nI (tot + 1) else A1 12 j := fun j => by rw [← hF]; simp [u2]
    have r15 : ∀ j, F 15 j = if j = q then y else A1 15 j := fun j => by rw [← hF]; simp [u2]
    refine ⟨rfl, F, rfl, fun i hi => ?_, ⟨?_, ?_, fun k on hk => ?_⟩, ?_, fun j hj hj2 => ?_⟩
    · have hi' := hi
      simp only [List.mem_cons, List.not_mem_nil, or_false, not_or] at hi'
      rw [← hF, u2_row' hi'.2.2.2, u2_row' hi'.1, u2_row' hi'.2.2.1, u2_row' hi'.2.1]
      exact hr i hi
    · rw [r12, if_pos rfl, List.length_append, he]
      rfl
    · rw [List.length_append, he]
      show tot + 1 ≤ 15
      omega
    · have kl : k < tot + 1 := by
        have := (List.getElem?_eq_some_iff.mp hk).1
        rw [List.length_append, he] at this
        exact this
      rw [r13, r14]
      by_cases hkt : k = tot
      · subst hkt
        rw [List.getElem?_append_right (by omega), he, Nat.sub_self] at hk
        have e1 : on = (m, withV m v) := (Option.some.inj hk).symm
        subst e1
        rw [if_pos rfl, if_pos rfl]
        exact ⟨rfl, hx'⟩
      · rw [List.getElem?_append_left (by omega)] at hk
        rw [if_neg (by omega), if_neg (by omega)]
        exact hx k on hk
    · rw [r15, if_pos rfl]
      exact hy'
    · obtain ⟨a1, a2, a3⟩ := hs j hj hj2
      refine ⟨by rw [r12, if_neg hj]; exact a1, by rw [r15, if_neg hj]; exact a2, fun k hk => ?_⟩
      rw [r13, r14, if_neg (by omega), if_neg (by omega)]
      exact a3 k hk
  refine ev_aload_n dX9_say_248 rfl ?_
  refine ev_getR dX9_say_249 fX9_13 hM.m hM.R_op ?_
  refine ev_bipushN 15 dX9_say_252 (by decide) ?_
  refine ev_iload dX9_say_254 rfl ?_
  refine ev_imulN dX9_say_256 ?_
  refine ev_iload dX9_say_257 rfl ?_
  refine ev_iaddN dX9_say_259 ?_
  refine ev_iconstN 1 dX9_say_260 (by decide) ?_
  refine ev_isubN dX9_say_261 (by omega) ?_
  refine ev_iload_n dX9_say_262 rfl ?_
  refine ev_iast dX9_say_263 hM.K_op hM.L_op (by decide) (by omega) ?_
  refine ev_aload_n dX9_say_264 rfl ?_
  refine ev_getR dX9_say_265 fX9_16 hM.m hM.R_with ?_
  refine ev_bipushN 15 dX9_say_268 (by decide) ?_
  refine ev_iload dX9_say_270 rfl ?_
  refine ev_imulN dX9_say_272 ?_
  refine ev_iload dX9_say_273 rfl ?_
  refine ev_iaddN dX9_say_275 ?_
  refine ev_iconstN 1 dX9_say_276 (by decide) ?_
  refine ev_isubN dX9_say_277 (by omega) ?_
  refine ev_iload_n dX9_say_278 rfl ?_
  refine ev_iconstN 3 dX9_say_279 (by decide) ?_
  refine ev_icmp_eqN 289 dX9_say_280 (by decide) (by omega) (by omega) (fun c280 => ?_) (fun c280 => ?_)
  · refine ev_iload_n dX9_say_289 rfl ?_
    refine ev_goto 294 dX9_say_290 (by decide) ?_
    refine ev_iast dX9_say_294 hM.K_with hM.L_with (by decide) (by omega) ?_
    refine ev_aload_n dX9_say_295 rfl ?_
    refine ev_getR dX9_say_296 fX9_7 hM.m hM.R_nodes ?_
    refine ev_iload dX9_say_299 rfl ?_
    refine ev_iload dX9_say_301 rfl ?_
    refine ev_iast dX9_say_303 hM.K_nodes hM.L_nodes (by decide) (by omega) ?_
    refine ev_aload_n dX9_say_304 rfl ?_
    refine ev_getR dX9_say_305 fX9_19 hM.m hM.R_bool ?_
    refine ev_iload dX9_say_308 rfl ?_
    refine ev_iload_n dX9_say_310 rfl ?_
    refine ev_bipushN 7 dX9_say_311 (by decide) ?_
    refine ev_icmp_ltN 320 dX9_say_313 (by decide) (by omega) (by omega) (fun c313 => ?_) (fun c313 => ?_)
    · refine ev_iconstN 0 dX9_say_320 (by decide) ?_
      refine ev_zast dX9_say_321 hM.K_bool hM.L_bool (by decide) (by omega) (by decide) ?_
      refine ev_aload_n dX9_say_322 rfl ?_
      refine ev_iload dX9_say_323 rfl ?_
      refine ev_iconstN 1 dX9_say_325 (by decide) ?_
      refine ev_iaddN dX9_say_326 ?_
      refine ev_putI dX9_say_327 fX9_85 (Or.inl rfl) (Or.inl rfl) hM.m ?_
      refine ev_iconstN 1 dX9_say_330 (by decide) ?_
      refine ev_zreturn dX9_say_331 rfl (by decide) ?_
      first | exact fin v (nI 1) _ (by simp [withV, *]) (by rw [decide_eq_true (by omega)]; rfl) rfl | exact fin v (nI 0) _ (by simp [withV, *]) (by rw [decide_eq_false (by omega)]; rfl) rfl | exact fin (nI 0) (nI 1) _ (by simp [withV, *]; rfl) (by rw [decide_eq_true (by omega)]; rfl) rfl | exact fin (nI 0) (nI 0) _ (by simp [withV, *]; rfl) (by rw [decide_eq_false (by omega)]; rfl) rfl
    · refine ev_iconstN 1 dX9_say_316 (by decide) ?_
      refine ev_goto 321 dX9_say_317 (by decide) ?_
      refine ev_zast dX9_say_321 hM.K_bool hM.L_bool (by decide) (by omega) (by decide) ?_
      refine ev_aload_n dX9_say_322 rfl ?_
      refine ev_iload dX9_say_323 rfl ?_
      refine ev_iconstN 1 dX9_say_325 (by decide) ?_
      refine ev_iaddN dX9_say_326 ?_
      refine ev_putI dX9_say_327 fX9_85 (Or.inl rfl) (Or.inl rfl) hM.m ?_
      refine ev_iconstN 1 dX9_say_330 (by decide) ?_
      refine ev_zreturn dX9_say_331 rfl (by decide) ?_
      first | exact fin v (nI 1) _ (by simp [withV, *]) (by rw [decide_eq_true (by omega)]; rfl) rfl | exact fin v (nI 0) _ (by simp [withV, *]) (by rw [decide_eq_false (by omega)]; rfl) rfl | exact fin (nI 0) (nI 1) _ (by simp [withV, *]; rfl) (by rw [decide_eq_true (by omega)]; rfl) rfl | exact fin (nI 0) (nI 0) _ (by simp [withV, *]; rfl) (by rw [decide_eq_false (by omega)]; rfl) rfl
  · refine ev_iload_n dX9_say_283 rfl ?_
    refine ev_bipushN 12 dX9_say_284 (by decide) ?_
    refine ev_icmp_neN 293 dX9_say_286 (by decide) (by omega) (by omega) (fun c286 => ?_) (fun c286 => ?_)
    · refine ev_iconstN 0 dX9_say_293 (by decide) ?_
      refine ev_iast dX9_say_294 hM.K_with hM.L_with (by decide) (by omega) ?_
      refine ev_aload_n dX9_say_295 rfl ?_
      refine ev_getR dX9_say_296 fX9_7 hM.m hM.R_nodes ?_
      refine ev_iload dX9_say_299 rfl ?_
      refine ev_iload dX9_say_301 rfl ?_
      refine ev_iast dX9_say_303 hM.K_nodes hM.L_nodes (by decide) (by omega) ?_
      refine ev_aload_n dX9_say_304 rfl ?_
      refine ev_getR dX9_say_305 fX9_19 hM.m hM.R_bool ?_
      refine ev_iload dX9_say_308 rfl ?_
      refine ev_iload_n dX9_say_310 rfl ?_
      refine ev_bipushN 7 dX9_say_311 (by decide) ?_
      refine ev_icmp_ltN 320 dX9_say_313 (by decide) (by omega) (by omega) (fun c313 => ?_) (fun c313 => ?_)
      · refine ev_iconstN 0 dX9_say_320 (by decide) ?_
        refine ev_zast dX9_say_321 hM.K_bool hM.L_bool (by decide) (by omega) (by decide) ?_
        refine ev_aload_n dX9_say_322 rfl ?_
        refine ev_iload dX9_say_323 rfl ?_
        refine ev_iconstN 1 dX9_say_325 (by decide) ?_
        refine ev_iaddN dX9_say_326 ?_
        refine ev_putI dX9_say_327 fX9_85 (Or.inl rfl) (Or.inl rfl) hM.m ?_
        refine ev_iconstN 1 dX9_say_330 (by decide) ?_
        refine ev_zreturn dX9_say_331 rfl (by decide) ?_
        first | exact fin v (nI 1) _ (by simp [withV, *]) (by rw [decide_eq_true (by omega)]; rfl) rfl | exact fin v (nI 0) _ (by simp [withV, *]) (by rw [decide_eq_false (by omega)]; rfl) rfl | exact fin (nI 0) (nI 1) _ (by simp [withV, *]; rfl) (by rw [decide_eq_true (by omega)]; rfl) rfl | exact fin (nI 0) (nI 0) _ (by simp [withV, *]; rfl) (by rw [decide_eq_false (by omega)]; rfl) rfl
      · refine ev_iconstN 1 dX9_say_316 (by decide) ?_
        refine ev_goto 321 dX9_say_317 (by decide) ?_
        refine ev_zast dX9_say_321 hM.K_bool hM.L_bool (by decide) (by omega) (by decide) ?_
        refine ev_aload_n dX9_say_322 rfl ?_
        refine ev_iload dX9_say_323 rfl ?_
        refine ev_iconstN 1 dX9_say_325 (by decide) ?_
        refine ev_iaddN dX9_say_326 ?_
        refine ev_putI dX9_say_327 fX9_85 (Or.inl rfl) (Or.inl rfl) hM.m ?_
        refine ev_iconstN 1 dX9_say_330 (by decide) ?_
        refine ev_zreturn dX9_say_331 rfl (by decide) ?_
        first | exact fin v (nI 1) _ (by simp [withV, *]) (by rw [decide_eq_true (by omega)]; rfl) rfl | exact fin v (nI 0) _ (by simp [withV, *]) (by rw [decide_eq_false (by omega)]; rfl) rfl | exact fin (nI 0) (nI 1) _ (by simp [withV, *]; rfl) (by rw [decide_eq_true (by omega)]; rfl) rfl | exact fin (nI 0) (nI 0) _ (by simp [withV, *]; rfl) (by rw [decide_eq_false (by omega)]; rfl) rfl
    · refine ev_iload_n dX9_say_289 rfl ?_
      refine ev_goto 294 dX9_say_290 (by decide) ?_
      refine ev_iast dX9_say_294 hM.K_with hM.L_with (by decide) (by omega) ?_
      refine ev_aload_n dX9_say_295 rfl ?_
      refine ev_getR dX9_say_296 fX9_7 hM.m hM.R_nodes ?_
      refine ev_iload dX9_say_299 rfl ?_
      refine ev_iload dX9_say_301 rfl ?_
      refine ev_iast dX9_say_303 hM.K_nodes hM.L_nodes (by decide) (by omega) ?_
      refine ev_aload_n dX9_say_304 rfl ?_
      refine ev_getR dX9_say_305 fX9_19 hM.m hM.R_bool ?_
      refine ev_iload dX9_say_308 rfl ?_
      refine ev_iload_n dX9_say_310 rfl ?_
      refine ev_bipushN 7 dX9_say_311 (by decide) ?_
      refine ev_icmp_ltN 320 dX9_say_313 (by decide) (by omega) (by omega) (fun c313 => ?_) (fun c313 => ?_)
      · refine ev_iconstN 0 dX9_say_320 (by decide) ?_
        refine ev_zast dX9_say_321 hM.K_bool hM.L_bool (by decide) (by omega) (by decide) ?_
        refine ev_aload_n dX9_say_322 rfl ?_
        refine ev_iload dX9_say_323 rfl ?_
        refine ev_iconstN 1 dX9_say_325 (by decide) ?_
        refine ev_iaddN dX9_say_326 ?_
        refine ev_putI dX9_say_327 fX9_85 (Or.inl rfl) (Or.inl rfl) hM.m ?_
        refine ev_iconstN 1 dX9_say_330 (by decide) ?_
        refine ev_zreturn dX9_say_331 rfl (by decide) ?_
        first | exact fin v (nI 1) _ (by simp [withV, *]) (by rw [decide_eq_true (by omega)]; rfl) rfl | exact fin v (nI 0) _ (by simp [withV, *]) (by rw [decide_eq_false (by omega)]; rfl) rfl | exact fin (nI 0) (nI 1) _ (by simp [withV, *]; rfl) (by rw [decide_eq_true (by omega)]; rfl) rfl | exact fin (nI 0) (nI 0) _ (by simp [withV, *]; rfl) (by rw [decide_eq_false (by omega)]; rfl) rfl
      · refine ev_iconstN 1 dX9_say_316 (by decide) ?_
        refine ev_goto 321 dX9_say_317 (by decide) ?_
        refine ev_zast dX9_say_321 hM.K_bool hM.L_bool (by decide) (by omega) (by decide) ?_
        refine ev_aload_n dX9_say_322 rfl ?_
        refine ev_iload dX9_say_323 rfl ?_
        refine ev_iconstN 1 dX9_say_325 (by decide) ?_
        refine ev_iaddN dX9_say_326 ?_
        refine ev_putI dX9_say_327 fX9_85 (Or.inl rfl) (Or.inl rfl) hM.m ?_
        refine ev_iconstN 1 dX9_say_330 (by decide) ?_
        refine ev_zreturn dX9_say_331 rfl (by decide) ?_
        first | exact fin v (nI 1) _ (by simp [withV, *]) (by rw [decide_eq_true (by omega)]; rfl) rfl | exact fin v (nI 0) _ (by simp [withV, *]) (by rw [decide_eq_false (by omega)]; rfl) rfl | exact fin (nI 0) (nI 1) _ (by simp [withV, *]; rfl) (by rw [decide_eq_true (by omega)]; rfl) rfl | exact fin (nI 0) (nI 0) _ (by simp [withV, *]; rfl) (by rw [decide_eq_false (by omega)]; rfl) rfl
set_option maxRecDepth 100000 in
set_option maxHeartbeats 4000000 in
theorem sp_say0 (hM : MFix K R Ln) {m p : Nat} {v : Int32} (hm : m ≤ 12) (hnm : m = 12 → nmB v = 1) (hn : needM m = 0) (hp : I 576 11 = nI p) (hp8 : p < 8) : EvM X mX9_say (d + 1) [rV (some 11), iV (nI m), iV v] (K, I, J, R, A, B, Ln, n, sl) (SayQ K I J R A B Ln n sl p m [(m, withV m v)]) := by
  have hm0 : m < 4 ∨ m = 12 := by
    unfold needM at hn
    split at hn
    · assumption
    · split at hn <;> cases hn
  show Ev X mX9_say (d + 1) 0 [some (rV (some 11)), some (iV (nI m)), some (iV v), none, none, none, none, none] [] (K, I, J, R, A, B, Ln, n, sl) _
  refine ev_iload_n dX9_say_0 rfl ?_
  refine ev_if_ltN 34 dX9_say_1 (by decide) (by omega) ?_
  refine ev_iload_n dX9_say_4 rfl ?_
  refine ev_bipushN 12 dX9_say_5 (by decide) ?_
  refine ev_icmp_gtN 34 dX9_say_7 (by decide) (by omega) (by omega) (fun c7 => absurd c7 (by omega)) (fun c7 => ?_)
  refine ev_iload_n dX9_say_10 rfl ?_
  refine ev_bipushN 12 dX9_say_11 (by decide) ?_
  refine ev_icmp_neN 23 dX9_say_13 (by decide) (by omega) (by omega) (fun c13 => ?_) (fun c13 => ?_)
  · refine ev_aload_n dX9_say_23 rfl ?_
    refine ev_getIv dX9_say_24 fX9_85 hM.m hp ?_
    refine ev_iload_n dX9_say_27 rfl ?_
    refine ev_callS dX9_say_28 okX9_needs stX9_needs mlX9_88 [iV _] rfl rfl (Nat.le_of_ble_eq_true rfl) (Nat.le_of_ble_eq_true rfl) (sp_needs) (fun r_ G_ h_ => ?_)
    obtain ⟨rfl, rfl⟩ := h_
    rw [needN_nI hm, hn]
    try dsimp only [Option.toList, List.cons_append, List.nil_append]
    refine ev_icmp_geN 36 dX9_say_31 (by decide) (by omega) (by omega) (fun c31 => ?_) (fun c31 => absurd c31 (by omega))
    refine ev_iload_n dX9_say_36 rfl ?_
    refine ev_bipushN 9 dX9_say_37 (by decide) ?_
    refine ev_icmp_ltN 52 dX9_say_39 (by decide) (by omega) (by omega) (fun c39 => ?_) (fun c39 => ?_)
    · refine ev_iconstN 0 dX9_say_52 (by decide) ?_
      refine ev_istore_nS dX9_say_53 (by decide) rfl ?_
      refine ev_iconstN 1 dX9_say_54 (by decide) ?_
      refine ev_istoreS dX9_say_55 (by decide) rfl ?_
      refine ev_aload_n dX9_say_57 rfl ?_
      refine ev_getIv dX9_say_58 fX9_85 hM.m hp ?_
      refine ev_iload_n dX9_say_61 rfl ?_
      refine ev_callS dX9_say_62 okX9_needs stX9_needs mlX9_88 [iV _] rfl rfl (Nat.le_of_ble_eq_true rfl) (Nat.le_of_ble_eq_true rfl) (sp_needs) (fun r_ G_ h_ => ?_)
      obtain ⟨rfl, rfl⟩ := h_
      rw [needN_nI hm, hn]
      try dsimp only [Option.toList, List.cons_append, List.nil_append]
      refine ev_isubN dX9_say_65 (by omega) ?_
      refine ev_istoreS dX9_say_66 (by decide) rfl ?_
      refine ev_iload dX9_say_68 rfl ?_
      refine ev_aload_n dX9_say_70 rfl ?_
      refine ev_getIv dX9_say_71 fX9_85 hM.m hp ?_
      refine ev_icmp_geN 108 dX9_say_74 (by decide) (by omega) (by omega) (fun c74 => ?_) (fun c74 => absurd c74 (by omega))
      refine ev_aload_n dX9_say_108 rfl ?_
      refine ev_getIv dX9_say_109 fX9_85 hM.m hp ?_
      refine ev_iload_n dX9_say_112 rfl ?_
      refine ev_callS dX9_say_113 okX9_needs stX9_needs mlX9_88 [iV _] rfl rfl (Nat.le_of_ble_eq_true rfl) (Nat.le_of_ble_eq_true rfl) (sp_needs) (fun r_ G_ h_ => ?_)
      obtain ⟨rfl, rfl⟩ := h_
      rw [needN_nI hm, hn]
      try dsimp only [Option.toList, List.cons_append, List.nil_append]
      refine ev_isubN dX9_say_116 (by omega) ?_
      refine ev_istoreS dX9_say_117 (by decide) rfl ?_
      refine ev_iload dX9_say_119 rfl ?_
      refine ev_bipushN 8 dX9_say_121 (by decide) ?_
      refine ev_icmp_eqN 133 dX9_say_123 (by decide) (by omega) (by omega) (fun c123 => absurd c123 (by omega)) (fun c123 => ?_)
      refine ev_iload dX9_say_126 rfl ?_
      refine ev_bipushN 15 dX9_say_128 (by decide) ?_
      refine ev_icmp_leN 135 dX9_say_130 (by decide) (by omega) (by omega) (fun c130 => ?_) (fun c130 => absurd c130 (by decide))
      refine ev_iload_n dX9_say_135 rfl ?_
      refine ev_callS dX9_say_136 okX9_needs stX9_needs mlX9_88 [iV _] rfl rfl (Nat.le_of_ble_eq_true rfl) (Nat.le_of_ble_eq_true rfl) (sp_needs) (fun r_ G_ h_ => ?_)
      obtain ⟨rfl, rfl⟩ := h_
      rw [needN_nI hm, hn]
      try dsimp only [Option.toList, List.cons_append, List.nil_append]
      refine ev_if_neN 146 dX9_say_139 (by decide) (by omega) (fun c139 => absurd c139 (by decide)) (fun c139 => ?_)
      refine ev_iconstN 0 dX9_say_142 (by decide) ?_
      refine ev_goto 153 dX9_say_143 (by decide) ?_
      refine ev_istoreS dX9_say_153 (by decide) rfl ?_
      refine ev_iconstN 0 dX9_say_155 (by decide) ?_
      refine ev_istoreS dX9_say_156 (by decide) rfl ?_
      refine ev_iload_n dX9_say_158 rfl ?_
      refine ev_callS dX9_say_159 okX9_needs stX9_needs mlX9_88 [iV _] rfl rfl (Nat.le_of_ble_eq_true rfl) (Nat.le_of_ble_eq_true rfl) (sp_needs) (fun r_ G_ h_ => ?_)
      obtain ⟨rfl, rfl⟩ := h_
      rw [needN_nI hm, hn]
      try dsimp only [Option.toList, List.cons_append, List.nil_append]
      refine ev_iconstN 2 dX9_say_162 (by decide) ?_
      refine ev_icmp_neN 248 dX9_say_163 (by decide) (by omega) (by omega) (fun c163 => ?_) (fun c163 => absurd c163 (by decide))
      exact say_end (e := []) (tot := 0) hM hm hp8 (by omega) rfl (fun k on h => by simp at h) (fun _ _ => rfl) (fun j _ _ => ⟨rfl, rfl, fun _ _ => ⟨rfl, rfl⟩⟩)
    · refine ev_iload_n dX9_say_42 rfl ?_
      refine ev_bipushN 11 dX9_say_43 (by decide) ?_
      refine ev_icmp_gtN 52 dX9_say_45 (by decide) (by omega) (by omega) (fun c45 => ?_) (fun c45 => absurd c45 (by omega))
      refine ev_iconstN 0 dX9_say_52 (by decide) ?_
      refine ev_istore_nS dX9_say_53 (by decide) rfl ?_
      refine ev_iconstN 1 dX9_say_54 (by decide) ?_
      refine ev_istoreS dX9_say_55 (by decide) rfl ?_
      refine ev_aload_n dX9_say_57 rfl ?_
      refine ev_getIv dX9_say_58 fX9_85 hM.m hp ?_
      refine ev_iload_n dX9_say_61 rfl ?_
      refine ev_callS dX9_say_62 okX9_needs stX9_needs mlX9_88 [iV _] rfl rfl (Nat.le_of_ble_eq_true rfl) (Nat.le_of_ble_eq_true rfl) (sp_needs) (fun r_ G_ h_ => ?_)
      obtain ⟨rfl, rfl⟩ := h_
      rw [needN_nI hm, hn]
      try dsimp only [Option.toList, List.cons_append, List.nil_append]
      refine ev_isubN dX9_say_65 (by omega) ?_
      refine ev_istoreS dX9_say_66 (by decide) rfl ?_
      refine ev_iload dX9_say_68 rfl ?_
      refine ev_aload_n dX9_say_70 rfl ?_
      refine ev_getIv dX9_say_71 fX9_85 hM.m hp ?_
      refine ev_icmp_geN 108 dX9_say_74 (by decide) (by omega) (by omega) (fun c74 => ?_) (fun c74 => absurd c74 (by omega))
      refine ev_aload_n dX9_say_108 rfl ?_
      refine ev_getIv dX9_say_109 fX9_85 hM.m hp ?_
      refine ev_iload_n dX9_say_112 rfl ?_
      refine ev_callS dX9_say_113 okX9_needs stX9_needs mlX9_88 [iV _] rfl rfl (Nat.le_of_ble_eq_true rfl) (Nat.le_of_ble_eq_true rfl) (sp_needs) (fun r_ G_ h_ => ?_)
      obtain ⟨rfl, rfl⟩ := h_
      rw [needN_nI hm, hn]
      try dsimp only [Option.toList, List.cons_append, List.nil_append]
      refine ev_isubN dX9_say_116 (by omega) ?_
      refine ev_istoreS dX9_say_117 (by decide) rfl ?_
      refine ev_iload dX9_say_119 rfl ?_
      refine ev_bipushN 8 dX9_say_121 (by decide) ?_
      refine ev_icmp_eqN 133 dX9_say_123 (by decide) (by omega) (by omega) (fun c123 => absurd c123 (by omega)) (fun c123 => ?_)
      refine ev_iload dX9_say_126 rfl ?_
      refine ev_bipushN 15 dX9_say_128 (by decide) ?_
      refine ev_icmp_leN 135 dX9_say_130 (by decide) (by omega) (by omega) (fun c130 => ?_) (fun c130 => absurd c130 (by decide))
      refine ev_iload_n dX9_say_135 rfl ?_
      refine ev_callS dX9_say_136 okX9_needs stX9_needs mlX9_88 [iV _] rfl rfl (Nat.le_of_ble_eq_true rfl) (Nat.le_of_ble_eq_true rfl) (sp_needs) (fun r_ G_ h_ => ?_)
      obtain ⟨rfl, rfl⟩ := h_
      rw [needN_nI hm, hn]
      try dsimp only [Option.toList, List.cons_append, List.nil_append]
      refine ev_if_neN 146 dX9_say_139 (by decide) (by omega) (fun c139 => absurd c139 (by decide)) (fun c139 => ?_)
      refine ev_iconstN 0 dX9_say_142 (by decide) ?_
      refine ev_goto 153 dX9_say_143 (by decide) ?_
      refine ev_istoreS dX9_say_153 (by decide) rfl ?_
      refine ev_iconstN 0 dX9_say_155 (by decide) ?_
      refine ev_istoreS dX9_say_156 (by decide) rfl ?_
      refine ev_iload_n dX9_say_158 rfl ?_
      refine ev_callS dX9_say_159 okX9_needs stX9_needs mlX9_88 [iV _] rfl rfl (Nat.le_of_ble_eq_true rfl) (Nat.le_of_ble_eq_true rfl) (sp_needs) (fun r_ G_ h_ => ?_)
      obtain ⟨rfl, rfl⟩ := h_
      rw [needN_nI hm, hn]
      try dsimp only [Option.toList, List.cons_append, List.nil_append]
      refine ev_iconstN 2 dX9_say_162 (by decide) ?_
      refine ev_icmp_neN 248 dX9_say_163 (by decide) (by omega) (by omega) (fun c163 => ?_) (fun c163 => absurd c163 (by decide))
      exact say_end (e := []) (tot := 0) hM hm hp8 (by omega) rfl (fun k on h => by simp at h) (fun _ _ => rfl) (fun j _ _ => ⟨rfl, rfl, fun _ _ => ⟨rfl, rfl⟩⟩)
  · refine ev_iload_n dX9_say_16 rfl ?_
    refine ev_callS dX9_say_17 okX9_isName stX9_isName mlX9_81 [iV _] rfl rfl (Nat.le_of_ble_eq_true rfl) (Nat.le_of_ble_eq_true rfl) (sp_isName) (fun r_ G_ h_ => ?_)
    obtain ⟨rfl, rfl⟩ := h_
    rw [hnm (by omega)]
    try dsimp only [Option.toList, List.cons_append, List.nil_append]
    refine ev_if_eq 34 dX9_say_20 (by decide) (fun c20 => absurd c20 (by decide)) (fun c20 => ?_)
    refine ev_aload_n dX9_say_23 rfl ?_
    refine ev_getIv dX9_say_24 fX9_85 hM.m hp ?_
    refine ev_iload_n dX9_say_27 rfl ?_
    refine ev_callS dX9_say_28 okX9_needs stX9_needs mlX9_88 [iV _] rfl rfl (Nat.le_of_ble_eq_true rfl) (Nat.le_of_ble_eq_true rfl) (sp_needs) (fun r_ G_ h_ => ?_)
    obtain ⟨rfl, rfl⟩ := h_
    rw [needN_nI hm, hn]
    try dsimp only [Option.toList, List.cons_append, List.nil_append]
    refine ev_icmp_geN 36 dX9_say_31 (by decide) (by omega) (by omega) (fun c31 => ?_) (fun c31 => absurd c31 (by omega))
    refine ev_iload_n dX9_say_36 rfl ?_
    refine ev_bipushN 9 dX9_say_37 (by decide) ?_
    refine ev_icmp_ltN 52 dX9_say_39 (by decide) (by omega) (by omega) (fun c39 => ?_) (fun c39 => ?_)
    · refine ev_iconstN 0 dX9_say_52 (by decide) ?_
      refine ev_istore_nS dX9_say_53 (by decide) rfl ?_
      refine ev_iconstN 1 dX9_say_54 (by decide) ?_
      refine ev_istoreS dX9_say_55 (by decide) rfl ?_
      refine ev_aload_n dX9_say_57 rfl ?_
      refine ev_getIv dX9_say_58 fX9_85 hM.m hp ?_
      refine ev_iload_n dX9_say_61 rfl ?_
      refine ev_callS dX9_say_62 okX9_needs stX9_needs mlX9_88 [iV _] rfl rfl (Nat.le_of_ble_eq_true rfl) (Nat.le_of_ble_eq_true rfl) (sp_needs) (fun r_ G_ h_ => ?_)
      obtain ⟨rfl, rfl⟩ := h_
      rw [needN_nI hm, hn]
      try dsimp only [Option.toList, List.cons_append, List.nil_append]
      refine ev_isubN dX9_say_65 (by omega) ?_
      refine ev_istoreS dX9_say_66 (by decide) rfl ?_
      refine ev_iload dX9_say_68 rfl ?_
      refine ev_aload_n dX9_say_70 rfl ?_
      refine ev_getIv dX9_say_71 fX9_85 hM.m hp ?_
      refine ev_icmp_geN 108 dX9_say_74 (by decide) (by omega) (by omega) (fun c74 => ?_) (fun c74 => absurd c74 (by omega))
      refine ev_aload_n dX9_say_108 rfl ?_
      refine ev_getIv dX9_say_109 fX9_85 hM.m hp ?_
      refine ev_iload_n dX9_say_112 rfl ?_
      refine ev_callS dX9_say_113 okX9_needs stX9_needs mlX9_88 [iV _] rfl rfl (Nat.le_of_ble_eq_true rfl) (Nat.le_of_ble_eq_true rfl) (sp_needs) (fun r_ G_ h_ => ?_)
      obtain ⟨rfl, rfl⟩ := h_
      rw [needN_nI hm, hn]
      try dsimp only [Option.toList, List.cons_append, List.nil_append]
      refine ev_isubN dX9_say_116 (by omega) ?_
      refine ev_istoreS dX9_say_117 (by decide) rfl ?_
      refine ev_iload dX9_say_119 rfl ?_
      refine ev_bipushN 8 dX9_say_121 (by decide) ?_
      refine ev_icmp_eqN 133 dX9_say_123 (by decide) (by omega) (by omega) (fun c123 => absurd c123 (by omega)) (fun c123 => ?_)
      refine ev_iload dX9_say_126 rfl ?_
      refine ev_bipushN 15 dX9_say_128 (by decide) ?_
      refine ev_icmp_leN 135 dX9_say_130 (by decide) (by omega) (by omega) (fun c130 => ?_) (fun c130 => absurd c130 (by decide))
      refine ev_iload_n dX9_say_135 rfl ?_
      refine ev_callS dX9_say_136 okX9_needs stX9_needs mlX9_88 [iV _] rfl rfl (Nat.le_of_ble_eq_true rfl) (Nat.le_of_ble_eq_true rfl) (sp_needs) (fun r_ G_ h_ => ?_)
      obtain ⟨rfl, rfl⟩ := h_
      rw [needN_nI hm, hn]
      try dsimp only [Option.toList, List.cons_append, List.nil_append]
      refine ev_if_neN 146 dX9_say_139 (by decide) (by omega) (fun c139 => absurd c139 (by decide)) (fun c139 => ?_)
      refine ev_iconstN 0 dX9_say_142 (by decide) ?_
      refine ev_goto 153 dX9_say_143 (by decide) ?_
      refine ev_istoreS dX9_say_153 (by decide) rfl ?_
      refine ev_iconstN 0 dX9_say_155 (by decide) ?_
      refine ev_istoreS dX9_say_156 (by decide) rfl ?_
      refine ev_iload_n dX9_say_158 rfl ?_
      refine ev_callS dX9_say_159 okX9_needs stX9_needs mlX9_88 [iV _] rfl rfl (Nat.le_of_ble_eq_true rfl) (Nat.le_of_ble_eq_true rfl) (sp_needs) (fun r_ G_ h_ => ?_)
      obtain ⟨rfl, rfl⟩ := h_
      rw [needN_nI hm, hn]
      try dsimp only [Option.toList, List.cons_append, List.nil_append]
      refine ev_iconstN 2 dX9_say_162 (by decide) ?_
      refine ev_icmp_neN 248 dX9_say_163 (by decide) (by omega) (by omega) (fun c163 => ?_) (fun c163 => absurd c163 (by decide))
      exact say_end (e := []) (tot := 0) hM hm hp8 (by omega) rfl (fun k on h => by simp at h) (fun _ _ => rfl) (fun j _ _ => ⟨rfl, rfl, fun _ _ => ⟨rfl, rfl⟩⟩)
    · refine ev_iload_n dX9_say_42 rfl ?_
      refine ev_bipushN 11 dX9_say_43 (by decide) ?_
      refine ev_icmp_gtN 52 dX9_say_45 (by decide) (by omega) (by omega) (fun c45 => ?_) (fun c45 => absurd c45 (by omega))
      refine ev_iconstN 0 dX9_say_52 (by decide) ?_
      refine ev_istore_nS dX9_say_53 (by decide) rfl ?_
      refine ev_iconstN 1 dX9_say_54 (by decide) ?_
      refine ev_istoreS dX9_say_55 (by decide) rfl ?_
      refine ev_aload_n dX9_say_57 rfl ?_
      refine ev_getIv dX9_say_58 fX9_85 hM.m hp ?_
      refine ev_iload_n dX9_say_61 rfl ?_
      refine ev_callS dX9_say_62 okX9_needs stX9_needs mlX9_88 [iV _] rfl rfl (Nat.le_of_ble_eq_true rfl) (Nat.le_of_ble_eq_true rfl) (sp_needs) (fun r_ G_ h_ => ?_)
      obtain ⟨rfl, rfl⟩ := h_
      rw [needN_nI hm, hn]
      try dsimp only [Option.toList, List.cons_append, List.nil_append]
      refine ev_isubN dX9_say_65 (by omega) ?_
      refine ev_istoreS dX9_say_66 (by decide) rfl ?_
      refine ev_iload dX9_say_68 rfl ?_
      refine ev_aload_n dX9_say_70 rfl ?_
      refine ev_getIv dX9_say_71 fX9_85 hM.m hp ?_
      refine ev_icmp_geN 108 dX9_say_74 (by decide) (by omega) (by omega) (fun c74 => ?_) (fun c74 => absurd c74 (by omega))
      refine ev_aload_n dX9_say_108 rfl ?_
      refine ev_getIv dX9_say_109 fX9_85 hM.m hp ?_
      refine ev_iload_n dX9_say_112 rfl ?_
      refine ev_callS dX9_say_113 okX9_needs stX9_needs mlX9_88 [iV _] rfl rfl (Nat.le_of_ble_eq_true rfl) (Nat.le_of_ble_eq_true rfl) (sp_needs) (fun r_ G_ h_ => ?_)
      obtain ⟨rfl, rfl⟩ := h_
      rw [needN_nI hm, hn]
      try dsimp only [Option.toList, List.cons_append, List.nil_append]
      refine ev_isubN dX9_say_116 (by omega) ?_
      refine ev_istoreS dX9_say_117 (by decide) rfl ?_
      refine ev_iload dX9_say_119 rfl ?_
      refine ev_bipushN 8 dX9_say_121 (by decide) ?_
      refine ev_icmp_eqN 133 dX9_say_123 (by decide) (by omega) (by omega) (fun c123 => absurd c123 (by omega)) (fun c123 => ?_)
      refine ev_iload dX9_say_126 rfl ?_
      refine ev_bipushN 15 dX9_say_128 (by decide) ?_
      refine ev_icmp_leN 135 dX9_say_130 (by decide) (by omega) (by omega) (fun c130 => ?_) (fun c130 => absurd c130 (by decide))
      refine ev_iload_n dX9_say_135 rfl ?_
      refine ev_callS dX9_say_136 okX9_needs stX9_needs mlX9_88 [iV _] rfl rfl (Nat.le_of_ble_eq_true rfl) (Nat.le_of_ble_eq_true rfl) (sp_needs) (fun r_ G_ h_ => ?_)
      obtain ⟨rfl, rfl⟩ := h_
      rw [needN_nI hm, hn]
      try dsimp only [Option.toList, List.cons_append, List.nil_append]
      refine ev_if_neN 146 dX9_say_139 (by decide) (by omega) (fun c139 => absurd c139 (by decide)) (fun c139 => ?_)
      refine ev_iconstN 0 dX9_say_142 (by decide) ?_
      refine ev_goto 153 dX9_say_143 (by decide) ?_
      refine ev_istoreS dX9_say_153 (by decide) rfl ?_
      refine ev_iconstN 0 dX9_say_155 (by decide) ?_
      refine ev_istoreS dX9_say_156 (by decide) rfl ?_
      refine ev_iload_n dX9_say_158 rfl ?_
      refine ev_callS dX9_say_159 okX9_needs stX9_needs mlX9_88 [iV _] rfl rfl (Nat.le_of_ble_eq_true rfl) (Nat.le_of_ble_eq_true rfl) (sp_needs) (fun r_ G_ h_ => ?_)
      obtain ⟨rfl, rfl⟩ := h_
      rw [needN_nI hm, hn]
      try dsimp only [Option.toList, List.cons_append, List.nil_append]
      refine ev_iconstN 2 dX9_say_162 (by decide) ?_
      refine ev_icmp_neN 248 dX9_say_163 (by decide) (by omega) (by omega) (fun c163 => ?_) (fun c163 => absurd c163 (by decide))
      exact say_end (e := []) (tot := 0) hM hm hp8 (by omega) rfl (fun k on h => by simp at h) (fun _ _ => rfl) (fun j _ _ => ⟨rfl, rfl, fun _ _ => ⟨rfl, rfl⟩⟩)
set_option maxRecDepth 100000 in
set_option maxHeartbeats 4000000 in
theorem sp_say1 (hM : MFix K R Ln) {p : Nat} {v : Int32} {e : EX} (hp : I 576 11 = nI (p + 1)) (hp8 : p < 8) (hE : ExA A p e) (he : e.length < 15) (hb : A 15 p = 1) : EvM X mX9_say (d + 1) [rV (some 11), iV (nI 11), iV v] (K, I, J, R, A, B, Ln, n, sl) (SayQ K I J R A B Ln n sl p 11 (e ++ [(11, withV 11 v)])) := by
  have hm : 11 ≤ 12 := by decide
  have hn : needM 11 = 1 := by decide
  show Ev X mX9_say (d + 1) 0 [some (rV (some 11)), some (iV (nI 11)), some (iV v), none, none, none, none, none] [] (K, I, J, R, A, B, Ln, n, sl) _
  refine ev_iload_n dX9_say_0 rfl ?_
  refine ev_if_ltN 34 dX9_say_1 (by decide) (by omega) ?_
  refine ev_iload_n dX9_say_4 rfl ?_
  refine ev_bipushN 12 dX9_say_5 (by decide) ?_
  refine ev_icmp_gtN 34 dX9_say_7 (by decide) (by omega) (by omega) (fun c7 => absurd c7 (by decide)) (fun c7 => ?_)
  refine ev_iload_n dX9_say_10 rfl ?_
  refine ev_bipushN 12 dX9_say_11 (by decide) ?_
  refine ev_icmp_neN 23 dX9_say_13 (by decide) (by omega) (by omega) (fun c13 => ?_) (fun c13 => absurd c13 (by decide))
  refine ev_aload_n dX9_say_23 rfl ?_
  refine ev_getIv dX9_say_24 fX9_85 hM.m hp ?_
  refine ev_iload_n dX9_say_27 rfl ?_
  refine ev_callS dX9_say_28 okX9_needs stX9_needs mlX9_88 [iV _] rfl rfl (Nat.le_of_ble_eq_true rfl) (Nat.le_of_ble_eq_true rfl) (sp_needs) (fun r_ G_ h_ => ?_)
  obtain ⟨rfl, rfl⟩ := h_
  rw [needN_nI hm, hn]
  try dsimp only [Option.toList, List.cons_append, List.nil_append]
  refine ev_icmp_geN 36 dX9_say_31 (by decide) (by omega) (by omega) (fun c31 => ?_) (fun c31 => absurd c31 (by omega))
  refine ev_iload_n dX9_say_36 rfl ?_
  refine ev_bipushN 9 dX9_say_37 (by decide) ?_
  refine ev_icmp_ltN 52 dX9_say_39 (by decide) (by omega) (by omega) (fun c39 => absurd c39 (by decide)) (fun c39 => ?_)
  refine ev_iload_n dX9_say_42 rfl ?_
  refine ev_bipushN 11 dX9_say_43 (by decide) ?_
  refine ev_icmp_gtN 52 dX9_say_45 (by decide) (by omega) (by omega) (fun c45 => absurd c45 (by decide)) (fun c45 => ?_)
  refine ev_iconstN 1 dX9_say_48 (by decide) ?_
  refine ev_goto 53 dX9_say_49 (by decide) ?_
  refine ev_istore_nS dX9_say_53 (by decide) rfl ?_
  refine ev_iconstN 1 dX9_say_54 (by decide) ?_
  refine ev_istoreS dX9_say_55 (by decide) rfl ?_
  refine ev_aload_n dX9_say_57 rfl ?_
  refine ev_getIv dX9_say_58 fX9_85 hM.m hp ?_
  refine ev_iload_n dX9_say_61 rfl ?_
  refine ev_callS dX9_say_62 okX9_needs stX9_needs mlX9_88 [iV _] rfl rfl (Nat.le_of_ble_eq_true rfl) (Nat.le_of_ble_eq_true rfl) (sp_needs) (fun r_ G_ h_ => ?_)
  obtain ⟨rfl, rfl⟩ := h_
  rw [needN_nI hm, hn]
  try dsimp only [Option.toList, List.cons_append, List.nil_append]
  refine ev_isubN dX9_say_65 (by omega) ?_
  refine ev_istoreS dX9_say_66 (by decide) rfl ?_
  refine ev_iload dX9_say_68 rfl ?_
  refine ev_aload_n dX9_say_70 rfl ?_
  refine ev_getIv dX9_say_71 fX9_85 hM.m hp ?_
  refine ev_icmp_geN 108 dX9_say_74 (by decide) (by omega) (by omega) (fun c74 => absurd c74 (by omega)) (fun c74 => ?_)
  refine ev_aload_n dX9_say_77 rfl ?_
  refine ev_getR dX9_say_78 fX9_19 hM.m hM.R_bool ?_
  refine ev_iload dX9_say_81 rfl ?_
  refine ev_zaldv dX9_say_83 hM.K_bool hM.L_bool (by decide) (by omega) hb ?_
  refine ev_iload_n dX9_say_84 rfl ?_
  refine ev_icmp_eq (y := 1) 90 dX9_say_85 (by decide) (fun c85 => ?_) (fun c85 => absurd c85 (fun z => z rfl))
  refine ev_iload dX9_say_90 rfl ?_
  refine ev_aload_n dX9_say_92 rfl ?_
  refine ev_getR dX9_say_93 fX9_7 hM.m hM.R_nodes ?_
  refine ev_iload dX9_say_96 rfl ?_
  refine ev_ialdv dX9_say_98 hM.K_nodes hM.L_nodes (by decide) (by omega) hE.1 ?_
  refine ev_iaddN dX9_say_99 ?_
  refine ev_istoreS dX9_say_100 (by decide) rfl ?_
  refine ev_iincNS (b := 1) dX9_say_102 rfl (by decide) (by decide) rfl ?_
  refine ev_goto 68 dX9_say_105 (by decide) ?_
  refine ev_iload dX9_say_68 rfl ?_
  refine ev_aload_n dX9_say_70 rfl ?_
  refine ev_getIv dX9_say_71 fX9_85 hM.m hp ?_
  refine ev_icmp_geN 108 dX9_say_74 (by decide) (by omega) (by omega) (fun c74 => ?_) (fun c74 => absurd c74 (by omega))
  refine ev_aload_n dX9_say_108 rfl ?_
  refine ev_getIv dX9_say_109 fX9_85 hM.m hp ?_
  refine ev_iload_n dX9_say_112 rfl ?_
  refine ev_callS dX9_say_113 okX9_needs stX9_needs mlX9_88 [iV _] rfl rfl (Nat.le_of_ble_eq_true rfl) (Nat.le_of_ble_eq_true rfl) (sp_needs) (fun r_ G_ h_ => ?_)
  obtain ⟨rfl, rfl⟩ := h_
  rw [needN_nI hm, hn]
  try dsimp only [Option.toList, List.cons_append, List.nil_append]
  refine ev_isubN dX9_say_116 (by omega) ?_
  refine ev_istoreS dX9_say_117 (by decide) rfl ?_
  refine ev_iload dX9_say_119 rfl ?_
  refine ev_bipushN 8 dX9_say_121 (by decide) ?_
  refine ev_icmp_eqN 133 dX9_say_123 (by decide) (by omega) (by omega) (fun c123 => absurd c123 (by omega)) (fun c123 => ?_)
  refine ev_iload dX9_say_126 rfl ?_
  refine ev_bipushN 15 dX9_say_128 (by decide) ?_
  refine ev_icmp_leN 135 dX9_say_130 (by decide) (by omega) (by omega) (fun c130 => ?_) (fun c130 => absurd c130 (by omega))
  refine ev_iload_n dX9_say_135 rfl ?_
  refine ev_callS dX9_say_136 okX9_needs stX9_needs mlX9_88 [iV _] rfl rfl (Nat.le_of_ble_eq_true rfl) (Nat.le_of_ble_eq_true rfl) (sp_needs) (fun r_ G_ h_ => ?_)
  obtain ⟨rfl, rfl⟩ := h_
  rw [needN_nI hm, hn]
  try dsimp only [Option.toList, List.cons_append, List.nil_append]
  refine ev_if_neN 146 dX9_say_139 (by decide) (by omega) (fun c139 => ?_) (fun c139 => absurd c139 (by decide))
  refine ev_aload_n dX9_say_146 rfl ?_
  refine ev_getR dX9_say_147 fX9_7 hM.m hM.R_nodes ?_
  refine ev_iload dX9_say_150 rfl ?_
  refine ev_ialdv dX9_say_152 hM.K_nodes hM.L_nodes (by decide) (by omega) hE.1 ?_
  refine ev_istoreS dX9_say_153 (by decide) rfl ?_
  refine ev_iconstN 0 dX9_say_155 (by decide) ?_
  refine ev_istoreS dX9_say_156 (by decide) rfl ?_
  refine ev_iload_n dX9_say_158 rfl ?_
  refine ev_callS dX9_say_159 okX9_needs stX9_needs mlX9_88 [iV _] rfl rfl (Nat.le_of_ble_eq_true rfl) (Nat.le_of_ble_eq_true rfl) (sp_needs) (fun r_ G_ h_ => ?_)
  obtain ⟨rfl, rfl⟩ := h_
  rw [needN_nI hm, hn]
  try dsimp only [Option.toList, List.cons_append, List.nil_append]
  refine ev_iconstN 2 dX9_say_162 (by decide) ?_
  refine ev_icmp_neN 248 dX9_say_163 (by decide) (by omega) (by omega) (fun c163 => ?_) (fun c163 => absurd c163 (by decide))
  rw [show 1 + e.length = e.length + 1 from Nat.add_comm _ _]
  exact say_end (e := e) (tot := e.length) (q := p) hM hm hp8 (by omega) rfl hE.2.2 (fun _ _ => rfl) (fun j _ _ => ⟨rfl, rfl, fun _ _ => ⟨rfl, rfl⟩⟩)
set_option maxRecDepth 100000 in
set_option maxHeartbeats 4000000 in
theorem lp_say {Q : Option LV → GH → Prop} (hM : MFix K R Ln) {m p L1 L2 : Nat} {v : Int32} {w3 : Option LV} (hm : m ≤ 12) (hn : needM m = 2) (hp7 : p < 7) (hL : L1 + L2 < 15) (h2 : A 12 (p + 1) = nI L2) (k : Ev X mX9_say (d + 1) 248 [some (rV (some 11)), some (iV (nI m)), some (iV v), w3, some (iV (nI (L1 + L2 + 1))), some (iV (nI (p))), some (iV (nI (L1))), some (iV (nI (L2)))] [] (K, I, J, R, cpX A (15 * (p + 1)) (15 * p + L1) L2, B, Ln, n, sl) Q) : ∀ (g e : Nat), e + g = L2 → Ev X mX9_say (d + 1) 158 [some (rV (some 11)), some (iV (nI m)), some (iV v), w3, some (iV (nI (L1 + L2 + 1))), some (iV (nI (p))), some (iV (nI (L1))), some (iV (nI (e)))] [] (K, I, J, R, cpX A (15 * (p + 1)) (15 * p + L1) e, B, Ln, n, sl) Q := by
  have h12 : ∀ e, cpX A (15 * (p + 1)) (15 * p + L1) e 12 (p + 1) = nI L2 := fun e => by rw [show cpX A (15 * (p + 1)) (15 * p + L1) e 12 (p + 1) = A 12 (p + 1) from if_neg (by omega)]; exact h2
  intro g
  induction g with
  | zero =>
    intro e he
    have e2 : e = L2 := by omega
    subst e2
    refine ev_iload_n dX9_say_158 rfl ?_
    refine ev_callS dX9_say_159 okX9_needs stX9_needs mlX9_88 [iV _] rfl rfl (Nat.le_of_ble_eq_true rfl) (Nat.le_of_ble_eq_true rfl) (sp_needs) (fun r_ G_ h_ => ?_)
    obtain ⟨rfl, rfl⟩ := h_
    rw [needN_nI hm, hn]
    try dsimp only [Option.toList, List.cons_append, List.nil_append]
    refine ev_iconstN 2 dX9_say_162 (by decide) ?_
    refine ev_icmp_neN 248 dX9_say_163 (by decide) (by omega) (by omega) (fun c163 => absurd c163 (by decide)) (fun c163 => ?_)
    refine ev_iload dX9_say_166 rfl ?_
    refine ev_aload_n dX9_say_168 rfl ?_
    refine ev_getR dX9_say_169 fX9_7 hM.m hM.R_nodes ?_
    refine ev_iload dX9_say_172 rfl ?_
    refine ev_iconstN 1 dX9_say_174 (by decide) ?_
    refine ev_iaddN dX9_say_175 ?_
    refine ev_ialdv dX9_say_176 hM.K_nodes hM.L_nodes (by decide) (by omega) (h12 _) ?_
    refine ev_icmp_geN 248 dX9_say_177 (by decide) (by omega) (by omega) (fun c177 => ?_) (fun c177 => absurd c177 (by omega))
    exact k
  | succ g ih =>
    intro e he
    refine ev_iload_n dX9_say_158 rfl ?_
    refine ev_callS dX9_say_159 okX9_needs stX9_needs mlX9_88 [iV _] rfl rfl (Nat.le_of_ble_eq_true rfl) (Nat.le_of_ble_eq_true rfl) (sp_needs) (fun r_ G_ h_ => ?_)
    obtain ⟨rfl, rfl⟩ := h_
    rw [needN_nI hm, hn]
    try dsimp only [Option.toList, List.cons_append, List.nil_append]
    refine ev_iconstN 2 dX9_say_162 (by decide) ?_
    refine ev_icmp_neN 248 dX9_say_163 (by decide) (by omega) (by omega) (fun c163 => absurd c163 (by decide)) (fun c163 => ?_)
    refine ev_iload dX9_say_166 rfl ?_
    refine ev_aload_n dX9_say_168 rfl ?_
    refine ev_getR dX9_say_169 fX9_7 hM.m hM.R_nodes ?_
    refine ev_iload dX9_say_172 rfl ?_
    refine ev_iconstN 1 dX9_say_174 (by decide) ?_
    refine ev_iaddN dX9_say_175 ?_
    refine ev_ialdv dX9_say_176 hM.K_nodes hM.L_nodes (by decide) (by omega) (h12 _) ?_
    refine ev_icmp_geN 248 dX9_say_177 (by decide) (by omega) (by omega) (fun c177 => absurd c177 (by omega)) (fun c177 => ?_)
    refine ev_aload_n dX9_say_180 rfl ?_
    refine ev_getR dX9_say_181 fX9_13 hM.m hM.R_op ?_
    refine ev_bipushN 15 dX9_say_184 (by decide) ?_
    refine ev_iload dX9_say_186 rfl ?_
    refine ev_imulN dX9_say_188 ?_
    refine ev_iload dX9_say_189 rfl ?_
    refine ev_iaddN dX9_say_191 ?_
    refine ev_iload dX9_say_192 rfl ?_
    refine ev_iaddN dX9_say_194 ?_
    refine ev_aload_n dX9_say_195 rfl ?_
    refine ev_getR dX9_say_196 fX9_13 hM.m hM.R_op ?_
    refine ev_bipushN 15 dX9_say_199 (by decide) ?_
    refine ev_iload dX9_say_201 rfl ?_
    refine ev_iconstN 1 dX9_say_203 (by decide) ?_
    refine ev_iaddN dX9_say_204 ?_
    refine ev_imulN dX9_say_205 ?_
    refine ev_iload dX9_say_206 rfl ?_
    refine ev_iaddN dX9_say_208 ?_
    refine ev_ialdv dX9_say_209 hM.K_op hM.L_op (by decide) (by omega) (cpX_at (by omega)) ?_
    refine ev_iast dX9_say_210 hM.K_op hM.L_op (by decide) (by omega) ?_
    refine ev_aload_n dX9_say_211 rfl ?_
    refine ev_getR dX9_say_212 fX9_16 hM.m hM.R_with ?_
    refine ev_bipushN 15 dX9_say_215 (by decide) ?_
    refine ev_iload dX9_say_217 rfl ?_
    refine ev_imulN dX9_say_219 ?_
    refine ev_iload dX9_say_220 rfl ?_
    refine ev_iaddN dX9_say_222 ?_
    refine ev_iload dX9_say_223 rfl ?_
    refine ev_iaddN dX9_say_225 ?_
    refine ev_aload_n dX9_say_226 rfl ?_
    refine ev_getR dX9_say_227 fX9_16 hM.m hM.R_with ?_
    refine ev_bipushN 15 dX9_say_230 (by decide) ?_
    refine ev_iload dX9_say_232 rfl ?_
    refine ev_iconstN 1 dX9_say_234 (by decide) ?_
    refine ev_iaddN dX9_say_235 ?_
    refine ev_imulN dX9_say_236 ?_
    refine ev_iload dX9_say_237 rfl ?_
    refine ev_iaddN dX9_say_239 ?_
    refine ev_ialdv dX9_say_240 hM.K_with hM.L_with (by decide) (by omega) (cpX_at2 (by omega)) ?_
    refine ev_iast dX9_say_241 hM.K_with hM.L_with (by decide) (by omega) ?_
    rw [cpX_s]
    refine ev_iincNS (b := 1) dX9_say_242 rfl (by decide) (by decide) rfl ?_
    refine ev_goto 158 dX9_say_245 (by decide) ?_
    exact ih (e + 1) (by omega)
set_option maxRecDepth 100000 in
set_option maxHeartbeats 4000000 in
theorem sp_say2 (hM : MFix K R Ln) {m p : Nat} {v : Int32} {e1 e2 : EX} (hm : m ≤ 12) (hn : needM m = 2) (hp : I 576 11 = nI (p + 2)) (hp8 : p + 2 ≤ 8) (hE1 : ExA A p e1) (hE2 : ExA A (p + 1) e2) (hL : e1.length + e2.length < 15) (hb1 : A 15 p = nI (ofB m)) (hb2 : A 15 (p + 1) = nI (ofB m)) : EvM X mX9_say (d + 1) [rV (some 11), iV (nI m), iV v] (K, I, J, R, A, B, Ln, n, sl) (SayQ K I J R A B Ln n sl p m (e1 ++ e2 ++ [(m, withV m v)])) := by
  have hm2 : 4 ≤ m ∧ m ≤ 10 := by
    unfold needM at hn
    split at hn
    · cases hn
    · split at hn
      · cases hn
      · omega
  have hob : ofB m ≤ 1 := by unfold ofB; split <;> omega
  have k248 : ∀ w3 : Option LV, Ev X mX9_say (d + 1) 248 [some (rV (some 11)), some (iV (nI m)), some (iV v), w3, some (iV (nI (e1.length + e2.length + 1))), some (iV (nI (p))), some (iV (nI (e1.length))), some (iV (nI (e2.length)))] [] (K, I, J, R, cpX A (15 * (p + 1)) (15 * p + e1.length) e2.length, B, Ln, n, sl) (SayQ K I J R A B Ln n sl p m (e1 ++ e2 ++ [(m, withV m v)])) := fun w3 => by
    refine say_end (e := e1 ++ e2) (tot := e1.length + e2.length) (q := p) hM hm (by omega) (by omega) (by simp) (fun k on hk => ?_) (fun i hi => ?_) (fun j hj hj2 => ⟨if_neg (by omega), if_neg (by omega), fun k hk => ⟨if_neg (by omega), if_neg (by omega)⟩⟩)
    · by_cases hk1 : k < e1.length
      · rw [List.getElem?_append_left hk1] at hk
        have := hE1.2.2 k on hk
        exact ⟨(if_neg (by omega)).trans this.1, (if_neg (by omega)).trans this.2⟩
      · have hkl := (List.getElem?_eq_some_iff.mp hk).1
        rw [List.length_append] at hkl
        rw [List.getElem?_append_right (by omega)] at hk
        have := hE2.2.2 (k - e1.length) on hk
        have ei : 15 * (p + 1) + (15 * p + k - (15 * p + e1.length)) = 15 * (p + 1) + (k - e1.length) := by omega
        refine ⟨?_, ?_⟩
        · rw [show cpX A (15 * (p + 1)) (15 * p + e1.length) e2.length 13 (15 * p + k) = A 13 (15 * (p + 1) + (15 * p + k - (15 * p + e1.length))) from if_pos ⟨Or.inl rfl, by omega, by omega⟩, ei]
          exact this.1
        · rw [show cpX A (15 * (p + 1)) (15 * p + e1.length) e2.length 14 (15 * p + k) = A 14 (15 * (p + 1) + (15 * p + k - (15 * p + e1.length))) from if_pos ⟨Or.inr rfl, by omega, by omega⟩, ei]
          exact this.2
    · simp only [List.mem_cons, List.not_mem_nil, or_false, not_or] at hi
      funext j
      exact if_neg (fun z => by rcases z.1 with h | h; exact hi.2.1 h; exact hi.2.2.1 h)
  have k53 : ∀ z : Nat, z = ofB m → Ev X mX9_say (d + 1) 53 [some (rV (some 11)), some (iV (nI m)), some (iV v), none, none, none, none, none] [iV (nI z)] (K, I, J, R, A, B, Ln, n, sl) (SayQ K I J R A B Ln n sl p m (e1 ++ e2 ++ [(m, withV m v)])) := by
    intro z hz
    subst hz
    refine ev_istore_nS dX9_say_53 (by decide) rfl ?_
    refine ev_iconstN 1 dX9_say_54 (by decide) ?_
    refine ev_istoreS dX9_say_55 (by decide) rfl ?_
    refine ev_aload_n dX9_say_57 rfl ?_
    refine ev_getIv dX9_say_58 fX9_85 hM.m hp ?_
    refine ev_iload_n dX9_say_61 rfl ?_
    refine ev_callS dX9_say_62 okX9_needs stX9_needs mlX9_88 [iV _] rfl rfl (Nat.le_of_ble_eq_true rfl) (Nat.le_of_ble_eq_true rfl) (sp_needs) (fun r_ G_ h_ => ?_)
    obtain ⟨rfl, rfl⟩ := h_
    rw [needN_nI hm, hn]
    try dsimp only [Option.toList, List.cons_append, List.nil_append]
    refine ev_isubN dX9_say_65 (by omega) ?_
    refine ev_istoreS dX9_say_66 (by decide) rfl ?_
    refine ev_iload dX9_say_68 rfl ?_
    refine ev_aload_n dX9_say_70 rfl ?_
    refine ev_getIv dX9_say_71 fX9_85 hM.m hp ?_
    refine ev_icmp_geN 108 dX9_say_74 (by decide) (by omega) (by omega) (fun c74 => absurd c74 (by omega)) (fun c74 => ?_)
    refine ev_aload_n dX9_say_77 rfl ?_
    refine ev_getR dX9_say_78 fX9_19 hM.m hM.R_bool ?_
    refine ev_iload dX9_say_81 rfl ?_
    refine ev_zaldv dX9_say_83 hM.K_bool hM.L_bool (by decide) (by omega) hb1 ?_
    refine ev_iload_n dX9_say_84 rfl ?_
    refine ev_icmp_eqN 90 dX9_say_85 (by decide) (by omega) (by omega) (fun c85 => ?_) (fun c85 => absurd c85 (fun z => z rfl))
    refine ev_iload dX9_say_90 rfl ?_
    refine ev_aload_n dX9_say_92 rfl ?_
    refine ev_getR dX9_say_93 fX9_7 hM.m hM.R_nodes ?_
    refine ev_iload dX9_say_96 rfl ?_
    refine ev_ialdv dX9_say_98 hM.K_nodes hM.L_nodes (by decide) (by omega) hE1.1 ?_
    refine ev_iaddN dX9_say_99 ?_
    refine ev_istoreS dX9_say_100 (by decide) rfl ?_
    refine ev_iincNS (b := 1) dX9_say_102 rfl (by decide) (by decide) rfl ?_
    refine ev_goto 68 dX9_say_105 (by decide) ?_
    refine ev_iload dX9_say_68 rfl ?_
    refine ev_aload_n dX9_say_70 rfl ?_
    refine ev_getIv dX9_say_71 fX9_85 hM.m hp ?_
    refine ev_icmp_geN 108 dX9_say_74 (by decide) (by omega) (by omega) (fun c74 => absurd c74 (by omega)) (fun c74 => ?_)
    refine ev_aload_n dX9_say_77 rfl ?_
    refine ev_getR dX9_say_78 fX9_19 hM.m hM.R_bool ?_
    refine ev_iload dX9_say_81 rfl ?_
    refine ev_zaldv dX9_say_83 hM.K_bool hM.L_bool (by decide) (by omega) hb2 ?_
    refine ev_iload_n dX9_say_84 rfl ?_
    refine ev_icmp_eqN 90 dX9_say_85 (by decide) (by omega) (by omega) (fun c85 => ?_) (fun c85 => absurd c85 (fun z => z rfl))
    refine ev_iload dX9_say_90 rfl ?_
    refine ev_aload_n dX9_say_92 rfl ?_
    refine ev_getR dX9_say_93 fX9_7 hM.m hM.R_nodes ?_
    refine ev_iload dX9_say_96 rfl ?_
    refine ev_ialdv dX9_say_98 hM.K_nodes hM.L_nodes (by decide) (by omega) hE2.1 ?_
    refine ev_iaddN dX9_say_99 ?_
    refine ev_istoreS dX9_say_100 (by decide) rfl ?_
    refine ev_iincNS (b := 1) dX9_say_102 rfl (by decide) (by decide) rfl ?_
    refine ev_goto 68 dX9_say_105 (by decide) ?_
    refine ev_iload dX9_say_68 rfl ?_
    refine ev_aload_n dX9_say_70 rfl ?_
    refine ev_getIv dX9_say_71 fX9_85 hM.m hp ?_
    refine ev_icmp_geN 108 dX9_say_74 (by decide) (by omega) (by omega) (fun c74 => ?_) (fun c74 => absurd c74 (by omega))
    refine ev_aload_n dX9_say_108 rfl ?_
    refine ev_getIv dX9_say_109 fX9_85 hM.m hp ?_
    refine ev_iload_n dX9_say_112 rfl ?_
    refine ev_callS dX9_say_113 okX9_needs stX9_needs mlX9_88 [iV _] rfl rfl (Nat.le_of_ble_eq_true rfl) (Nat.le_of_ble_eq_true rfl) (sp_needs) (fun r_ G_ h_ => ?_)
    obtain ⟨rfl, rfl⟩ := h_
    rw [needN_nI hm, hn]
    try dsimp only [Option.toList, List.cons_append, List.nil_append]
    refine ev_isubN dX9_say_116 (by omega) ?_
    refine ev_istoreS dX9_say_117 (by decide) rfl ?_
    refine ev_iload dX9_say_119 rfl ?_
    refine ev_bipushN 8 dX9_say_121 (by decide) ?_
    refine ev_icmp_eqN 133 dX9_say_123 (by decide) (by omega) (by omega) (fun c123 => absurd c123 (by omega)) (fun c123 => ?_)
    refine ev_iload dX9_say_126 rfl ?_
    refine ev_bipushN 15 dX9_say_128 (by decide) ?_
    refine ev_icmp_leN 135 dX9_say_130 (by decide) (by omega) (by omega) (fun c130 => ?_) (fun c130 => absurd c130 (by omega))
    refine ev_iload_n dX9_say_135 rfl ?_
    refine ev_callS dX9_say_136 okX9_needs stX9_needs mlX9_88 [iV _] rfl rfl (Nat.le_of_ble_eq_true rfl) (Nat.le_of_ble_eq_true rfl) (sp_needs) (fun r_ G_ h_ => ?_)
    obtain ⟨rfl, rfl⟩ := h_
    rw [needN_nI hm, hn]
    try dsimp only [Option.toList, List.cons_append, List.nil_append]
    refine ev_if_neN 146 dX9_say_139 (by decide) (by omega) (fun c139 => ?_) (fun c139 => absurd c139 (by decide))
    refine ev_aload_n dX9_say_146 rfl ?_
    refine ev_getR dX9_say_147 fX9_7 hM.m hM.R_nodes ?_
    refine ev_iload dX9_say_150 rfl ?_
    refine ev_ialdv dX9_say_152 hM.K_nodes hM.L_nodes (by decide) (by omega) hE1.1 ?_
    refine ev_istoreS dX9_say_153 (by decide) rfl ?_
    refine ev_iconstN 0 dX9_say_155 (by decide) ?_
    refine ev_istoreS dX9_say_156 (by decide) rfl ?_
    have h := lp_say (X := X) (d := d) (I := I) (J := J) (B := B) (n := n) (sl := sl) hM hm hn (by omega) hL hE2.1 (k248 (some (iV (nI (ofB m))))) e2.length 0 (by omega)
    rw [cpX_0] at h
    rw [show 1 + e1.length + e2.length = e1.length + e2.length + 1 by omega]
    exact h
  show Ev X mX9_say (d + 1) 0 [some (rV (some 11)), some (iV (nI m)), some (iV v), none, none, none, none, none] [] (K, I, J, R, A, B, Ln, n, sl) _
  refine ev_iload_n dX9_say_0 rfl ?_
  refine ev_if_ltN 34 dX9_say_1 (by decide) (by omega) ?_
  refine ev_iload_n dX9_say_4 rfl ?_
  refine ev_bipushN 12 dX9_say_5 (by decide) ?_
  refine ev_icmp_gtN 34 dX9_say_7 (by decide) (by omega) (by omega) (fun c7 => absurd c7 (by omega)) (fun c7 => ?_)
  refine ev_iload_n dX9_say_10 rfl ?_
  refine ev_bipushN 12 dX9_say_11 (by decide) ?_
  refine ev_icmp_neN 23 dX9_say_13 (by decide) (by omega) (by omega) (fun c13 => ?_) (fun c13 => absurd c13 (by omega))
  refine ev_aload_n dX9_say_23 rfl ?_
  refine ev_getIv dX9_say_24 fX9_85 hM.m hp ?_
  refine ev_iload_n dX9_say_27 rfl ?_
  refine ev_callS dX9_say_28 okX9_needs stX9_needs mlX9_88 [iV _] rfl rfl (Nat.le_of_ble_eq_true rfl) (Nat.le_of_ble_eq_true rfl) (sp_needs) (fun r_ G_ h_ => ?_)
  obtain ⟨rfl, rfl⟩ := h_
  rw [needN_nI hm, hn]
  try dsimp only [Option.toList, List.cons_append, List.nil_append]
  refine ev_icmp_geN 36 dX9_say_31 (by decide) (by omega) (by omega) (fun c31 => ?_) (fun c31 => absurd c31 (by omega))
  refine ev_iload_n dX9_say_36 rfl ?_
  refine ev_bipushN 9 dX9_say_37 (by decide) ?_
  refine ev_icmp_ltN 52 dX9_say_39 (by decide) (by omega) (by omega) (fun c39 => ?_) (fun c39 => ?_)
  · refine ev_iconstN 0 dX9_say_52 (by decide) ?_
    first | exact k53 0 (by unfold ofB; rw [if_neg (by omega)]) | exact k53 1 (by unfold ofB; rw [if_pos (by omega)])
  · refine ev_iload_n dX9_say_42 rfl ?_
    refine ev_bipushN 11 dX9_say_43 (by decide) ?_
    refine ev_icmp_gtN 52 dX9_say_45 (by decide) (by omega) (by omega) (fun c45 => ?_) (fun c45 => ?_)
    · refine ev_iconstN 0 dX9_say_52 (by decide) ?_
      first | exact k53 0 (by unfold ofB; rw [if_neg (by omega)]) | exact k53 1 (by unfold ofB; rw [if_pos (by omega)])
    · refine ev_iconstN 1 dX9_say_48 (by decide) ?_
      refine ev_goto 53 dX9_say_49 (by decide) ?_
      first | exact k53 0 (by unfold ofB; rw [if_neg (by omega)]) | exact k53 1 (by unfold ofB; rw [if_pos (by omega)])
end M15
