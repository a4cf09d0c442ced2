section M15
variable {X : CX} {d : Nat} {K : Nat → Nat} {I : Nat → Nat → Int32} {J : Nat → Nat → Int64} {R : Nat → Nat → Option Nat} {A : Nat → Nat → Int32} {B : Nat → Nat → Option Nat} {Ln : Nat → Nat} {n sl : Nat}
def SlotSame (A A' : Nat → Nat → Int32) (j : Nat) : Prop := A' 12 j = A 12 j ∧ A' 15 j = A 15 j ∧ ∀ k, k < 15 → A' 13 (15 * j + k) = A 13 (15 * j + k) ∧ A' 14 (15 * j + k) = A 14 (15 * j + k)
def withV (m : Nat) (v : Int32) : Int32 := if m = 3 ∨ m = 12 then v else 0
def ofB (m : Nat) : Nat := if 9 ≤ m ∧ m ≤ 11 then 1 else 0
/-- what 'say' leaves: expression e in place q of the pile, q + 1 expressions -/
def SayQ (K : Nat → Nat) (I : Nat → Nat → Int32) (J : Nat → Nat → Int64) (R : Nat → Nat → Option Nat) (A : Nat → Nat → Int32) (B : Nat → Nat → Option Nat) (Ln : Nat → Nat) (n sl : Nat) (q m : Nat) (e : EX) (r : Option LV) (G' : GH) : Prop := r = some (iV 1) ∧ ∃ A', G' = (K, u2 I 576 11 (nI (q + 1)), J, R, A', B, Ln, n, sl) ∧ (∀ i, i ∉ [12, 13, 14, 15] → A' i = A i) ∧ ExA A' q e ∧ A' 15 q = bZ (decide (7 ≤ m)) ∧ ∀ j, j ≠ q → j < 11 → SlotSame A A' j
set_option maxRecDepth 100000 in
set_option maxHeartbeats 4000000 in
theorem say_end (hM : MFix K R Ln) {A1 : Nat → Nat → Int32} {m q tot : Nat} {v : Int32} {e : EX} {w3 w6 w7 : Option LV} (hm : m ≤ 12) (hq : q < 8) (ht : tot + 1 ≤ 15) (he : e.length = tot) (hx : ∀ k on, e[k]? = some on → A1 13 (15 * q + k) = nI on.1 ∧ A1 14 (15 * q + k) = on.2) (hr : ∀ i, i ∉ [12, 13, 14, 15] → A1 i = A i) (hs : ∀ j, j ≠ q → j < 11 → SlotSame A A1 j) : Ev X mX9_say (d + 1) 248 [some (rV (some 11)), some (iV (nI m)), some (iV v), w3, some (iV (nI (tot + 1))), some (iV (nI (q))), w6, w7] [] (K, I, J, R, A1, B, Ln, n, sl) (SayQ K I J R A B Ln n sl q m (e ++ [(m, withV m v)])) := by
  have fin : ∀ (x y : Int32) (I' : Nat → Nat → Int32), x = withV m v → y = bZ (decide (7 ≤ m)) → I' = u2 I 576 11 (nI (q + 1)) → SayQ K I J R A B Ln n sl q m (e ++ [(m, withV m v)]) (some (iV (nI 1))) (K, I', J, R, u2 (u2 (u2 (u2 A1 13 (15 * q + (tot + 1) - 1) (nI m)) 14 (15 * q + (tot + 1) - 1) x) 12 q (nI (tot + 1))) 15 q y, B, Ln, n, sl) := by
    intro x y I' hx' hy' hI'
    subst hI'
    rw [show 15 * q + (tot + 1) - 1 = 15 * q + tot by omega]
    generalize hF : u2 (u2 (u2 (u2 A1 13 (15 * q + tot) (nI m)) 14 (15 * q + tot) x) 12 q (nI (tot + 1))) 15 q y = F
    have r13 : ∀ j, F 13 j = if j = 15 * q + tot then nI m else A1 13 j := fun j => by rw [← hF]; simp [u2]
    have r14 : ∀ j, F 14 j = if j = 15 * q + tot then x else A1 14 j := fun j => by rw [← hF]; simp [u2]
    have r12 : ∀ j, F 12 j = if j = q then nI (tot + 1) else A1 12 j := fun j => by rw [← hF]; simp [u2]
    have r15 : ∀ j, F 15 j = if j = q then y else A1 15 j := fun j => by rw [← hF]; simp [u2]
    refine ⟨rfl, F, rfl, fun i hi => ?_, ⟨?_, ?_, fun k on hk => ?_⟩, ?_, fun j hj hj2 => ?_⟩
    · have hi' := hi
      simp only [List.mem_cons, List.not_mem_nil, or_false, not_or] at hi'
      rw [← hF, u2_row' hi'.2.2.2, u2_row' hi'.1, u2_row' hi'.2.2.1, u2_row' hi'.2.1]
      exact hr i hi
    · rw [r12, if_pos rfl, List.length_append, he]
      rfl
    · rw [List.length_append, he]
      show tot + 1 ≤ 15
      omega
    · have kl : k < tot + 1 := by
        have := (List.getElem?_eq_some_iff.mp hk).1
        rw [List.length_append, he] at this
        exact this
      rw [r13, r14]
      by_cases hkt : k = tot
      · subst hkt
        rw [List.getElem?_append_right (by omega), he, Nat.sub_self] at hk
        have e1 : on = (m, withV m v) := (Option.some.inj hk).symm
        subst e1
        rw [if_pos rfl, if_pos rfl]
        exact ⟨rfl, hx'⟩
      · rw [List.getElem?_append_left (by omega)] at hk
        rw [if_neg (by omega), if_neg (by omega)]
        exact hx k on hk
    · rw [r15, if_pos rfl]
      exact hy'
    · obtain ⟨a1, a2, a3⟩ := hs j hj hj2
      refine ⟨by rw [r12, if_neg hj]; exact a1, by rw [r15, if_neg hj]; exact a2, fun k hk => ?_⟩
      rw [r13, r14, if_neg (by omega), if_neg (by omega)]
      exact a3 k hk
  refine ev_aload_n dX9_say_248 rfl ?_
  refine ev_getR dX9_say_249 fX9_13 hM.m hM.R_op ?_
  refine ev_bipushN 15 dX9_say_252 (by decide) ?_
  refine ev_iload dX9_say_254 rfl ?_
  refine ev_imulN dX9_say_256 ?_
  refine ev_iload dX9_say_257 rfl ?_
  refine ev_iaddN dX9_say_259 ?_
  refine ev_iconstN 1 dX9_say_260 (by decide) ?_
  refine ev_isubN dX9_say_261 (by omega) ?_
  refine ev_iload_n dX9_say_262 rfl ?_
  refine ev_iast dX9_say_263 hM.K_op hM.L_op (by decide) (by omega) ?_
  refine ev_aload_n dX9_say_264 rfl ?_
  refine ev_getR dX9_say_265 fX9_16 hM.m hM.R_with ?_
  refine ev_bipushN 15 dX9_say_268 (by decide) ?_
  refine ev_iload dX9_say_270 rfl ?_
  refine ev_imulN dX9_say_272 ?_
  refine ev_iload dX9_say_273 rfl ?_
  refine ev_iaddN dX9_say_275 ?_
  refine ev_iconstN 1 dX9_say_276 (by decide) ?_
  refine ev_isubN dX9_say_277 (by omega) ?_
  refine ev_iload_n dX9_say_278 rfl ?_
  refine ev_iconstN 3 dX9_say_279 (by decide) ?_
  refine ev_icmp_eqN 289 dX9_say_280 (by decide) (by omega) (by omega) (fun c280 => ?_) (fun c280 => ?_)
  · refine ev_iload_n dX9_say_289 rfl ?_
    refine ev_goto 294 dX9_say_290 (by decide) ?_
    refine ev_iast dX9_say_294 hM.K_with hM.L_with (by decide) (by omega) ?_
    refine ev_aload_n dX9_say_295 rfl ?_
    refine ev_getR dX9_say_296 fX9_7 hM.m hM.R_nodes ?_
    refine ev_iload dX9_say_299 rfl ?_
    refine ev_iload dX9_say_301 rfl ?_
    refine ev_iast dX9_say_303 hM.K_nodes hM.L_nodes (by decide) (by omega) ?_
    refine ev_aload_n dX9_say_304 rfl ?_
    refine ev_getR dX9_say_305 fX9_19 hM.m hM.R_bool ?_
    refine ev_iload dX9_say_308 rfl ?_
    refine ev_iload_n dX9_say_310 rfl ?_
    refine ev_bipushN 7 dX9_say_311 (by decide) ?_
    refine ev_icmp_ltN 320 dX9_say_313 (by decide) (by omega) (by omega) (fun c313 => ?_) (fun c313 => ?_)
    · refine ev_iconstN 0 dX9_say_320 (by decide) ?_
      refine ev_zast dX9_say_321 hM.K_bool hM.L_bool (by decide) (by omega) (by decide) ?_
      refine ev_aload_n dX9_say_322 rfl ?_
      refine ev_iload dX9_say_323 rfl ?_
      refine ev_iconstN 1 dX9_say_325 (by decide) ?_
      refine ev_iaddN dX9_say_326 ?_
      refine ev_putI dX9_say_327 fX9_85 (Or.inl rfl) (Or.inl rfl) hM.m ?_
      refine ev_iconstN 1 dX9_say_330 (by decide) ?_
      refine ev_zreturn dX9_say_331 rfl (by decide) ?_
      first | exact fin v (nI 1) _ (by simp [withV, *]) (by rw [decide_eq_true (by omega)]; rfl) rfl | exact fin v (nI 0) _ (by simp [withV, *]) (by rw [decide_eq_false (by omega)]; rfl) rfl | exact fin (nI 0) (nI 1) _ (by simp [withV, *]; rfl) (by rw [decide_eq_true (by omega)]; rfl) rfl | exact fin (nI 0) (nI 0) _ (by simp [withV, *]; rfl) (by rw [decide_eq_false (by omega)]; rfl) rfl
    · refine ev_iconstN 1 dX9_say_316 (by decide) ?_
      refine ev_goto 321 dX9_say_317 (by decide) ?_
      refine ev_zast dX9_say_321 hM.K_bool hM.L_bool (by decide) (by omega) (by decide) ?_
      refine ev_aload_n dX9_say_322 rfl ?_
      refine ev_iload dX9_say_323 rfl ?_
      refine ev_iconstN 1 dX9_say_325 (by decide) ?_
      refine ev_iaddN dX9_say_326 ?_
      refine ev_putI dX9_say_327 fX9_85 (Or.inl rfl) (Or.inl rfl) hM.m ?_
      refine ev_iconstN 1 dX9_say_330 (by decide) ?_
      refine ev_zreturn dX9_say_331 rfl (by decide) ?_
      first | exact fin v (nI 1) _ (by simp [withV, *]) (by rw [decide_eq_true (by omega)]; rfl) rfl | exact fin v (nI 0) _ (by simp [withV, *]) (by rw [decide_eq_false (by omega)]; rfl) rfl | exact fin (nI 0) (nI 1) _ (by simp [withV, *]; rfl) (by rw [decide_eq_true (by omega)]; rfl) rfl | exact fin (nI 0) (nI 0) _ (by simp [withV, *]; rfl) (by rw [decide_eq_false (by omega)]; rfl) rfl
  · refine ev_iload_n dX9_say_283 rfl ?_
    refine ev_bipushN 12 dX9_say_284 (by decide) ?_
    refine ev_icmp_neN 293 dX9_say_286 (by decide) (by omega) (by omega) (fun c286 => ?_) (fun c286 => ?_)
    · refine ev_iconstN 0 dX9_say_293 (by decide) ?_
      refine ev_iast dX9_say_294 hM.K_with hM.L_with (by decide) (by omega) ?_
      refine ev_aload_n dX9_say_295 rfl ?_
      refine ev_getR dX9_say_296 fX9_7 hM.m hM.R_nodes ?_
      refine ev_iload dX9_say_299 rfl ?_
      refine ev_iload dX9_say_301 rfl ?_
      refine ev_iast dX9_say_303 hM.K_nodes hM.L_nodes (by decide) (by omega) ?_
      refine ev_aload_n dX9_say_304 rfl ?_
      refine ev_getR dX9_say_305 fX9_19 hM.m hM.R_bool ?_
      refine ev_iload dX9_say_308 rfl ?_
      refine ev_iload_n dX9_say_310 rfl ?_
      refine ev_bipushN 7 dX9_say_311 (by decide) ?_
      refine ev_icmp_ltN 320 dX9_say_313 (by decide) (by omega) (by omega) (fun c313 => ?_) (fun c313 => ?_)
      · refine ev_iconstN 0 dX9_say_320 (by decide) ?_
        refine ev_zast dX9_say_321 hM.K_bool hM.L_bool (by decide) (by omega) (by decide) ?_
        refine ev_aload_n dX9_say_322 rfl ?_
        refine ev_iload dX9_say_323 rfl ?_
        refine ev_iconstN 1 dX9_say_325 (by decide) ?_
        refine ev_iaddN dX9_say_326 ?_
        refine ev_putI dX9_say_327 fX9_85 (Or.inl rfl) (Or.inl rfl) hM.m ?_
        refine ev_iconstN 1 dX9_say_330 (by decide) ?_
        refine ev_zreturn dX9_say_331 rfl (by decide) ?_
        first | exact fin v (nI 1) _ (by simp [withV, *]) (by rw [decide_eq_true (by omega)]; rfl) rfl | exact fin v (nI 0) _ (by simp [withV, *]) (by rw [decide_eq_false (by omega)]; rfl) rfl | exact fin (nI 0) (nI 1) _ (by simp [withV, *]; rfl) (by rw [decide_eq_true (by omega)]; rfl) rfl | exact fin (nI 0) (nI 0) _ (by simp [withV, *]; rfl) (by rw [decide_eq_false (by omega)]; rfl) rfl
      · refine ev_iconstN 1 dX9_say_316 (by decide) ?_
        refine ev_goto 321 dX9_say_317 (by decide) ?_
        refine ev_zast dX9_say_321 hM.K_bool hM.L_bool (by decide) (by omega) (by decide) ?_
        refine ev_aload_n dX9_say_322 rfl ?_
        refine ev_iload dX9_say_323 rfl ?_
        refine ev_iconstN 1 dX9_say_325 (by decide) ?_
        refine ev_iaddN dX9_say_326 ?_
        refine ev_putI dX9_say_327 fX9_85 (Or.inl rfl) (Or.inl rfl) hM.m ?_
        refine ev_iconstN 1 dX9_say_330 (by decide) ?_
        refine ev_zreturn dX9_say_331 rfl (by decide) ?_
        first | exact fin v (nI 1) _ (by simp [withV, *]) (by rw [decide_eq_true (by omega)]; rfl) rfl | exact fin v (nI 0) _ (by simp [withV, *]) (by rw [decide_eq_false (by omega)]; rfl) rfl | exact fin (nI 0) (nI 1) _ (by simp [withV, *]; rfl) (by rw [decide_eq_true (by omega)]; rfl) rfl | exact fin (nI 0) (nI 0) _ (by simp [withV, *]; rfl) (by rw [decide_eq_false (by omega)]; rfl) rfl
    · refine ev_iload_n dX9_say_289 rfl ?_
      refine ev_goto 294 dX9_say_290 (by decide) ?_
      refine ev_iast dX9_say_294 hM.K_with hM.L_with (by decide) (by omega) ?_
      refine ev_aload_n dX9_say_295 rfl ?_
      refine ev_getR dX9_say_296 fX9_7 hM.m hM.R_nodes ?_
      refine ev_iload dX9_say_299 rfl ?_
      refine ev_iload dX9_say_301 rfl ?_
      refine ev_iast dX9_say_303 hM.K_nodes hM.L_nodes (by decide) (by omega) ?_
      refine ev_aload_n dX9_say_304 rfl ?_
      refine ev_getR dX9_say_305 fX9_19 hM.m hM.R_bool ?_
      refine ev_iload dX9_say_308 rfl ?_
      refine ev_iload_n dX9_say_310 rfl ?_
      refine ev_bipushN 7 dX9_say_311 (by decide) ?_
      refine ev_icmp_ltN 320 dX9_say_313 (by decide) (by omega) (by omega) (fun c313 => ?_) (fun c313 => ?_)
      · refine ev_iconstN 0 dX9_say_320 (by decide) ?_
        refine ev_zast dX9_say_321 hM.K_bool hM.L_bool (by decide) (by omega) (by decide) ?_
        refine ev_aload_n dX9_say_322 rfl ?_
        refine ev_iload dX9_say_323 rfl ?_
        refine ev_iconstN 1 dX9_say_325 (by decide) ?_
        refine ev_iaddN dX9_say_326 ?_
        refine ev_putI dX9_say_327 fX9_85 (Or.inl rfl) (Or.inl rfl) hM.m ?_
        refine ev_iconstN 1 dX9_say_330 (by decide) ?_
        refine ev_zreturn dX9_say_331 rfl (by decide) ?_
        first | exact fin v (nI 1) _ (by simp [withV, *]) (by rw [decide_eq_true (by omega)]; rfl) rfl | exact fin v (nI 0) _ (by simp [withV, *]) (by rw [decide_eq_false (by omega)]; rfl) rfl | exact fin (nI 0) (nI 1) _ (by simp [withV, *]; rfl) (by rw [decide_eq_true (by omega)]; rfl) rfl | exact fin (nI 0) (nI 0) _ (by simp [withV, *]; rfl) (by rw [decide_eq_false (by omega)]; rfl) rfl
      · refine ev_iconstN 1 dX9_say_316 (by decide) ?_
        refine ev_goto 321 dX9_say_317 (by decide) ?_
        refine ev_zast dX9_say_321 hM.K_bool hM.L_bool (by decide) (by omega) (by decide) ?_
        refine ev_aload_n dX9_say_322 rfl ?_
        refine ev_iload dX9_say_323 rfl ?_
        refine ev_iconstN 1 dX9_say_325 (by decide) ?_
        refine ev_iaddN dX9_say_326 ?_
        refine ev_putI dX9_say_327 fX9_85 (Or.inl rfl) (Or.inl rfl) hM.m ?_
        refine ev_iconstN 1 dX9_say_330 (by decide) ?_
        refine ev_zreturn dX9_say_331 rfl (by decide) ?_
        first | exact fin v (nI 1) _ (by simp [withV, *]) (by rw [decide_eq_true (by omega)]; rfl) rfl | exact fin v (nI 0) _ (by simp [withV, *]) (by rw [decide_eq_false (by omega)]; rfl) rfl | exact fin (nI 0) (nI 1) _ (by simp [withV, *]; rfl) (by rw [decide_eq_true (by omega)]; rfl) rfl | exact fin (nI 0) (nI 0) _ (by simp [withV, *]; rfl) (by rw [decide_eq_false (by omega)]; rfl) rfl
set_option maxRecDepth 100000 in
set_option maxHeartbeats 4000000 in
theorem sp_say0 (hM : MFix K R Ln) {m p : Nat} {v : Int32} (hm : m ≤ 12) (hnm : m = 12 → nmB v = 1) (hn : needM m = 0) (hp : I 576 11 = nI p) (hp8 : p < 8) : EvM X mX9_say (d + 1) [rV (some 11), iV (nI m), iV v] (K, I, J, R, A, B, Ln, n, sl) (SayQ K I J R A B Ln n sl p m [(m, withV m v)]) := by
  have hm0 : m < 4 ∨ m = 12 := by
    unfold needM at hn
    split at hn
    · assumption
    · split at hn <;> cases hn
  show Ev X mX9_say (d + 1) 0 [some (rV (some 11)), some (iV (nI m)), some (iV v), none, none, none, none, none] [] (K, I, J, R, A, B, Ln, n, sl) _
  refine ev_iload_n dX9_say_0 rfl ?_
  refine ev_if_ltN 34 dX9_say_1 (by decide) (by omega) ?_
  refine ev_iload_n dX9_say_4 rfl ?_
  refine ev_bipushN 12 dX9_say_5 (by decide) ?_
  refine ev_icmp_gtN 34 dX9_say_7 (by decide) (by omega) (by omega) (fun c7 => absurd c7 (by omega)) (fun c7 => ?_)
  refine ev_iload_n dX9_say_10 rfl ?_
  refine ev_bipushN 12 dX9_say_11 (by decide) ?_
  refine ev_icmp_neN 23 dX9_say_13 (by decide) (by omega) (by omega) (fun c13 => ?_) (fun c13 => ?_)
  · refine ev_aload_n dX9_say_23 rfl ?_
    refine ev_getIv dX9_say_24 fX9_85 hM.m hp ?_
    refine ev_iload_n dX9_say_27 rfl ?_
    refine ev_callS dX9_say_28 okX9_needs stX9_needs mlX9_88 [iV _] rfl rfl (Nat.le_of_ble_eq_true rfl) (Nat.le_of_ble_eq_true rfl) (sp_needs) (fun r_ G_ h_ => ?_)
    obtain ⟨rfl, rfl⟩ := h_
    rw [needN_nI hm, hn]
    try dsimp only [Option.toList, List.cons_append, List.nil_append]
    refine ev_icmp_geN 36 dX9_say_31 (by decide) (by omega) (by omega) (fun c31 => ?_) (fun c31 => absurd c31 (by omega))
    refine ev_iload_n dX9_say_36 rfl ?_
    refine ev_bipushN 9 dX9_say_37 (by decide) ?_
    refine ev_icmp_ltN 52 dX9_say_39 (by decide) (by omega) (by omega) (fun c39 => ?_) (fun c39 => ?_)
    · refine ev_iconstN 0 dX9_say_52 (by decide) ?_
      refine ev_istore_n _ dX9_say_53 (by decide) rfl ?_
      refine ev_iconstN 1 dX9_say_54 (by decide) ?_
      refine ev_istore _ dX9_say_55 (by decide) rfl ?_
      refine ev_aload_n dX9_say_57 rfl ?_
      refine ev_getIv dX9_say_58 fX9_85 hM.m hp ?_
      refine ev_iload_n dX9_say_61 rfl ?_
      refine ev_callS dX9_say_62 okX9_needs stX9_needs mlX9_88 [iV _] rfl rfl (Nat.le_of_ble_eq_true rfl) (Nat.le_of_ble_eq_true rfl) (sp_needs) (fun r_ G_ h_ => ?_)
      obtain ⟨rfl, rfl⟩ := h_
      rw [needN_nI hm, hn]
      try dsimp only [Option.toList, List.cons_append, List.nil_append]
      refine ev_isubN dX9_say_65 (by omega) ?_
      refine ev_istore _ dX9_say_66 (by decide) rfl ?_
      refine ev_iload dX9_say_68 rfl ?_
      refine ev_aload_n dX9_say_70 rfl ?_
      refine ev_getIv dX9_say_71 fX9_85 hM.m hp ?_
      refine ev_icmp_geN 108 dX9_say_74 (by decide) (by omega) (by omega) (fun c74 => ?_) (fun c74 => absurd c74 (by omega))
      refine ev_aload_n dX9_say_108 rfl ?_
      refine ev_getIv dX9_say_109 fX9_85 hM.m hp ?_
      refine ev_iload_n dX9_say_112 rfl ?_
      refine ev_callS dX9_say_113 okX9_needs stX9_needs mlX9_88 [iV _] rfl rfl (Nat.le_of_ble_eq_true rfl) (Nat.le_of_ble_eq_true rfl) (sp_needs) (fun r_ G_ h_ => ?_)
      obtain ⟨rfl, rfl⟩ := h_
      rw [needN_nI hm, hn]
      try dsimp only [Option.toList, List.cons_append, List.nil_append]
      refine ev_isubN dX9_say_116 (by omega) ?_
      refine ev_istore _ dX9_say_117 (by decide) rfl ?_
      refine ev_iload dX9_say_119 rfl ?_
      refine ev_bipushN 8 dX9_say_121 (by decide) ?_
      refine ev_icmp_eqN 133 dX9_say_123 (by decide) (by omega) (by omega) (fun c123 => absurd c123 (by omega)) (fun c123 => ?_)
      refine ev_iload dX9_say_126 rfl ?_
      refine ev_bipushN 15 dX9_say_128 (by decide) ?_
      refine ev_icmp_leN 135 dX9_say_130 (by decide) (by omega) (by omega) (fun c130 => ?_) (fun c130 => absurd c130 (by decide))
      refine ev_iload_n dX9_say_135 rfl ?_
      refine ev_callS dX9_say_136 okX9_needs stX9_needs mlX9_88 [iV _] rfl rfl (Nat.le_of_ble_eq_true rfl) (Nat.le_of_ble_eq_true rfl) (sp_needs) (fun r_ G_ h_ => ?_)
      obtain ⟨rfl, rfl⟩ := h_
      rw [needN_nI hm, hn]
      try dsimp only [Option.toList, List.cons_append, List.nil_append]
      refine ev_if_neN 146 dX9_say_139 (by decide) (by omega) (fun c139 => absurd c139 (by decide)) (fun c139 => ?_)
      refine ev_iconstN 0 dX9_say_142 (by decide) ?_
      refine ev_goto 153 dX9_say_143 (by decide) ?_
      refine ev_istore _ dX9_say_153 (by decide) rfl ?_
      refine ev_iconstN 0 dX9_say_155 (by decide) ?_
      refine ev_istore _ dX9_say_156 (by decide) rfl ?_
      refine ev_iload_n dX9_say_158 rfl ?_
      refine ev_callS dX9_say_159 okX9_needs stX9_needs mlX9_88 [iV _] rfl rfl (Nat.le_of_ble_eq_true rfl) (Nat.le_of_ble_eq_true rfl) (sp_needs) (fun r_ G_ h_ => ?_)
      obtain ⟨rfl, rfl⟩ := h_
      rw [needN_nI hm, hn]
      try dsimp only [Option.toList, List.cons_append, List.nil_append]
      refine ev_iconstN 2 dX9_say_162 (by decide) ?_
      refine ev_icmp_neN 248 dX9_say_163 (by decide) (by omega) (by omega) (fun c163 => ?_) (fun c163 => absurd c163 (by decide))
      exact say_end (e := []) (tot := 0) hM hm hp8 (by omega) rfl (fun k on h => by simp at h) (fun _ _ => rfl) (fun j _ _ => ⟨rfl, rfl, fun _ _ => ⟨rfl, rfl⟩⟩)
    · refine ev_iload_n dX9_say_42 rfl ?_
      refine ev_bipushN 11 dX9_say_43 (by decide) ?_
      refine ev_icmp_gtN 52 dX9_say_45 (by decide) (by omega) (by omega) (fun c45 => ?_) (fun c45 => absurd c45 (by omega))
      refine ev_iconstN 0 dX9_say_52 (by decide) ?_
      refine ev_istore_n _ dX9_say_53 (by decide) rfl ?_
      refine ev_iconstN 1 dX9_say_54 (by decide) ?_
      refine ev_istore _ dX9_say_55 (by decide) rfl ?_
      refine ev_aload_n dX9_say_57 rfl ?_
      refine ev_getIv dX9_say_58 fX9_85 hM.m hp ?_
      refine ev_iload_n dX9_say_61 rfl ?_
      refine ev_callS dX9_say_62 okX9_needs stX9_needs mlX9_88 [iV _] rfl rfl (Nat.le_of_ble_eq_true rfl) (Nat.le_of_ble_eq_true rfl) (sp_needs) (fun r_ G_ h_ => ?_)
      obtain ⟨rfl, rfl⟩ := h_
      rw [needN_nI hm, hn]
      try dsimp only [Option.toList, List.cons_append, List.nil_append]
      refine ev_isubN dX9_say_65 (by omega) ?_
      refine ev_istore _ dX9_say_66 (by decide) rfl ?_
      refine ev_iload dX9_say_68 rfl ?_
      refine ev_aload_n dX9_say_70 rfl ?_
      refine ev_getIv dX9_say_71 fX9_85 hM.m hp ?_
      refine ev_icmp_geN 108 dX9_say_74 (by decide) (by omega) (by omega) (fun c74 => ?_) (fun c74 => absurd c74 (by omega))
      refine ev_aload_n dX9_say_108 rfl ?_
      refine ev_getIv dX9_say_109 fX9_85 hM.m hp ?_
      refine ev_iload_n dX9_say_112 rfl ?_
      refine ev_callS dX9_say_113 okX9_needs stX9_needs mlX9_88 [iV _] rfl rfl (Nat.le_of_ble_eq_true rfl) (Nat.le_of_ble_eq_true rfl) (sp_needs) (fun r_ G_ h_ => ?_)
      obtain ⟨rfl, rfl⟩ := h_
      rw [needN_nI hm, hn]
      try dsimp only [Option.toList, List.cons_append, List.nil_append]
      refine ev_isubN dX9_say_116 (by omega) ?_
      refine ev_istore _ dX9_say_117 (by decide) rfl ?_
      refine ev_iload dX9_say_119 rfl ?_
      refine ev_bipushN 8 dX9_say_121 (by decide) ?_
      refine ev_icmp_eqN 133 dX9_say_123 (by decide) (by omega) (by omega) (fun c123 => absurd c123 (by omega)) (fun c123 => ?_)
      refine ev_iload dX9_say_126 rfl ?_
      refine ev_bipushN 15 dX9_say_128 (by decide) ?_
      refine ev_icmp_leN 135 dX9_say_130 (by decide) (by omega) (by omega) (fun c130 => ?_) (fun c130 => absurd c130 (by decide))
      refine ev_iload_n dX9_say_135 rfl ?_
      refine ev_callS dX9_say_136 okX9_needs stX9_needs mlX9_88 [iV _] rfl rfl (Nat.le_of_ble_eq_true rfl) (Nat.le_of_ble_eq_true rfl) (sp_needs) (fun r_ G_ h_ => ?_)
      obtain ⟨rfl, rfl⟩ := h_
      rw [needN_nI hm, hn]
      try dsimp only [Option.toList, List.cons_append, List.nil_append]
      refine ev_if_neN 146 dX9_say_139 (by decide) (by omega) (fun c139 => absurd c139 (by decide)) (fun c139 => ?_)
      refine ev_iconstN 0 dX9_say_142 (by decide) ?_
      refine ev_goto 153 dX9_say_143 (by decide) ?_
      refine ev_istore _ dX9_say_153 (by decide) rfl ?_
      refine ev_iconstN 0 dX9_say_155 (by decide) ?_
      refine ev_istore _ dX9_say_156 (by decide) rfl ?_
      refine ev_iload_n dX9_say_158 rfl ?_
      refine ev_callS dX9_say_159 okX9_needs stX9_needs mlX9_88 [iV _] rfl rfl (Nat.le_of_ble_eq_true rfl) (Nat.le_of_ble_eq_true rfl) (sp_needs) (fun r_ G_ h_ => ?_)
      obtain ⟨rfl, rfl⟩ := h_
      rw [needN_nI hm, hn]
      try dsimp only [Option.toList, List.cons_append, List.nil_append]
      refine ev_iconstN 2 dX9_say_162 (by decide) ?_
      refine ev_icmp_neN 248 dX9_say_163 (by decide) (by omega) (by omega) (fun c163 => ?_) (fun c163 => absurd c163 (by decide))
      exact say_end (e := []) (tot := 0) hM hm hp8 (by omega) rfl (fun k on h => by simp at h) (fun _ _ => rfl) (fun j _ _ => ⟨rfl, rfl, fun _ _ => ⟨rfl, rfl⟩⟩)
  · refine ev_iload_n dX9_say_16 rfl ?_
    refine ev_callS dX9_say_17 okX9_isName stX9_isName mlX9_81 [iV _] rfl rfl (Nat.le_of_ble_eq_true rfl) (Nat.le_of_ble_eq_true rfl) (sp_isName) (fun r_ G_ h_ => ?_)
    obtain ⟨rfl, rfl⟩ := h_
    rw [hnm (by omega)]
    try dsimp only [Option.toList, List.cons_append, List.nil_append]
    refine ev_if_eq 34 dX9_say_20 (by decide) (fun c20 => absurd c20 (by decide)) (fun c20 => ?_)
    refine ev_aload_n dX9_say_23 rfl ?_
    refine ev_getIv dX9_say_24 fX9_85 hM.m hp ?_
    refine ev_iload_n dX9_say_27 rfl ?_
    refine ev_callS dX9_say_28 okX9_needs stX9_needs mlX9_88 [iV _] rfl rfl (Nat.le_of_ble_eq_true rfl) (Nat.le_of_ble_eq_true rfl) (sp_needs) (fun r_ G_ h_ => ?_)
    obtain ⟨rfl, rfl⟩ := h_
    rw [needN_nI hm, hn]
    try dsimp only [Option.toList, List.cons_append, List.nil_append]
    refine ev_icmp_geN 36 dX9_say_31 (by decide) (by omega) (by omega) (fun c31 => ?_) (fun c31 => absurd c31 (by omega))
    refine ev_iload_n dX9_say_36 rfl ?_
    refine ev_bipushN 9 dX9_say_37 (by decide) ?_
    refine ev_icmp_ltN 52 dX9_say_39 (by decide) (by omega) (by omega) (fun c39 => ?_) (fun c39 => ?_)
    · refine ev_iconstN 0 dX9_say_52 (by decide) ?_
      refine ev_istore_n _ dX9_say_53 (by decide) rfl ?_
      refine ev_iconstN 1 dX9_say_54 (by decide) ?_
      refine ev_istore _ dX9_say_55 (by decide) rfl ?_
      refine ev_aload_n dX9_say_57 rfl ?_
      refine ev_getIv dX9_say_58 fX9_85 hM.m hp ?_
      refine ev_iload_n dX9_say_61 rfl ?_
      refine ev_callS dX9_say_62 okX9_needs stX9_needs mlX9_88 [iV _] rfl rfl (Nat.le_of_ble_eq_true rfl) (Nat.le_of_ble_eq_true rfl) (sp_needs) (fun r_ G_ h_ => ?_)
      obtain ⟨rfl, rfl⟩ := h_
      rw [needN_nI hm, hn]
      try dsimp only [Option.toList, List.cons_append, List.nil_append]
      refine ev_isubN dX9_say_65 (by omega) ?_
      refine ev_istore _ dX9_say_66 (by decide) rfl ?_
      refine ev_iload dX9_say_68 rfl ?_
      refine ev_aload_n dX9_say_70 rfl ?_
      refine ev_getIv dX9_say_71 fX9_85 hM.m hp ?_
      refine ev_icmp_geN 108 dX9_say_74 (by decide) (by omega) (by omega) (fun c74 => ?_) (fun c74 => absurd c74 (by omega))
      refine ev_aload_n dX9_say_108 rfl ?_
      refine ev_getIv dX9_say_109 fX9_85 hM.m hp ?_
      refine ev_iload_n dX9_say_112 rfl ?_
      refine ev_callS dX9_say_113 okX9_needs stX9_needs mlX9_88 [iV _] rfl rfl (Nat.le_of_ble_eq_true rfl) (Nat.le_of_ble_eq_true rfl) (sp_needs) (fun r_ G_ h_ => ?_)
      obtain ⟨rfl, rfl⟩ := h_
      rw [needN_nI hm, hn]
      try dsimp only [Option.toList, List.cons_append, List.nil_append]
      refine ev_isubN dX9_say_116 (by omega) ?_
      refine ev_istore _ dX9_say_117 (by decide) rfl ?_
      refine ev_iload dX9_say_119 rfl ?_
      refine ev_bipushN 8 dX9_say_121 (by decide) ?_
      refine ev_icmp_eqN 133 dX9_say_123 (by decide) (by omega) (by omega) (fun c123 => absurd c123 (by omega)) (fun c123 => ?_)
      refine ev_iload dX9_say_126 rfl ?_
      refine ev_bipushN 15 dX9_say_128 (by decide) ?_
      refine ev_icmp_leN 135 dX9_say_130 (by decide) (by omega) (by omega) (fun c130 => ?_) (fun c130 => absurd c130 (by decide))
      refine ev_iload_n dX9_say_135 rfl ?_
      refine ev_callS dX9_say_136 okX9_needs stX9_needs mlX9_88 [iV _] rfl rfl (Nat.le_of_ble_eq_true rfl) (Nat.le_of_ble_eq_true rfl) (sp_needs) (fun r_ G_ h_ => ?_)
      obtain ⟨rfl, rfl⟩ := h_
      rw [needN_nI hm, hn]
      try dsimp only [Option.toList, List.cons_append, List.nil_append]
      refine ev_if_neN 146 dX9_say_139 (by decide) (by omega) (fun c139 => absurd c139 (by decide)) (fun c139 => ?_)
      refine ev_iconstN 0 dX9_say_142 (by decide) ?_
      refine ev_goto 153 dX9_say_143 (by decide) ?_
      refine ev_istore _ dX9_say_153 (by decide) rfl ?_
      refine ev_iconstN 0 dX9_say_155 (by decide) ?_
      refine ev_istore _ dX9_say_156 (by decide) rfl ?_
      refine ev_iload_n dX9_say_158 rfl ?_
      refine ev_callS dX9_say_159 okX9_needs stX9_needs mlX9_88 [iV _] rfl rfl (Nat.le_of_ble_eq_true rfl) (Nat.le_of_ble_eq_true rfl) (sp_needs) (fun r_ G_ h_ => ?_)
      obtain ⟨rfl, rfl⟩ := h_
      rw [needN_nI hm, hn]
      try dsimp only [Option.toList, List.cons_append, List.nil_append]
      refine ev_iconstN 2 dX9_say_162 (by decide) ?_
      refine ev_icmp_neN 248 dX9_say_163 (by decide) (by omega) (by omega) (fun c163 => ?_) (fun c163 => absurd c163 (by decide))
      exact say_end (e := []) (tot := 0) hM hm hp8 (by omega) rfl (fun k on h => by simp at h) (fun _ _ => rfl) (fun j _ _ => ⟨rfl, rfl, fun _ _ => ⟨rfl, rfl⟩⟩)
    · refine ev_iload_n dX9_say_42 rfl ?_
      refine ev_bipushN 11 dX9_say_43 (by decide) ?_
      refine ev_icmp_gtN 52 dX9_say_45 (by decide) (by omega) (by omega) (fun c45 => ?_) (fun c45 => absurd c45 (by omega))
      refine ev_iconstN 0 dX9_say_52 (by decide) ?_
      refine ev_istore_n _ dX9_say_53 (by decide) rfl ?_
      refine ev_iconstN 1 dX9_say_54 (by decide) ?_
      refine ev_istore _ dX9_say_55 (by decide) rfl ?_
      refine ev_aload_n dX9_say_57 rfl ?_
      refine ev_getIv dX9_say_58 fX9_85 hM.m hp ?_
      refine ev_iload_n dX9_say_61 rfl ?_
      refine ev_callS dX9_say_62 okX9_needs stX9_needs mlX9_88 [iV _] rfl rfl (Nat.le_of_ble_eq_true rfl) (Nat.le_of_ble_eq_true rfl) (sp_needs) (fun r_ G_ h_ => ?_)
      obtain ⟨rfl, rfl⟩ := h_
      rw [needN_nI hm, hn]
      try dsimp only [Option.toList, List.cons_append, List.nil_append]
      refine ev_isubN dX9_say_65 (by omega) ?_
      refine ev_istore _ dX9_say_66 (by decide) rfl ?_
      refine ev_iload dX9_say_68 rfl ?_
      refine ev_aload_n dX9_say_70 rfl ?_
      refine ev_getIv dX9_say_71 fX9_85 hM.m hp ?_
      refine ev_icmp_geN 108 dX9_say_74 (by decide) (by omega) (by omega) (fun c74 => ?_) (fun c74 => absurd c74 (by omega))
      refine ev_aload_n dX9_say_108 rfl ?_
      refine ev_getIv dX9_say_109 fX9_85 hM.m hp ?_
      refine ev_iload_n dX9_say_112 rfl ?_
      refine ev_callS dX9_say_113 okX9_needs stX9_needs mlX9_88 [iV _] rfl rfl (Nat.le_of_ble_eq_true rfl) (Nat.le_of_ble_eq_true rfl) (sp_needs) (fun r_ G_ h_ => ?_)
      obtain ⟨rfl, rfl⟩ := h_
      rw [needN_nI hm, hn]
      try dsimp only [Option.toList, List.cons_append, List.nil_append]
      refine ev_isubN dX9_say_116 (by omega) ?_
      refine ev_istore _ dX9_say_117 (by decide) rfl ?_
      refine ev_iload dX9_say_119 rfl ?_
      refine ev_bipushN 8 dX9_say_121 (by decide) ?_
      refine ev_icmp_eqN 133 dX9_say_123 (by decide) (by omega) (by omega) (fun c123 => absurd c123 (by omega)) (fun c123 => ?_)
      refine ev_iload dX9_say_126 rfl ?_
      refine ev_bipushN 15 dX9_say_128 (by decide) ?_
      refine ev_icmp_leN 135 dX9_say_130 (by decide) (by omega) (by omega) (fun c130 => ?_) (fun c130 => absurd c130 (by decide))
      refine ev_iload_n dX9_say_135 rfl ?_
      refine ev_callS dX9_say_136 okX9_needs stX9_needs mlX9_88 [iV _] rfl rfl (Nat.le_of_ble_eq_true rfl) (Nat.le_of_ble_eq_true rfl) (sp_needs) (fun r_ G_ h_ => ?_)
      obtain ⟨rfl, rfl⟩ := h_
      rw [needN_nI hm, hn]
      try dsimp only [Option.toList, List.cons_append, List.nil_append]
      refine ev_if_neN 146 dX9_say_139 (by decide) (by omega) (fun c139 => absurd c139 (by decide)) (fun c139 => ?_)
      refine ev_iconstN 0 dX9_say_142 (by decide) ?_
      refine ev_goto 153 dX9_say_143 (by decide) ?_
      refine ev_istore _ dX9_say_153 (by decide) rfl ?_
      refine ev_iconstN 0 dX9_say_155 (by decide) ?_
      refine ev_istore _ dX9_say_156 (by decide) rfl ?_
      refine ev_iload_n dX9_say_158 rfl ?_
      refine ev_callS dX9_say_159 okX9_needs stX9_needs mlX9_88 [iV _] rfl rfl (Nat.le_of_ble_eq_true rfl) (Nat.le_of_ble_eq_true rfl) (sp_needs) (fun r_ G_ h_ => ?_)
      obtain ⟨rfl, rfl⟩ := h_
      rw [needN_nI hm, hn]
      try dsimp only [Option.toList, List.cons_append, List.nil_append]
      refine ev_iconstN 2 dX9_say_162 (by decide) ?_
      refine ev_icmp_neN 248 dX9_say_163 (by decide) (by omega) (by omega) (fun c163 => ?_) (fun c163 => absurd c163 (by decide))
      exact say_end (e := []) (tot := 0) hM hm hp8 (by omega) rfl (fun k on h => by simp at h) (fun _ _ => rfl) (fun j _ _ => ⟨rfl, rfl, fun _ _ => ⟨rfl, rfl⟩⟩)
end M15
