section M35
variable {X : CX} {d : Nat} {K : Nat → Nat} {I : Nat → Nat → Int32} {J : Nat → Nat → Int64} {R : Nat → Nat → Option Nat} {A : Nat → Nat → Int32} {B : Nat → Nat → Option Nat} {Ln : Nat → Nat} {n sl : Nat}
/-- whether the plan looks at an entry -/
def mineB (A : Nat → Nat → Int32) (p : PP) (x : Nat) : Bool := match p.1 with
  | none => decide (A 16 x = 0)
  | some j => decide (A 16 x = nI (j + 1) ∧ ¬ (A 17 x).toInt64 < p.2.1 ∧ ¬ p.2.2 < (A 17 x).toInt64)
def candB (A : Nat → Nat → Int32) (many t : Nat) (p : PP) (x : Nat) : Bool := mineB A p x && decide (¬ A 20 x = 0) && decide (seenN A (A 16 x) (A 17 x) (A 18 x) (A 26 t) many = some x)
theorem lgc_lt {a b : Int64} : lg_cmp a b < 0 ↔ a < b := by
  constructor
  · intro h
    exact Classical.not_not.mp (fun z => absurd (lgc_ge.mpr z) (Int32.not_le.mpr h))
  · intro h
    exact Int32.not_le.mp (fun z => lgc_ge.mp z h)
theorem lgc_gt {a b : Int64} : 0 < lg_cmp a b ↔ b < a := by
  constructor
  · intro h
    exact Classical.not_not.mp (fun z => absurd (lgc_le.mpr z) (Int32.not_le.mpr h))
  · intro h
    exact Int32.not_le.mp (fun z => lgc_le.mp z h)
set_option maxRecDepth 100000 in
set_option maxHeartbeats 4000000 in
theorem qc_1 {Q : Option LV → GH → Prop} (hM : MFix K R Ln) {t e i : Nat} (hi : i < 520) {p : PP} (hp3 : ∀ j, p.1 = some j → j < 3) (hu : I 604 11 = oI p.1) (hlo : J 606 11 = p.2.1) (hhi : J 607 11 = p.2.2) {w4 : Option LV} (kont : Ev X mX9_query d 223 [some (rV (some 11)), some (iV (nI t)), some (iV (nI e)), some (iV (nI i)), some (iV (bZ (mineB A p i)))] [] (K, I, J, R, A, B, Ln, n, sl) Q) : Ev X mX9_query d 147 [some (rV (some 11)), some (iV (nI t)), some (iV (nI e)), some (iV (nI i)), w4] [] (K, I, J, R, A, B, Ln, n, sl) Q := by
  have k2 : ∀ z : Nat, nI z = bZ (mineB A p i) → Ev X mX9_query d 223 [some (rV (some 11)), some (iV (nI t)), some (iV (nI e)), some (iV (nI i)), some (iV (nI (z)))] [] (K, I, J, R, A, B, Ln, n, sl) Q := fun z hz => by rw [hz]; exact kont
  obtain ⟨u, lo, hi'⟩ := p
  cases u with
  | none =>
    have hu1 : I 604 11 = -1 := hu
    refine ev_aload_n dX9_query_147 rfl ?_
    refine ev_getIv dX9_query_148 fX9_71 hM.m hu1 ?_
    refine ev_if_ge 171 dX9_query_151 (by decide) (fun c151 => absurd c151 (by decide)) (fun c151 => ?_)
    refine ev_aload_n dX9_query_154 rfl ?_
    refine ev_getR dX9_query_155 fX9_23 hM.m hM.R_space ?_
    refine ev_iload_n dX9_query_158 rfl ?_
    refine ev_iald dX9_query_159 hM.K_space hM.L_space (by decide) (by omega) ?_
    refine ev_if_ne 167 dX9_query_160 (by decide) (fun c160 => ?_) (fun c160 => ?_)
    · refine ev_iconstN 0 dX9_query_167 (by decide) ?_
      refine ev_goto 221 dX9_query_168 (by decide) ?_
      refine ev_istoreS dX9_query_221 (by decide) rfl ?_
      first | exact k2 0 (by simp [mineB, bZ, nI_0, c160]) | exact k2 1 (by simp [mineB, bZ, nI_one, c160])
    · refine ev_iconstN 1 dX9_query_163 (by decide) ?_
      refine ev_goto 221 dX9_query_164 (by decide) ?_
      refine ev_istoreS dX9_query_221 (by decide) rfl ?_
      first | exact k2 0 (by simp [mineB, bZ, nI_0, c160]) | exact k2 1 (by simp [mineB, bZ, nI_one, c160])
  | some j =>
    have hu1 : I 604 11 = nI j := hu
    have hj3 := hp3 j rfl
    have hmi : mineB A (some j, lo, hi') i = decide (A 16 i = nI (j + 1) ∧ ¬ (A 17 i).toInt64 < lo ∧ ¬ hi' < (A 17 i).toInt64) := rfl
    rw [hmi] at k2
    have hlo' : J 606 11 = lo := hlo
    have hhi' : J 607 11 = hi' := hhi
    refine ev_aload_n dX9_query_147 rfl ?_
    refine ev_getIv dX9_query_148 fX9_71 hM.m hu1 ?_
    refine ev_if_geN 171 dX9_query_151 (by decide) (by omega) ?_
    refine ev_aload_n dX9_query_171 rfl ?_
    refine ev_getR dX9_query_172 fX9_23 hM.m hM.R_space ?_
    refine ev_iload_n dX9_query_175 rfl ?_
    refine ev_iald dX9_query_176 hM.K_space hM.L_space (by decide) (by omega) ?_
    refine ev_aload_n dX9_query_177 rfl ?_
    refine ev_getIv dX9_query_178 fX9_71 hM.m hu1 ?_
    refine ev_iconstN 1 dX9_query_181 (by decide) ?_
    refine ev_iaddN dX9_query_182 ?_
    refine ev_icmp_ne 220 dX9_query_183 (by decide) (fun c183 => ?_) (fun c183 => ?_)
    · refine ev_iconstN 0 dX9_query_220 (by decide) ?_
      refine ev_istoreS dX9_query_221 (by decide) rfl ?_
      first | exact k2 0 (congrArg bZ (decide_eq_false (fun z => c183 z.1))).symm | (have y213 := lgc_gt.mp c213; exact k2 0 (congrArg bZ (decide_eq_false (fun z => z.2.2 y213))).symm) | (have y198 := lgc_lt.mp c198; exact k2 0 (congrArg bZ (decide_eq_false (fun z => z.2.1 y198))).symm) | exact k2 1 (congrArg bZ (decide_eq_true ⟨c183, fun z => c198 (lgc_lt.mpr z), fun z => c213 (lgc_gt.mpr z)⟩)).symm
    · refine ev_aload_n dX9_query_186 rfl ?_
      refine ev_getR dX9_query_187 fX9_26 hM.m hM.R_value ?_
      refine ev_iload_n dX9_query_190 rfl ?_
      refine ev_iald dX9_query_191 hM.K_value hM.L_value (by decide) (by omega) ?_
      refine ev_i2l dX9_query_192 ?_
      refine ev_aload_n dX9_query_193 rfl ?_
      refine ev_getJv dX9_query_194 fX9_239 hM.m hlo' ?_
      refine ev_lcmp dX9_query_197 ?_
      refine ev_if_lt 220 dX9_query_198 (by decide) (fun c198 => ?_) (fun c198 => ?_)
      · refine ev_iconstN 0 dX9_query_220 (by decide) ?_
        refine ev_istoreS dX9_query_221 (by decide) rfl ?_
        first | exact k2 0 (congrArg bZ (decide_eq_false (fun z => c183 z.1))).symm | (have y213 := lgc_gt.mp c213; exact k2 0 (congrArg bZ (decide_eq_false (fun z => z.2.2 y213))).symm) | (have y198 := lgc_lt.mp c198; exact k2 0 (congrArg bZ (decide_eq_false (fun z => z.2.1 y198))).symm) | exact k2 1 (congrArg bZ (decide_eq_true ⟨c183, fun z => c198 (lgc_lt.mpr z), fun z => c213 (lgc_gt.mpr z)⟩)).symm
      · refine ev_aload_n dX9_query_201 rfl ?_
        refine ev_getR dX9_query_202 fX9_26 hM.m hM.R_value ?_
        refine ev_iload_n dX9_query_205 rfl ?_
        refine ev_iald dX9_query_206 hM.K_value hM.L_value (by decide) (by omega) ?_
        refine ev_i2l dX9_query_207 ?_
        refine ev_aload_n dX9_query_208 rfl ?_
        refine ev_getJv dX9_query_209 fX9_242 hM.m hhi' ?_
        refine ev_lcmp dX9_query_212 ?_
        refine ev_if_gt 220 dX9_query_213 (by decide) (fun c213 => ?_) (fun c213 => ?_)
        · refine ev_iconstN 0 dX9_query_220 (by decide) ?_
          refine ev_istoreS dX9_query_221 (by decide) rfl ?_
          first | exact k2 0 (congrArg bZ (decide_eq_false (fun z => c183 z.1))).symm | (have y213 := lgc_gt.mp c213; exact k2 0 (congrArg bZ (decide_eq_false (fun z => z.2.2 y213))).symm) | (have y198 := lgc_lt.mp c198; exact k2 0 (congrArg bZ (decide_eq_false (fun z => z.2.1 y198))).symm) | exact k2 1 (congrArg bZ (decide_eq_true ⟨c183, fun z => c198 (lgc_lt.mpr z), fun z => c213 (lgc_gt.mpr z)⟩)).symm
        · refine ev_iconstN 1 dX9_query_216 (by decide) ?_
          refine ev_goto 221 dX9_query_217 (by decide) ?_
          refine ev_istoreS dX9_query_221 (by decide) rfl ?_
          first | exact k2 0 (congrArg bZ (decide_eq_false (fun z => c183 z.1))).symm | (have y213 := lgc_gt.mp c213; exact k2 0 (congrArg bZ (decide_eq_false (fun z => z.2.2 y213))).symm) | (have y198 := lgc_lt.mp c198; exact k2 0 (congrArg bZ (decide_eq_false (fun z => z.2.1 y198))).symm) | exact k2 1 (congrArg bZ (decide_eq_true ⟨c183, fun z => c198 (lgc_lt.mpr z), fun z => c213 (lgc_gt.mpr z)⟩)).symm
set_option maxRecDepth 100000 in
set_option maxHeartbeats 4000000 in
theorem qc_2 {Q : Option LV → GH → Prop} (hM : MFix K R Ln) {t e i c many : Nat} (ht : t < 60) (hi : i < many) (hm : I 582 11 = nI many) (hbm : many ≤ 520) {p : PP} (kont : Ev X mX9_query (d + 1) 283 [some (rV (some 11)), some (iV (nI t)), some (iV (nI e)), some (iV (nI i)), some (iV (bZ (mineB A p i)))] [] (K, u2 I 605 11 (nI (c + (if candB A many t p i = true then 1 else 0))), J, R, A, B, Ln, n, sl) Q) : Ev X mX9_query (d + 1) 223 [some (rV (some 11)), some (iV (nI t)), some (iV (nI e)), some (iV (nI i)), some (iV (bZ (mineB A p i)))] [] (K, u2 I 605 11 (nI c), J, R, A, B, Ln, n, sl) Q := by
  have k2 : ∀ z : Nat, z = (if candB A many t p i = true then 1 else 0) → Ev X mX9_query (d + 1) 283 [some (rV (some 11)), some (iV (nI t)), some (iV (nI e)), some (iV (nI i)), some (iV (bZ (mineB A p i)))] [] (K, u2 (u2 I 605 11 (nI c)) 605 11 (nI (c + z)), J, R, A, B, Ln, n, sl) Q := fun z hz => by subst hz; rw [u2_u2]; exact kont
  have hm1 : u2 I 605 11 (nI c) 582 11 = nI many := (u2_ne1 (by decide)).trans hm
  have hsn := sp_seen (X := X) (d := d) (J := J) (A := A) (B := B) (n := n) (sl := sl) (s := A 16 i) (v := A 17 i) (k := A 18 i) (t := A 26 t) hM hm1 hbm
  have ho : oI (seenN A (A 16 i) (A 17 i) (A 18 i) (A 26 t) many) = nI i ↔ seenN A (A 16 i) (A 17 i) (A 18 i) (A 26 t) many = some i := oI_eq (by omega) (fun b hb => by have := seenN_lt hb; omega)
  unfold candB at k2
  generalize hmm : mineB A p i = mm at k2
  cases mm with
  | false =>
    show Ev X mX9_query (d + 1) 223 [some (rV (some 11)), some (iV (nI t)), some (iV (nI e)), some (iV (nI i)), some (iV (nI (0)))] [] (K, u2 I 605 11 (nI c), J, R, A, B, Ln, n, sl) Q
    refine ev_aload_n dX9_query_223 rfl ?_
    refine ev_dup dX9_query_224 rfl ?_
    refine ev_getIv dX9_query_225 fX9_249 hM.m u2_self ?_
    refine ev_iload dX9_query_228 rfl ?_
    refine ev_if_eqN 278 dX9_query_230 (by decide) (by omega) (fun c230 => ?_) (fun c230 => absurd c230 (by decide))
    refine ev_iconstN 0 dX9_query_278 (by decide) ?_
    refine ev_iaddN dX9_query_279 ?_
    refine ev_putI dX9_query_280 fX9_249 (Or.inl rfl) (Or.inl rfl) hM.m ?_
    exact k2 0 rfl
  | true =>
    show Ev X mX9_query (d + 1) 223 [some (rV (some 11)), some (iV (nI t)), some (iV (nI e)), some (iV (nI i)), some (iV (nI (1)))] [] (K, u2 I 605 11 (nI c), J, R, A, B, Ln, n, sl) Q
    refine ev_aload_n dX9_query_223 rfl ?_
    refine ev_dup dX9_query_224 rfl ?_
    refine ev_getIv dX9_query_225 fX9_249 hM.m u2_self ?_
    refine ev_iload dX9_query_228 rfl ?_
    refine ev_if_eqN 278 dX9_query_230 (by decide) (by omega) (fun c230 => absurd c230 (by decide)) (fun c230 => ?_)
    refine ev_aload_n dX9_query_233 rfl ?_
    refine ev_getR dX9_query_234 fX9_35 hM.m hM.R_live ?_
    refine ev_iload_n dX9_query_237 rfl ?_
    refine ev_zald dX9_query_238 hM.K_live hM.L_live (by decide) (by omega) ?_
    refine ev_if_eq 278 dX9_query_239 (by decide) (fun c239 => ?_) (fun c239 => ?_)
    · refine ev_iconstN 0 dX9_query_278 (by decide) ?_
      refine ev_iaddN dX9_query_279 ?_
      refine ev_putI dX9_query_280 fX9_249 (Or.inl rfl) (Or.inl rfl) hM.m ?_
      first | exact k2 0 (by rw [decide_eq_false (fun z : ¬ A 20 i = 0 => z c239)]; rfl) | exact k2 0 (by rw [decide_eq_false (fun z => c271 (ho.mpr z)), Bool.and_false]; rfl) | exact k2 1 (by rw [decide_eq_true (show ¬ A 20 i = 0 from c239), decide_eq_true (ho.mp c271)]; rfl)
    · refine ev_aload_n dX9_query_242 rfl ?_
      refine ev_aload_n dX9_query_243 rfl ?_
      refine ev_getR dX9_query_244 fX9_23 hM.m hM.R_space ?_
      refine ev_iload_n dX9_query_247 rfl ?_
      refine ev_iald dX9_query_248 hM.K_space hM.L_space (by decide) (by omega) ?_
      refine ev_aload_n dX9_query_249 rfl ?_
      refine ev_getR dX9_query_250 fX9_26 hM.m hM.R_value ?_
      refine ev_iload_n dX9_query_253 rfl ?_
      refine ev_iald dX9_query_254 hM.K_value hM.L_value (by decide) (by omega) ?_
      refine ev_aload_n dX9_query_255 rfl ?_
      refine ev_getR dX9_query_256 fX9_29 hM.m hM.R_key ?_
      refine ev_iload_n dX9_query_259 rfl ?_
      refine ev_iald dX9_query_260 hM.K_key hM.L_key (by decide) (by omega) ?_
      refine ev_aload_n dX9_query_261 rfl ?_
      refine ev_getR dX9_query_262 fX9_53 hM.m hM.R_began ?_
      refine ev_iload_n dX9_query_265 rfl ?_
      refine ev_iald dX9_query_266 hM.K_began hM.L_began (by decide) (by omega) ?_
      refine ev_callV dX9_query_267 okX9_seen inX9_seen seX9_seen mlX9_109 hM.m (by decide) rfl [iV _, iV _, iV _, iV _] rfl rfl (Nat.le_of_ble_eq_true rfl) (Nat.le_of_ble_eq_true rfl) (hsn) (fun r_ G_ h_ => ?_)
      obtain ⟨rfl, rfl⟩ := h_
      try dsimp only [Option.toList, List.cons_append, List.nil_append]
      refine ev_iload_n dX9_query_270 rfl ?_
      refine ev_icmp_ne 278 dX9_query_271 (by decide) (fun c271 => ?_) (fun c271 => ?_)
      · refine ev_iconstN 0 dX9_query_278 (by decide) ?_
        refine ev_iaddN dX9_query_279 ?_
        refine ev_putI dX9_query_280 fX9_249 (Or.inl rfl) (Or.inl rfl) hM.m ?_
        first | exact k2 0 (by rw [decide_eq_false (fun z : ¬ A 20 i = 0 => z c239)]; rfl) | exact k2 0 (by rw [decide_eq_false (fun z => c271 (ho.mpr z)), Bool.and_false]; rfl) | exact k2 1 (by rw [decide_eq_true (show ¬ A 20 i = 0 from c239), decide_eq_true (ho.mp c271)]; rfl)
      · refine ev_iconstN 1 dX9_query_274 (by decide) ?_
        refine ev_goto 279 dX9_query_275 (by decide) ?_
        refine ev_iaddN dX9_query_279 ?_
        refine ev_putI dX9_query_280 fX9_249 (Or.inl rfl) (Or.inl rfl) hM.m ?_
        first | exact k2 0 (by rw [decide_eq_false (fun z : ¬ A 20 i = 0 => z c239)]; rfl) | exact k2 0 (by rw [decide_eq_false (fun z => c271 (ho.mpr z)), Bool.and_false]; rfl) | exact k2 1 (by rw [decide_eq_true (show ¬ A 20 i = 0 from c239), decide_eq_true (ho.mp c271)]; rfl)
set_option maxRecDepth 100000 in
set_option maxHeartbeats 4000000 in
theorem lp_qc {Q : Option LV → GH → Prop} (hM : MFix K R Ln) {t e many : Nat} (ht : t < 60) (hm : I 582 11 = nI many) (hbm : many ≤ 520) {p : PP} (hp3 : ∀ j, p.1 = some j → j < 3) (hu : I 604 11 = oI p.1) (hlo : J 606 11 = p.2.1) (hhi : J 607 11 = p.2.2) (kont : ∀ w3 w4, Ev X mX9_query (d + 1) 289 [some (rV (some 11)), some (iV (nI t)), some (iV (nI e)), w3, w4] [] (K, u2 I 605 11 (nI (cnt (candB A many t p) many)), J, R, A, B, Ln, n, sl) Q) : ∀ (g i : Nat) (w4 : Option LV), i + g = many → Ev X mX9_query (d + 1) 139 [some (rV (some 11)), some (iV (nI t)), some (iV (nI e)), some (iV (nI i)), w4] [] (K, u2 I 605 11 (nI (cnt (candB A many t p) i)), J, R, A, B, Ln, n, sl) Q := by
  intro g
  induction g with
  | zero =>
    intro i w4 hg
    have e2 : i = many := by omega
    subst e2
    have hm1 : u2 I 605 11 (nI (cnt (candB A i t p) i)) 582 11 = nI i := (u2_ne1 (by decide)).trans hm
    refine ev_iload_n dX9_query_139 rfl ?_
    refine ev_aload_n dX9_query_140 rfl ?_
    refine ev_getIv dX9_query_141 fX9_106 hM.m hm1 ?_
    refine ev_icmp_geN 289 dX9_query_144 (by decide) (by omega) (by omega) (fun c144 => ?_) (fun c144 => absurd c144 (by omega))
    exact kont _ _
  | succ g ih =>
    intro i w4 hg
    have hm1 : u2 I 605 11 (nI (cnt (candB A many t p) i)) 582 11 = nI many := (u2_ne1 (by decide)).trans hm
    refine ev_iload_n dX9_query_139 rfl ?_
    refine ev_aload_n dX9_query_140 rfl ?_
    refine ev_getIv dX9_query_141 fX9_106 hM.m hm1 ?_
    refine ev_icmp_geN 289 dX9_query_144 (by decide) (by omega) (by omega) (fun c144 => absurd c144 (by omega)) (fun c144 => ?_)
    refine qc_1 (p := p) hM (by omega) hp3 ((u2_ne1 (by decide)).trans hu) hlo hhi ?_
    refine qc_2 hM ht (by omega) hm hbm ?_
    have hgo := fun w4 => ih (i + 1) w4 (by omega)
    rw [cnt.eq_2] at hgo
    refine ev_iincNS (b := 1) dX9_query_283 rfl (by decide) (by decide) rfl ?_
    refine ev_goto 139 dX9_query_286 (by decide) ?_
    exact hgo _
end M35
