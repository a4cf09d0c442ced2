section M12
variable {X : CX} {d : Nat} {K : Nat → Nat} {I : Nat → Nat → Int32} {J : Nat → Nat → Int64} {R : Nat → Nat → Option Nat} {A : Nat → Nat → Int32} {B : Nat → Nat → Option Nat} {Ln : Nat → Nat} {n sl : Nat}
abbrev SP : Type := Bool × Int64 × Int64
def bnd (a b : Int64) (st : SP) : SP := (true, mxL a st.2.1, mnL b st.2.2)
/-- the number of an expression that is a CONST alone -/
def isC : EX → Option Int32
  | [(3, c)] => some c
  | _ => none
def cnj1 (ie : EX) (o : Nat) (s1 s2 : EX) (st : SP) : SP := match isC s2 with
  | some c => if s1 = ie then bnd (if o = 8 then c.toInt64 else -2147483648) (if o = 8 then c.toInt64 else c.toInt64 - 1) st else st
  | none => st
def cnj2 (ie : EX) (o : Nat) (s1 s2 : EX) (st : SP) : SP := match isC s1 with
  | some c => if s2 = ie then bnd (if o = 8 then c.toInt64 else c.toInt64 + 1) (if o = 8 then c.toInt64 else 2147483647) st else st
  | none => st
/-- the reference's three numbers of a plan in the making -/
def Cj (I0 : Nat → Nat → Int32) (J0 : Nat → Nat → Int64) (I : Nat → Nat → Int32) (J : Nat → Nat → Int64) (st : SP) : Prop := (I 608 11 = bZ st.1 ∧ J 609 11 = st.2.1 ∧ J 610 11 = st.2.2) ∧ (∀ f i, ¬ (i = 11 ∧ f = 608) → I f i = I0 f i) ∧ (∀ f i, ¬ (i = 11 ∧ (f = 609 ∨ f = 610)) → J f i = J0 f i)
theorem Cj.bound {I0 I : Nat → Nat → Int32} {J0 J : Nat → Nat → Int64} {st : SP} (h : Cj I0 J0 I J st) (a b : Int64) : Cj I0 J0 (u2 I 608 11 1) (u2 (u2 J 609 11 (mxL a (J 609 11))) 610 11 (mnL b (J 610 11))) (bnd a b st) := by
  obtain ⟨⟨h1, h2, h3⟩, h4, h5⟩ := h
  refine ⟨⟨by rw [u2_self]; rfl, ?_, ?_⟩, fun f i hf => ?_, fun f i hf => ?_⟩
  · rw [u2_ne1 (by decide), u2_self, h2]; rfl
  · rw [u2_self, h3]; rfl
  · rw [show u2 I 608 11 1 f i = I f i from if_neg (fun z => hf ⟨z.2, z.1⟩)]
    exact h4 f i hf
  · rw [show ∀ g : Nat → Nat → Int64, u2 g 610 11 (mnL b (J 610 11)) f i = g f i from fun g => if_neg (fun z => hf ⟨z.2, Or.inr z.1⟩), show ∀ g : Nat → Nat → Int64, u2 g 609 11 (mxL a (J 609 11)) f i = g f i from fun g => if_neg (fun z => hf ⟨z.2, Or.inl z.1⟩)]
    exact h5 f i hf
theorem isC_none {s : EX} (h : isC s = none) (hs : s.length = 1) : ∃ on, s = [on] ∧ ¬ on.1 = 3 := by
  match s, hs with
  | [on], _ =>
    refine ⟨on, rfl, fun e => ?_⟩
    obtain ⟨m, c⟩ := on
    simp only at e
    subst e
    simp [isC] at h
theorem isC_some {s : EX} {c : Int32} (h : isC s = some c) : s = [(3, c)] := by
  unfold isC at h
  split at h
  · cases h; rfl
  · cases h
theorem wf12 : ∀ (e : EX) (k : Nat), wfE e k → ∀ on ∈ e, on.1 ≤ 12
  | [], _, _, _, h => by cases h
  | o1 :: e, k, hw, on, h => by
    rcases List.mem_cons.mp h with rfl | h
    · exact hw.1
    · exact wf12 e _ hw.2.2.2 on h
theorem tree_ne {e : EX} (h : TreeE e) : e ≠ [] := fun z => by
  have := h.2
  rw [z] at this
  cases this
set_option maxRecDepth 100000 in
set_option maxHeartbeats 4000000 in
theorem cj_second {Q : Option LV → GH → Prop} (hM : MFix K R Ln) {x i b o : Nat} {ex pre s1 s2 suf ie : EX} {v : Int32} (hx : x < 11) (hi : i < 3) (ho : o = 7 ∨ o = 8) (hE : ExA A x ex) (hI : ExA A (8 + i) ie) (hIe : TreeE ie) (hex : ex = pre ++ s1 ++ s2 ++ [(o, v)] ++ suf) (h1 : TreeE s1) (h2 : TreeE s2) (hb : b = pre.length + s1.length + s2.length) {I0 : Nat → Nat → Int32} {J0 : Nat → Nat → Int64} {st : SP} {w7 : Option LV} (hc : Cj I0 J0 I J st) (hq : ∀ I1 J1, Cj I0 J0 I1 J1 (cnj2 ie o s1 s2 st) → Q none (K, I1, J1, R, A, B, Ln, n, sl)) : Ev X mX9_conjunct (d + 1) 138 [some (rV (some 11)), some (iV (nI x)), some (iV (nI b)), some (iV (nI i)), some (iV (nI o)), some (iV (nI (pre ++ s1).length)), some (iV (nI pre.length)), w7, none] [] (K, I, J, R, A, B, Ln, n, sl) Q := by
  have h15 := hE.2.1
  have hlen : ex.length = pre.length + s1.length + s2.length + 1 + suf.length := by rw [hex]; simp; omega
  have l1 : 0 < s1.length := List.length_pos_iff.mpr (tree_ne h1)
  have l2 : 0 < s2.length := List.length_pos_iff.mpr (tree_ne h2)
  have hpl : (pre ++ s1).length = pre.length + s1.length := List.length_append
  cases hC : isC s1 with
  | none =>
    have hq' := hq I J (by unfold cnj2; rw [hC]; exact hc)
    by_cases hl : s1.length = 1
    · obtain ⟨on, rfl, hon⟩ := isC_none hC hl
      have g := hE.2.2 pre.length on (by rw [hex]; simp)
      have b12 := wf12 _ _ h1.1 on (by simp)
      refine ev_iload dX9_conjunct_138 rfl ?_
      refine ev_iload dX9_conjunct_140 rfl ?_
      refine ev_iconstN 1 dX9_conjunct_142 (by decide) ?_
      refine ev_isubN dX9_conjunct_143 (by omega) ?_
      refine ev_icmp_neN 227 dX9_conjunct_144 (by decide) (by omega) (by omega) (fun c144 => absurd c144 (by omega)) (fun c144 => ?_)
      refine ev_aload_n dX9_conjunct_147 rfl ?_
      refine ev_getR dX9_conjunct_148 fX9_13 hM.m hM.R_op ?_
      refine ev_bipushN 15 dX9_conjunct_151 (by decide) ?_
      refine ev_iload_n dX9_conjunct_153 rfl ?_
      refine ev_imulN dX9_conjunct_154 ?_
      refine ev_iload dX9_conjunct_155 rfl ?_
      refine ev_iaddN dX9_conjunct_157 ?_
      refine ev_ialdv dX9_conjunct_158 hM.K_op hM.L_op (by decide) (by omega) g.1 ?_
      refine ev_iconstN 3 dX9_conjunct_159 (by decide) ?_
      refine ev_icmp_neN 227 dX9_conjunct_160 (by decide) (by omega) (by omega) (fun c160 => ?_) (fun c160 => absurd c160 hon)
      refine ev_return dX9_conjunct_227 rfl ?_
      exact hq'
    · refine ev_iload dX9_conjunct_138 rfl ?_
      refine ev_iload dX9_conjunct_140 rfl ?_
      refine ev_iconstN 1 dX9_conjunct_142 (by decide) ?_
      refine ev_isubN dX9_conjunct_143 (by omega) ?_
      refine ev_icmp_neN 227 dX9_conjunct_144 (by decide) (by omega) (by omega) (fun c144 => ?_) (fun c144 => absurd c144 (by omega))
      refine ev_return dX9_conjunct_227 rfl ?_
      exact hq'
  | some cv =>
    have e1 := isC_some hC
    subst e1
    have g := hE.2.2 pre.length (3, cv) (by rw [hex]; simp)
    have hsame := sp_same (X := X) (d := d) (I := I) (J := J) (B := B) (n := n) (sl := sl) (b := b - 1) (pre := pre ++ [(3, cv)]) (sub := s2) (suf := [(o, v)] ++ suf) hM hx hi hE hI (by rw [hex]; simp) (wf12 _ _ h2.1) (wf12 _ _ hIe.1) (by have e : ([(3, cv)] : EX).length = 1 := rfl; rw [List.length_append]; omega) (tree_ne h2)
    by_cases he : s2 = ie
    · have hq' : ∀ I1 J1, Cj I0 J0 I1 J1 (bnd (if o = 8 then cv.toInt64 else cv.toInt64 + 1) (if o = 8 then cv.toInt64 else 2147483647) st) → Q none (K, I1, J1, R, A, B, Ln, n, sl) := fun I1 J1 h => hq I1 J1 (by unfold cnj2; rw [hC]; simp only [he, if_true]; exact h)
      rw [decide_eq_true he] at hsame
      refine ev_iload dX9_conjunct_138 rfl ?_
      refine ev_iload dX9_conjunct_140 rfl ?_
      refine ev_iconstN 1 dX9_conjunct_142 (by decide) ?_
      refine ev_isubN dX9_conjunct_143 (by omega) ?_
      refine ev_icmp_neN 227 dX9_conjunct_144 (by decide) (by omega) (by omega) (fun c144 => absurd c144 (by simp)) (fun c144 => ?_)
      refine ev_aload_n dX9_conjunct_147 rfl ?_
      refine ev_getR dX9_conjunct_148 fX9_13 hM.m hM.R_op ?_
      refine ev_bipushN 15 dX9_conjunct_151 (by decide) ?_
      refine ev_iload_n dX9_conjunct_153 rfl ?_
      refine ev_imulN dX9_conjunct_154 ?_
      refine ev_iload dX9_conjunct_155 rfl ?_
      refine ev_iaddN dX9_conjunct_157 ?_
      refine ev_ialdv dX9_conjunct_158 hM.K_op hM.L_op (by decide) (by omega) g.1 ?_
      refine ev_iconstN 3 dX9_conjunct_159 (by decide) ?_
      refine ev_icmp_neN 227 dX9_conjunct_160 (by decide) (by omega) (by omega) (fun c160 => absurd c160 (fun z => z rfl)) (fun c160 => ?_)
      refine ev_aload_n dX9_conjunct_163 rfl ?_
      refine ev_iload_n dX9_conjunct_164 rfl ?_
      refine ev_iload dX9_conjunct_165 rfl ?_
      refine ev_iload_n dX9_conjunct_167 rfl ?_
      refine ev_iconstN 1 dX9_conjunct_168 (by decide) ?_
      refine ev_isubN dX9_conjunct_169 (by omega) ?_
      refine ev_iload_n dX9_conjunct_170 rfl ?_
      refine ev_callV dX9_conjunct_171 okX9_same inX9_same seX9_same mlX9_223 hM.m (by decide) rfl [iV _, iV _, iV _, iV _] rfl rfl (Nat.le_of_ble_eq_true rfl) (Nat.le_of_ble_eq_true rfl) (hsame) (fun r_ G_ h_ => ?_)
      obtain ⟨rfl, rfl⟩ := h_
      try dsimp only [Option.toList, List.cons_append, List.nil_append]
      refine ev_if_eq 227 dX9_conjunct_174 (by decide) (fun c174 => absurd c174 (by decide)) (fun c174 => ?_)
      refine ev_aload_n dX9_conjunct_177 rfl ?_
      refine ev_getR dX9_conjunct_178 fX9_16 hM.m hM.R_with ?_
      refine ev_bipushN 15 dX9_conjunct_181 (by decide) ?_
      refine ev_iload_n dX9_conjunct_183 rfl ?_
      refine ev_imulN dX9_conjunct_184 ?_
      refine ev_iload dX9_conjunct_185 rfl ?_
      refine ev_iaddN dX9_conjunct_187 ?_
      refine ev_ialdv dX9_conjunct_188 hM.K_with hM.L_with (by decide) (by omega) g.2 ?_
      refine ev_i2l dX9_conjunct_189 ?_
      refine ev_lstore _ dX9_conjunct_190 (by decide) rfl ?_
      refine ev_aload_n dX9_conjunct_192 rfl ?_
      refine ev_iload dX9_conjunct_193 rfl ?_
      refine ev_bipushN 8 dX9_conjunct_195 (by decide) ?_
      refine ev_icmp_neN 205 dX9_conjunct_197 (by decide) (by omega) (by omega) (fun c197 => ?_) (fun c197 => ?_)
      · refine ev_lload dX9_conjunct_205 rfl ?_
        refine ev_lconst 1 dX9_conjunct_207 (by decide) ?_
        refine ev_ladd dX9_conjunct_208 ?_
        refine ev_iload dX9_conjunct_209 rfl ?_
        refine ev_bipushN 8 dX9_conjunct_211 (by decide) ?_
        refine ev_icmp_neN 221 dX9_conjunct_213 (by decide) (by omega) (by omega) (fun c213 => ?_) (fun c213 => ?_)
        · refine ev_ldc2 dX9_conjunct_221 coX9_233 ?_
          refine ev_callV dX9_conjunct_224 okX9_bound inX9_bound seX9_bound mlX9_229 hM.m (by decide) rfl [lV _, lV _] rfl rfl (Nat.le_of_ble_eq_true rfl) (Nat.le_of_ble_eq_true rfl) (sp_bound hM) (fun r_ G_ h_ => ?_)
          obtain ⟨rfl, rfl⟩ := h_
          try dsimp only [Option.toList, List.cons_append, List.nil_append]
          refine ev_return dX9_conjunct_227 rfl ?_
          first | exact hq' _ _ (by have := hc.bound cv.toInt64 cv.toInt64; simpa [c197] using this) | exact hq' _ _ (by have := hc.bound (cv.toInt64 + 1) 2147483647; simpa [c197] using this) | (exact absurd c213 c197) | (exact absurd c197 c213)
        · refine ev_lload dX9_conjunct_216 rfl ?_
          refine ev_goto 224 dX9_conjunct_218 (by decide) ?_
          refine ev_callV dX9_conjunct_224 okX9_bound inX9_bound seX9_bound mlX9_229 hM.m (by decide) rfl [lV _, lV _] rfl rfl (Nat.le_of_ble_eq_true rfl) (Nat.le_of_ble_eq_true rfl) (sp_bound hM) (fun r_ G_ h_ => ?_)
          obtain ⟨rfl, rfl⟩ := h_
          try dsimp only [Option.toList, List.cons_append, List.nil_append]
          refine ev_return dX9_conjunct_227 rfl ?_
          first | exact hq' _ _ (by have := hc.bound cv.toInt64 cv.toInt64; simpa [c197] using this) | exact hq' _ _ (by have := hc.bound (cv.toInt64 + 1) 2147483647; simpa [c197] using this) | (exact absurd c213 c197) | (exact absurd c197 c213)
      · refine ev_lload dX9_conjunct_200 rfl ?_
        refine ev_goto 209 dX9_conjunct_202 (by decide) ?_
        refine ev_iload dX9_conjunct_209 rfl ?_
        refine ev_bipushN 8 dX9_conjunct_211 (by decide) ?_
        refine ev_icmp_neN 221 dX9_conjunct_213 (by decide) (by omega) (by omega) (fun c213 => ?_) (fun c213 => ?_)
        · refine ev_ldc2 dX9_conjunct_221 coX9_233 ?_
          refine ev_callV dX9_conjunct_224 okX9_bound inX9_bound seX9_bound mlX9_229 hM.m (by decide) rfl [lV _, lV _] rfl rfl (Nat.le_of_ble_eq_true rfl) (Nat.le_of_ble_eq_true rfl) (sp_bound hM) (fun r_ G_ h_ => ?_)
          obtain ⟨rfl, rfl⟩ := h_
          try dsimp only [Option.toList, List.cons_append, List.nil_append]
          refine ev_return dX9_conjunct_227 rfl ?_
          first | exact hq' _ _ (by have := hc.bound cv.toInt64 cv.toInt64; simpa [c197] using this) | exact hq' _ _ (by have := hc.bound (cv.toInt64 + 1) 2147483647; simpa [c197] using this) | (exact absurd c213 c197) | (exact absurd c197 c213)
        · refine ev_lload dX9_conjunct_216 rfl ?_
          refine ev_goto 224 dX9_conjunct_218 (by decide) ?_
          refine ev_callV dX9_conjunct_224 okX9_bound inX9_bound seX9_bound mlX9_229 hM.m (by decide) rfl [lV _, lV _] rfl rfl (Nat.le_of_ble_eq_true rfl) (Nat.le_of_ble_eq_true rfl) (sp_bound hM) (fun r_ G_ h_ => ?_)
          obtain ⟨rfl, rfl⟩ := h_
          try dsimp only [Option.toList, List.cons_append, List.nil_append]
          refine ev_return dX9_conjunct_227 rfl ?_
          first | exact hq' _ _ (by have := hc.bound cv.toInt64 cv.toInt64; simpa [c197] using this) | exact hq' _ _ (by have := hc.bound (cv.toInt64 + 1) 2147483647; simpa [c197] using this) | (exact absurd c213 c197) | (exact absurd c197 c213)
    · have hq' := hq I J (by unfold cnj2; rw [hC]; simp only [he, if_false]; exact hc)
      rw [decide_eq_false he] at hsame
      refine ev_iload dX9_conjunct_138 rfl ?_
      refine ev_iload dX9_conjunct_140 rfl ?_
      refine ev_iconstN 1 dX9_conjunct_142 (by decide) ?_
      refine ev_isubN dX9_conjunct_143 (by omega) ?_
      refine ev_icmp_neN 227 dX9_conjunct_144 (by decide) (by omega) (by omega) (fun c144 => absurd c144 (by simp)) (fun c144 => ?_)
      refine ev_aload_n dX9_conjunct_147 rfl ?_
      refine ev_getR dX9_conjunct_148 fX9_13 hM.m hM.R_op ?_
      refine ev_bipushN 15 dX9_conjunct_151 (by decide) ?_
      refine ev_iload_n dX9_conjunct_153 rfl ?_
      refine ev_imulN dX9_conjunct_154 ?_
      refine ev_iload dX9_conjunct_155 rfl ?_
      refine ev_iaddN dX9_conjunct_157 ?_
      refine ev_ialdv dX9_conjunct_158 hM.K_op hM.L_op (by decide) (by omega) g.1 ?_
      refine ev_iconstN 3 dX9_conjunct_159 (by decide) ?_
      refine ev_icmp_neN 227 dX9_conjunct_160 (by decide) (by omega) (by omega) (fun c160 => absurd c160 (fun z => z rfl)) (fun c160 => ?_)
      refine ev_aload_n dX9_conjunct_163 rfl ?_
      refine ev_iload_n dX9_conjunct_164 rfl ?_
      refine ev_iload dX9_conjunct_165 rfl ?_
      refine ev_iload_n dX9_conjunct_167 rfl ?_
      refine ev_iconstN 1 dX9_conjunct_168 (by decide) ?_
      refine ev_isubN dX9_conjunct_169 (by omega) ?_
      refine ev_iload_n dX9_conjunct_170 rfl ?_
      refine ev_callV dX9_conjunct_171 okX9_same inX9_same seX9_same mlX9_223 hM.m (by decide) rfl [iV _, iV _, iV _, iV _] rfl rfl (Nat.le_of_ble_eq_true rfl) (Nat.le_of_ble_eq_true rfl) (hsame) (fun r_ G_ h_ => ?_)
      obtain ⟨rfl, rfl⟩ := h_
      try dsimp only [Option.toList, List.cons_append, List.nil_append]
      refine ev_if_eq 227 dX9_conjunct_174 (by decide) (fun c174 => ?_) (fun c174 => absurd rfl c174)
      refine ev_return dX9_conjunct_227 rfl ?_
      exact hq'
set_option maxRecDepth 100000 in
set_option maxHeartbeats 4000000 in
theorem cj_first {Q : Option LV → GH → Prop} (hM : MFix K R Ln) {x i b o : Nat} {ex pre s1 s2 suf ie : EX} {v : Int32} (hx : x < 11) (hi : i < 3) (ho : o = 7 ∨ o = 8) (hE : ExA A x ex) (hI : ExA A (8 + i) ie) (hIe : TreeE ie) (hex : ex = pre ++ s1 ++ s2 ++ [(o, v)] ++ suf) (h1 : TreeE s1) (h2 : TreeE s2) (hb : b = pre.length + s1.length + s2.length) {I0 : Nat → Nat → Int32} {J0 : Nat → Nat → Int64} {st : SP} {w7 : Option LV} (hc : Cj I0 J0 I J st) (hq : ∀ I1 J1, Cj I0 J0 I1 J1 (cnj2 ie o s1 s2 (cnj1 ie o s1 s2 st)) → Q none (K, I1, J1, R, A, B, Ln, n, sl)) : Ev X mX9_conjunct (d + 1) 49 [some (rV (some 11)), some (iV (nI x)), some (iV (nI b)), some (iV (nI i)), some (iV (nI o)), some (iV (nI (pre ++ s1).length)), some (iV (nI pre.length)), w7, none] [] (K, I, J, R, A, B, Ln, n, sl) Q := by
  have h15 := hE.2.1
  have hlen : ex.length = pre.length + s1.length + s2.length + 1 + suf.length := by rw [hex]; simp; omega
  have l1 : 0 < s1.length := List.length_pos_iff.mpr (tree_ne h1)
  have l2 : 0 < s2.length := List.length_pos_iff.mpr (tree_ne h2)
  have hpl : (pre ++ s1).length = pre.length + s1.length := List.length_append
  have kont0 : ∀ (I1 : Nat → Nat → Int32) (J1 : Nat → Nat → Int64) (z : Option LV), Cj I0 J0 I1 J1 (cnj1 ie o s1 s2 st) → Ev X mX9_conjunct (d + 1) 138 [some (rV (some 11)), some (iV (nI x)), some (iV (nI b)), some (iV (nI i)), some (iV (nI o)), some (iV (nI (pre ++ s1).length)), some (iV (nI pre.length)), z, none] [] (K, I1, J1, R, A, B, Ln, n, sl) Q := fun I1 J1 z h => cj_second hM hx hi ho hE hI hIe hex h1 h2 hb h hq
  cases hC : isC s2 with
  | none =>
    have hk := kont0 I J
    have hcc : Cj I0 J0 I J (cnj1 ie o s1 s2 st) := by unfold cnj1; rw [hC]; exact hc
    by_cases hl : s2.length = 1
    · obtain ⟨on, rfl, hon⟩ := isC_none hC hl
      have g := hE.2.2 (pre ++ s1).length on (by rw [hex]; simp)
      have b12 := wf12 _ _ h2.1 on (by simp)
      refine ev_iload dX9_conjunct_49 rfl ?_
      refine ev_iload_n dX9_conjunct_51 rfl ?_
      refine ev_iconstN 1 dX9_conjunct_52 (by decide) ?_
      refine ev_isubN dX9_conjunct_53 (by omega) ?_
      refine ev_icmp_neN 138 dX9_conjunct_54 (by decide) (by omega) (by omega) (fun c54 => absurd c54 (by omega)) (fun c54 => ?_)
      refine ev_aload_n dX9_conjunct_57 rfl ?_
      refine ev_getR dX9_conjunct_58 fX9_13 hM.m hM.R_op ?_
      refine ev_bipushN 15 dX9_conjunct_61 (by decide) ?_
      refine ev_iload_n dX9_conjunct_63 rfl ?_
      refine ev_imulN dX9_conjunct_64 ?_
      refine ev_iload dX9_conjunct_65 rfl ?_
      refine ev_iaddN dX9_conjunct_67 ?_
      refine ev_ialdv dX9_conjunct_68 hM.K_op hM.L_op (by decide) (by omega) g.1 ?_
      refine ev_iconstN 3 dX9_conjunct_69 (by decide) ?_
      refine ev_icmp_neN 138 dX9_conjunct_70 (by decide) (by omega) (by omega) (fun c70 => ?_) (fun c70 => absurd c70 hon)
      exact hk _ hcc
    · refine ev_iload dX9_conjunct_49 rfl ?_
      refine ev_iload_n dX9_conjunct_51 rfl ?_
      refine ev_iconstN 1 dX9_conjunct_52 (by decide) ?_
      refine ev_isubN dX9_conjunct_53 (by omega) ?_
      refine ev_icmp_neN 138 dX9_conjunct_54 (by decide) (by omega) (by omega) (fun c54 => ?_) (fun c54 => absurd c54 (by omega))
      exact hk _ hcc
  | some cv =>
    have e1 := isC_some hC
    subst e1
    have el1 : ([(3, cv)] : EX).length = 1 := rfl
    have g := hE.2.2 (pre ++ s1).length (3, cv) (by rw [hex]; simp)
    have hsame := sp_same (X := X) (d := d) (I := I) (J := J) (B := B) (n := n) (sl := sl) (b := (pre ++ s1).length - 1) (pre := pre) (sub := s1) (suf := [(3, cv)] ++ [(o, v)] ++ suf) hM hx hi hE hI (by rw [hex]; simp) (wf12 _ _ h1.1) (wf12 _ _ hIe.1) (by omega) (tree_ne h1)
    by_cases he : s1 = ie
    · have kont : ∀ (I1 : Nat → Nat → Int32) (J1 : Nat → Nat → Int64) (z : Option LV), Cj I0 J0 I1 J1 (bnd (if o = 8 then cv.toInt64 else -2147483648) (if o = 8 then cv.toInt64 else cv.toInt64 - 1) st) → Ev X mX9_conjunct (d + 1) 138 [some (rV (some 11)), some (iV (nI x)), some (iV (nI b)), some (iV (nI i)), some (iV (nI o)), some (iV (nI (pre ++ s1).length)), some (iV (nI pre.length)), z, none] [] (K, I1, J1, R, A, B, Ln, n, sl) Q := fun I1 J1 z h => kont0 I1 J1 z (by unfold cnj1; rw [hC]; simp only [he, if_true]; exact h)
      rw [decide_eq_true he] at hsame
      refine ev_iload dX9_conjunct_49 rfl ?_
      refine ev_iload_n dX9_conjunct_51 rfl ?_
      refine ev_iconstN 1 dX9_conjunct_52 (by decide) ?_
      refine ev_isubN dX9_conjunct_53 (by omega) ?_
      refine ev_icmp_neN 138 dX9_conjunct_54 (by decide) (by omega) (by omega) (fun c54 => absurd c54 (by omega)) (fun c54 => ?_)
      refine ev_aload_n dX9_conjunct_57 rfl ?_
      refine ev_getR dX9_conjunct_58 fX9_13 hM.m hM.R_op ?_
      refine ev_bipushN 15 dX9_conjunct_61 (by decide) ?_
      refine ev_iload_n dX9_conjunct_63 rfl ?_
      refine ev_imulN dX9_conjunct_64 ?_
      refine ev_iload dX9_conjunct_65 rfl ?_
      refine ev_iaddN dX9_conjunct_67 ?_
      refine ev_ialdv dX9_conjunct_68 hM.K_op hM.L_op (by decide) (by omega) g.1 ?_
      refine ev_iconstN 3 dX9_conjunct_69 (by decide) ?_
      refine ev_icmp_neN 138 dX9_conjunct_70 (by decide) (by omega) (by omega) (fun c70 => absurd c70 (fun z => z rfl)) (fun c70 => ?_)
      refine ev_aload_n dX9_conjunct_73 rfl ?_
      refine ev_iload_n dX9_conjunct_74 rfl ?_
      refine ev_iload dX9_conjunct_75 rfl ?_
      refine ev_iload dX9_conjunct_77 rfl ?_
      refine ev_iconstN 1 dX9_conjunct_79 (by decide) ?_
      refine ev_isubN dX9_conjunct_80 (by omega) ?_
      refine ev_iload_n dX9_conjunct_81 rfl ?_
      refine ev_callV dX9_conjunct_82 okX9_same inX9_same seX9_same mlX9_223 hM.m (by decide) rfl [iV _, iV _, iV _, iV _] rfl rfl (Nat.le_of_ble_eq_true rfl) (Nat.le_of_ble_eq_true rfl) (hsame) (fun r_ G_ h_ => ?_)
      obtain ⟨rfl, rfl⟩ := h_
      try dsimp only [Option.toList, List.cons_append, List.nil_append]
      refine ev_if_eq 138 dX9_conjunct_85 (by decide) (fun c85 => absurd c85 (by decide)) (fun c85 => ?_)
      refine ev_aload_n dX9_conjunct_88 rfl ?_
      refine ev_getR dX9_conjunct_89 fX9_16 hM.m hM.R_with ?_
      refine ev_bipushN 15 dX9_conjunct_92 (by decide) ?_
      refine ev_iload_n dX9_conjunct_94 rfl ?_
      refine ev_imulN dX9_conjunct_95 ?_
      refine ev_iload dX9_conjunct_96 rfl ?_
      refine ev_iaddN dX9_conjunct_98 ?_
      refine ev_ialdv dX9_conjunct_99 hM.K_with hM.L_with (by decide) (by omega) g.2 ?_
      refine ev_i2l dX9_conjunct_100 ?_
      refine ev_lstore _ dX9_conjunct_101 (by decide) rfl ?_
      refine ev_aload_n dX9_conjunct_103 rfl ?_
      refine ev_iload dX9_conjunct_104 rfl ?_
      refine ev_bipushN 8 dX9_conjunct_106 (by decide) ?_
      refine ev_icmp_neN 116 dX9_conjunct_108 (by decide) (by omega) (by omega) (fun c108 => ?_) (fun c108 => ?_)
      · refine ev_ldc2 dX9_conjunct_116 coX9_227 ?_
        refine ev_iload dX9_conjunct_119 rfl ?_
        refine ev_bipushN 8 dX9_conjunct_121 (by decide) ?_
        refine ev_icmp_neN 131 dX9_conjunct_123 (by decide) (by omega) (by omega) (fun c123 => ?_) (fun c123 => ?_)
        · refine ev_lload dX9_conjunct_131 rfl ?_
          refine ev_lconst 1 dX9_conjunct_133 (by decide) ?_
          refine ev_lsub dX9_conjunct_134 ?_
          refine ev_callV dX9_conjunct_135 okX9_bound inX9_bound seX9_bound mlX9_229 hM.m (by decide) rfl [lV _, lV _] rfl rfl (Nat.le_of_ble_eq_true rfl) (Nat.le_of_ble_eq_true rfl) (sp_bound hM) (fun r_ G_ h_ => ?_)
          obtain ⟨rfl, rfl⟩ := h_
          try dsimp only [Option.toList, List.cons_append, List.nil_append]
          first | exact kont _ _ _ (by have := hc.bound cv.toInt64 cv.toInt64; simpa [c108] using this) | exact kont _ _ _ (by have := hc.bound (-2147483648) (cv.toInt64 - 1); simpa [c108] using this) | (exact absurd c123 c108) | (exact absurd c108 c123)
        · refine ev_lload dX9_conjunct_126 rfl ?_
          refine ev_goto 135 dX9_conjunct_128 (by decide) ?_
          refine ev_callV dX9_conjunct_135 okX9_bound inX9_bound seX9_bound mlX9_229 hM.m (by decide) rfl [lV _, lV _] rfl rfl (Nat.le_of_ble_eq_true rfl) (Nat.le_of_ble_eq_true rfl) (sp_bound hM) (fun r_ G_ h_ => ?_)
          obtain ⟨rfl, rfl⟩ := h_
          try dsimp only [Option.toList, List.cons_append, List.nil_append]
          first | exact kont _ _ _ (by have := hc.bound cv.toInt64 cv.toInt64; simpa [c108] using this) | exact kont _ _ _ (by have := hc.bound (-2147483648) (cv.toInt64 - 1); simpa [c108] using this) | (exact absurd c123 c108) | (exact absurd c108 c123)
      · refine ev_lload dX9_conjunct_111 rfl ?_
        refine ev_goto 119 dX9_conjunct_113 (by decide) ?_
        refine ev_iload dX9_conjunct_119 rfl ?_
        refine ev_bipushN 8 dX9_conjunct_121 (by decide) ?_
        refine ev_icmp_neN 131 dX9_conjunct_123 (by decide) (by omega) (by omega) (fun c123 => ?_) (fun c123 => ?_)
        · refine ev_lload dX9_conjunct_131 rfl ?_
          refine ev_lconst 1 dX9_conjunct_133 (by decide) ?_
          refine ev_lsub dX9_conjunct_134 ?_
          refine ev_callV dX9_conjunct_135 okX9_bound inX9_bound seX9_bound mlX9_229 hM.m (by decide) rfl [lV _, lV _] rfl rfl (Nat.le_of_ble_eq_true rfl) (Nat.le_of_ble_eq_true rfl) (sp_bound hM) (fun r_ G_ h_ => ?_)
          obtain ⟨rfl, rfl⟩ := h_
          try dsimp only [Option.toList, List.cons_append, List.nil_append]
          first | exact kont _ _ _ (by have := hc.bound cv.toInt64 cv.toInt64; simpa [c108] using this) | exact kont _ _ _ (by have := hc.bound (-2147483648) (cv.toInt64 - 1); simpa [c108] using this) | (exact absurd c123 c108) | (exact absurd c108 c123)
        · refine ev_lload dX9_conjunct_126 rfl ?_
          refine ev_goto 135 dX9_conjunct_128 (by decide) ?_
          refine ev_callV dX9_conjunct_135 okX9_bound inX9_bound seX9_bound mlX9_229 hM.m (by decide) rfl [lV _, lV _] rfl rfl (Nat.le_of_ble_eq_true rfl) (Nat.le_of_ble_eq_true rfl) (sp_bound hM) (fun r_ G_ h_ => ?_)
          obtain ⟨rfl, rfl⟩ := h_
          try dsimp only [Option.toList, List.cons_append, List.nil_append]
          first | exact kont _ _ _ (by have := hc.bound cv.toInt64 cv.toInt64; simpa [c108] using this) | exact kont _ _ _ (by have := hc.bound (-2147483648) (cv.toInt64 - 1); simpa [c108] using this) | (exact absurd c123 c108) | (exact absurd c108 c123)
    · have hcc : Cj I0 J0 I J (cnj1 ie o s1 [(3, cv)] st) := by unfold cnj1; rw [hC]; simp only [he, if_false]; exact hc
      rw [decide_eq_false he] at hsame
      refine ev_iload dX9_conjunct_49 rfl ?_
      refine ev_iload_n dX9_conjunct_51 rfl ?_
      refine ev_iconstN 1 dX9_conjunct_52 (by decide) ?_
      refine ev_isubN dX9_conjunct_53 (by omega) ?_
      refine ev_icmp_neN 138 dX9_conjunct_54 (by decide) (by omega) (by omega) (fun c54 => absurd c54 (by omega)) (fun c54 => ?_)
      refine ev_aload_n dX9_conjunct_57 rfl ?_
      refine ev_getR dX9_conjunct_58 fX9_13 hM.m hM.R_op ?_
      refine ev_bipushN 15 dX9_conjunct_61 (by decide) ?_
      refine ev_iload_n dX9_conjunct_63 rfl ?_
      refine ev_imulN dX9_conjunct_64 ?_
      refine ev_iload dX9_conjunct_65 rfl ?_
      refine ev_iaddN dX9_conjunct_67 ?_
      refine ev_ialdv dX9_conjunct_68 hM.K_op hM.L_op (by decide) (by omega) g.1 ?_
      refine ev_iconstN 3 dX9_conjunct_69 (by decide) ?_
      refine ev_icmp_neN 138 dX9_conjunct_70 (by decide) (by omega) (by omega) (fun c70 => absurd c70 (fun z => z rfl)) (fun c70 => ?_)
      refine ev_aload_n dX9_conjunct_73 rfl ?_
      refine ev_iload_n dX9_conjunct_74 rfl ?_
      refine ev_iload dX9_conjunct_75 rfl ?_
      refine ev_iload dX9_conjunct_77 rfl ?_
      refine ev_iconstN 1 dX9_conjunct_79 (by decide) ?_
      refine ev_isubN dX9_conjunct_80 (by omega) ?_
      refine ev_iload_n dX9_conjunct_81 rfl ?_
      refine ev_callV dX9_conjunct_82 okX9_same inX9_same seX9_same mlX9_223 hM.m (by decide) rfl [iV _, iV _, iV _, iV _] rfl rfl (Nat.le_of_ble_eq_true rfl) (Nat.le_of_ble_eq_true rfl) (hsame) (fun r_ G_ h_ => ?_)
      obtain ⟨rfl, rfl⟩ := h_
      try dsimp only [Option.toList, List.cons_append, List.nil_append]
      refine ev_if_eq 138 dX9_conjunct_85 (by decide) (fun c85 => ?_) (fun c85 => absurd rfl c85)
      exact kont0 I J _ hcc
set_option maxRecDepth 100000 in
set_option maxHeartbeats 4000000 in
theorem sp_conj (hM : MFix K R Ln) {x i b o : Nat} {ex pre s1 s2 suf ie : EX} {v : Int32} (hx : x < 11) (hi : i < 3) (ho : o = 7 ∨ o = 8) (hE : ExA A x ex) (hI : ExA A (8 + i) ie) (hIe : TreeE ie) (hex : ex = pre ++ s1 ++ s2 ++ [(o, v)] ++ suf) (h1 : TreeE s1) (h2 : TreeE s2) (hb : b = pre.length + s1.length + s2.length) {I0 : Nat → Nat → Int32} {J0 : Nat → Nat → Int64} {st : SP} (hc : Cj I0 J0 I J st) : EvM X mX9_conjunct (d + 2) [rV (some 11), iV (nI x), iV (nI b), iV (nI i)] (K, I, J, R, A, B, Ln, n, sl) (fun r G' => r = none ∧ ∃ I1 J1, G' = (K, I1, J1, R, A, B, Ln, n, sl) ∧ Cj I0 J0 I1 J1 (cnj2 ie o s1 s2 (cnj1 ie o s1 s2 st))) := by
  have h15 := hE.2.1
  have hlen : ex.length = pre.length + s1.length + s2.length + 1 + suf.length := by rw [hex]; simp; omega
  have l1 : 0 < s1.length := List.length_pos_iff.mpr (tree_ne h1)
  have l2 : 0 < s2.length := List.length_pos_iff.mpr (tree_ne h2)
  have hpl : (pre ++ s1).length = pre.length + s1.length := List.length_append
  have g := hE.2.2 b (o, v) (by rw [hb, hex]; simp [Nat.add_assoc])
  show Ev X mX9_conjunct (d + 2) 0 [some (rV (some 11)), some (iV (nI x)), some (iV (nI b)), some (iV (nI i)), none, none, none, none, none] [] (K, I, J, R, A, B, Ln, n, sl) _
  refine ev_aload_n dX9_conjunct_0 rfl ?_
  refine ev_getR dX9_conjunct_1 fX9_13 hM.m hM.R_op ?_
  refine ev_bipushN 15 dX9_conjunct_4 (by decide) ?_
  refine ev_iload_n dX9_conjunct_6 rfl ?_
  refine ev_imulN dX9_conjunct_7 ?_
  refine ev_iload_n dX9_conjunct_8 rfl ?_
  refine ev_iaddN dX9_conjunct_9 ?_
  refine ev_ialdv dX9_conjunct_10 hM.K_op hM.L_op (by decide) (by omega) g.1 ?_
  refine ev_istore _ dX9_conjunct_11 (by decide) rfl ?_
  refine ev_iload dX9_conjunct_13 rfl ?_
  refine ev_bipushN 7 dX9_conjunct_15 (by decide) ?_
  refine ev_icmp_eqN 28 dX9_conjunct_17 (by decide) (by omega) (by omega) (fun c17 => ?_) (fun c17 => ?_)
  · refine ev_aload_n dX9_conjunct_28 rfl ?_
    refine ev_iload_n dX9_conjunct_29 rfl ?_
    refine ev_iload_n dX9_conjunct_30 rfl ?_
    refine ev_iconstN 1 dX9_conjunct_31 (by decide) ?_
    refine ev_isubN dX9_conjunct_32 (by omega) ?_
    refine ev_callV dX9_conjunct_33 okX9_from inX9_from seX9_from mlX9_220 hM.m (by decide) rfl [iV _, iV _] rfl rfl (Nat.le_of_ble_eq_true rfl) (Nat.le_of_ble_eq_true rfl) (sp_from (pre := pre ++ s1) (sub := s2) (suf := [(o, v)] ++ suf) hM hx hE (by rw [hex]; simp) h2 (by omega)) (fun r_ G_ h_ => ?_)
    obtain ⟨rfl, rfl⟩ := h_
    try dsimp only [Option.toList, List.cons_append, List.nil_append]
    refine ev_istore _ dX9_conjunct_36 (by decide) rfl ?_
    refine ev_aload_n dX9_conjunct_38 rfl ?_
    refine ev_iload_n dX9_conjunct_39 rfl ?_
    refine ev_iload dX9_conjunct_40 rfl ?_
    refine ev_iconstN 1 dX9_conjunct_42 (by decide) ?_
    refine ev_isubN dX9_conjunct_43 (by omega) ?_
    refine ev_callV dX9_conjunct_44 okX9_from inX9_from seX9_from mlX9_220 hM.m (by decide) rfl [iV _, iV _] rfl rfl (Nat.le_of_ble_eq_true rfl) (Nat.le_of_ble_eq_true rfl) (sp_from (pre := pre) (sub := s1) (suf := s2 ++ [(o, v)] ++ suf) hM hx hE (by rw [hex]; simp) h1 (by omega)) (fun r_ G_ h_ => ?_)
    obtain ⟨rfl, rfl⟩ := h_
    try dsimp only [Option.toList, List.cons_append, List.nil_append]
    refine ev_istore _ dX9_conjunct_47 (by decide) rfl ?_
    exact cj_first hM hx hi ho hE hI hIe hex h1 h2 hb hc (fun I1 J1 h => ⟨rfl, I1, J1, rfl, h⟩)
  · refine ev_iload dX9_conjunct_20 rfl ?_
    refine ev_bipushN 8 dX9_conjunct_22 (by decide) ?_
    refine ev_icmp_eqN 28 dX9_conjunct_24 (by decide) (by omega) (by omega) (fun c24 => ?_) (fun c24 => ?_)
    · refine ev_aload_n dX9_conjunct_28 rfl ?_
      refine ev_iload_n dX9_conjunct_29 rfl ?_
      refine ev_iload_n dX9_conjunct_30 rfl ?_
      refine ev_iconstN 1 dX9_conjunct_31 (by decide) ?_
      refine ev_isubN dX9_conjunct_32 (by omega) ?_
      refine ev_callV dX9_conjunct_33 okX9_from inX9_from seX9_from mlX9_220 hM.m (by decide) rfl [iV _, iV _] rfl rfl (Nat.le_of_ble_eq_true rfl) (Nat.le_of_ble_eq_true rfl) (sp_from (pre := pre ++ s1) (sub := s2) (suf := [(o, v)] ++ suf) hM hx hE (by rw [hex]; simp) h2 (by omega)) (fun r_ G_ h_ => ?_)
      obtain ⟨rfl, rfl⟩ := h_
      try dsimp only [Option.toList, List.cons_append, List.nil_append]
      refine ev_istore _ dX9_conjunct_36 (by decide) rfl ?_
      refine ev_aload_n dX9_conjunct_38 rfl ?_
      refine ev_iload_n dX9_conjunct_39 rfl ?_
      refine ev_iload dX9_conjunct_40 rfl ?_
      refine ev_iconstN 1 dX9_conjunct_42 (by decide) ?_
      refine ev_isubN dX9_conjunct_43 (by omega) ?_
      refine ev_callV dX9_conjunct_44 okX9_from inX9_from seX9_from mlX9_220 hM.m (by decide) rfl [iV _, iV _] rfl rfl (Nat.le_of_ble_eq_true rfl) (Nat.le_of_ble_eq_true rfl) (sp_from (pre := pre) (sub := s1) (suf := s2 ++ [(o, v)] ++ suf) hM hx hE (by rw [hex]; simp) h1 (by omega)) (fun r_ G_ h_ => ?_)
      obtain ⟨rfl, rfl⟩ := h_
      try dsimp only [Option.toList, List.cons_append, List.nil_append]
      refine ev_istore _ dX9_conjunct_47 (by decide) rfl ?_
      exact cj_first hM hx hi ho hE hI hIe hex h1 h2 hb hc (fun I1 J1 h => ⟨rfl, I1, J1, rfl, h⟩)
    · omega
set_option maxRecDepth 100000 in
set_option maxHeartbeats 4000000 in
theorem sp_conj_other (hM : MFix K R Ln) {x i b o : Nat} {ex : EX} {v : Int32} (hx : x < 11) (hi : i < 3) (hE : ExA A x ex) (hb : ex[b]? = some (o, v)) (ho : ¬ (o = 7 ∨ o = 8)) (h12 : o ≤ 12) : EvM X mX9_conjunct d [rV (some 11), iV (nI x), iV (nI b), iV (nI i)] (K, I, J, R, A, B, Ln, n, sl) (fun r G' => r = none ∧ G' = (K, I, J, R, A, B, Ln, n, sl)) := by
  have h15 := hE.2.1
  have hbl := (List.getElem?_eq_some_iff.mp hb).1
  have g := hE.2.2 b (o, v) hb
  show Ev X mX9_conjunct d 0 [some (rV (some 11)), some (iV (nI x)), some (iV (nI b)), some (iV (nI i)), none, none, none, none, none] [] (K, I, J, R, A, B, Ln, n, sl) _
  refine ev_aload_n dX9_conjunct_0 rfl ?_
  refine ev_getR dX9_conjunct_1 fX9_13 hM.m hM.R_op ?_
  refine ev_bipushN 15 dX9_conjunct_4 (by decide) ?_
  refine ev_iload_n dX9_conjunct_6 rfl ?_
  refine ev_imulN dX9_conjunct_7 ?_
  refine ev_iload_n dX9_conjunct_8 rfl ?_
  refine ev_iaddN dX9_conjunct_9 ?_
  refine ev_ialdv dX9_conjunct_10 hM.K_op hM.L_op (by decide) (by omega) g.1 ?_
  refine ev_istore _ dX9_conjunct_11 (by decide) rfl ?_
  refine ev_iload dX9_conjunct_13 rfl ?_
  refine ev_bipushN 7 dX9_conjunct_15 (by decide) ?_
  refine ev_icmp_eqN 28 dX9_conjunct_17 (by decide) (by omega) (by omega) (fun c17 => ?_) (fun c17 => ?_)
  · omega
  · refine ev_iload dX9_conjunct_20 rfl ?_
    refine ev_bipushN 8 dX9_conjunct_22 (by decide) ?_
    refine ev_icmp_eqN 28 dX9_conjunct_24 (by decide) (by omega) (by omega) (fun c24 => ?_) (fun c24 => ?_)
    · omega
    · refine ev_return dX9_conjunct_27 rfl ?_
      exact ⟨rfl, rfl⟩
end M12
