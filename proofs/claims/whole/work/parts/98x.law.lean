theorem z_cfix : CFix wK9 wR9 wL9 := ⟨rfl, rfl, rfl, rfl, rfl, rfl, rfl, rfl, rfl, rfl, rfl, rfl, rfl, rfl, rfl, rfl, rfl, rfl, rfl, rfl⟩
theorem z_mfix : MFix wK9 wR9 wL9 := ⟨rfl, ⟨rfl, rfl, rfl⟩, ⟨rfl, rfl, rfl⟩, ⟨rfl, rfl, rfl⟩, ⟨rfl, rfl, rfl⟩, ⟨rfl, rfl, rfl⟩, ⟨rfl, rfl, rfl⟩, ⟨rfl, rfl, rfl⟩, ⟨rfl, rfl, rfl⟩, ⟨rfl, rfl, rfl⟩, ⟨rfl, rfl, rfl⟩, ⟨rfl, rfl, rfl⟩, ⟨rfl, rfl, rfl⟩, ⟨rfl, rfl, rfl⟩, ⟨rfl, rfl, rfl⟩, ⟨rfl, rfl, rfl⟩, ⟨rfl, rfl, rfl⟩, ⟨rfl, rfl, rfl⟩, ⟨rfl, rfl, rfl⟩, ⟨rfl, rfl, rfl⟩, ⟨rfl, rfl, rfl⟩, ⟨rfl, rfl, rfl⟩, ⟨rfl, rfl, rfl⟩⟩
theorem z_frk : FrK wK9 34 := fun i hi => by
  unfold wK9 wK8
  repeat rw [va_up_ne _ _ (by omega)]
  exact Nat.le_refl 900
theorem z_frh : FrH wI9 zJ wR9 zI zR 34 := fun i hi => by
  refine ⟨fun f => ?_, fun _ => rfl, fun f => ?_, fun _ => rfl, fun _ => rfl⟩
  · unfold wI9 wI8
    repeat rw [u2_ne2 (by omega)]
    rfl
  · unfold wR9 wR8
    repeat rw [u2_ne2 (by omega)]
    rfl
set_option maxRecDepth 100000 in
theorem st_zero : StG 0 (wK9, wI9, zJ, wR9, zI, zR, wL9, 34, 15625) := by
  refine ⟨wK9, wI9, zJ, wR9, zI, zR, wL9, 34, 15625, 0, 0, [], [], ([], [], 0), 0, 0, 0, fun _ => 0, 0, fun _ => 0, fun _ => [], 0, fun _ => [], 0, (none, 0, 0), rfl, ?_, ?_⟩
  · refine ⟨⟨z_cfix, ⟨⟨⟨⟨rfl, by decide, fun j e h => by simp at h⟩, ⟨rfl, rfl, Or.inl ⟨rfl, rfl⟩, Nat.le_refl _, by decide, fun j f h => by simp at h⟩, ⟨List.nodup_nil, List.nodup_nil⟩, fun e h => by simp at h, fun e h => by simp at h, rfl, rfl, fun e h => by simp at h, fun e h => by simp at h, fun e h => by simp at h⟩, fun e h => by simp at h, List.Pairwise.nil, fun e h => by simp at h⟩, rfl, rfl⟩, z_frh, z_frk, Nat.le_refl _⟩, z_mfix, ⟨rfl, List.Perm.nil, fun j p h => by simp at h, rfl, rfl⟩, ?_, ?_, ?_, ?_, ?_, ?_⟩
    · exact ⟨⟨by decide, Nat.le_refl _⟩, rfl, rfl, rfl, rfl, fun i j _ h => absurd h (Nat.not_lt_zero _), fun j h => absurd h (Nat.not_lt_zero _), ⟨by decide, by decide⟩, fun _ _ => rfl, fun q h => by cases h⟩
    · exact ⟨rfl, rfl, by decide, fun j h => absurd h (Nat.not_lt_zero _)⟩
    · exact ⟨⟨rfl, by decide, fun j h => absurd h (Nat.not_lt_zero _)⟩, rfl, fun j h => absurd h (Nat.not_lt_zero _)⟩
    · exact ⟨rfl, rfl, by decide, fun j h => absurd h (Nat.not_lt_zero _)⟩
    · exact ⟨⟨rfl, Or.inl ⟨rfl, rfl⟩⟩, rfl, rfl, rfl, fun _ => rfl, rfl⟩
    · exact ⟨fun x h => by simp at h, by decide, fun x h => by simp at h⟩
  · unfold RmC
    exact ⟨by decide, by decide, by decide⟩
theorem and31 (v : Int32) : ∃ k, k < 32 ∧ v &&& nI 31 = nI k := by
  refine ⟨(v &&& nI 31).toBitVec.toNat, ?_, ?_⟩
  · rw [Int32.toBitVec_and, BitVec.toNat_and]
    exact Nat.lt_of_le_of_lt Nat.and_le_right (by decide)
  · apply Int32.toBitVec_inj.mp
    show _ = (Int32.ofNat _).toBitVec
    simp
theorem sub6 {a b : Nat} (ha : a < 100000) (hb : b < 100000) : nI a - nI 6 < nI b ↔ a < b + 6 := by
  rw [Int32.lt_iff_toInt_lt, Int32.toInt_sub, nI_toInt (by omega), nI_toInt (by omega), nI_toInt (by omega)]
  rw [Int.bmod_def]
  split <;> omega
def mL_law : MD := (yL_law, cL_law, 4, some .boolean, false)
theorem StG.skip {c : Nat} {G : GH} (h : StG c G) : StG (c + 1) G := by
  obtain ⟨K, I, J, R, A, B, Ln, n, sl, a, m, cs, fs, s, many, tn, la, ti, pn, px, pe, ixn, ie, rn, p, rfl, h1, h2⟩ := h
  exact StG.mk1 h1 (h2.keep (by omega) (by omega))
theorem lcmp_self {x : Int64} : lg_cmp x x = 0 := by
  unfold lg_cmp
  simp
set_option maxRecDepth 100000 in
set_option maxHeartbeats 4000000 in
theorem lp_law {X : CX} {d : Nat} (hL : X.2.2.2.2.1 ≤ 3072) : ∀ (g c : Nat), c + g = 512 → ∀ G, StG c G → Ev X mL_law (d + 61) 18 [some (rV (some 2)), some (rV (some 3)), some (rV (some 11)), some (iV (nI (6 * c)))] [] G (fun r G' => r = some (iV 1) ∧ gh_n G' ≤ 600000 ∧ gh_s G' ≤ 7302249) := by
  intro g
  induction g with
  | zero =>
    intro c hc G h
    have hx : nI X.2.2.2.2.1 - nI 6 < nI (6 * c) := (sub6 (by omega) (by omega)).mpr (by omega)
    refine ev_iload_n dL_law_18 rfl ?_
    refine ev_aload_n dL_law_19 rfl ?_
    refine ev_slen dL_law_20 ?_
    refine ev_bipushN 6 dL_law_21 (by decide) ?_
    refine ev_isub dL_law_23 ?_
    refine ev_icmp_gt 628 dL_law_24 (by decide) (fun _ => ?_) (fun c_ => absurd hx c_)
    refine ev_iconst 1 dL_law_628 (by decide) ?_
    refine ev_zreturn dL_law_629 rfl (Or.inr rfl) ?_
    exact ⟨rfl, h.room (by omega)⟩
  | succ g ih =>
    intro c hc G h
    refine ev_iload_n dL_law_18 rfl ?_
    refine ev_aload_n dL_law_19 rfl ?_
    refine ev_slen dL_law_20 ?_
    refine ev_bipushN 6 dL_law_21 (by decide) ?_
    refine ev_isub dL_law_23 ?_
    refine ev_icmp_gt 628 dL_law_24 (by decide) (fun _ => ?_) (fun c_ => ?_)
    · refine ev_iconst 1 dL_law_628 (by decide) ?_
      refine ev_zreturn dL_law_629 rfl (Or.inr rfl) ?_
      exact ⟨rfl, h.room (by omega)⟩
    · rw [sub6 (by omega) (by omega)] at c_
      have nxt : ∀ G', StG (c + 1) G' → Ev X mL_law (d + 61) 622 [some (rV (some 2)), some (rV (some 3)), some (rV (some 11)), some (iV (nI (6 * c)))] [] G' (fun r G' => r = some (iV 1) ∧ gh_n G' ≤ 600000 ∧ gh_s G' ≤ 7302249) := fun G' h' => by
        refine ev_iincNS (b := 6) dL_law_622 rfl (by decide) (by decide) rfl ?_
        refine ev_goto 18 dL_law_625 (by decide) ?_
        exact ih (c + 1) (by omega) G' h'
      refine ev_aload_n dL_law_27 rfl ?_
      refine ev_iload_n dL_law_28 rfl ?_
      refine ev_sld dL_law_29 (by omega) (by omega) ?_
      refine ev_bipushN 31 dL_law_30 (by decide) ?_
      refine ev_iand dL_law_32 ?_
      obtain ⟨k, hk, hke⟩ := and31 (X.2.2.2.2.2 (6 * c))
      rw [hke]
      by_cases hk18 : k < 19
      · rcases (show k = 0 ∨ k = 1 ∨ k = 2 ∨ k = 3 ∨ k = 4 ∨ k = 5 ∨ k = 6 ∨ k = 7 ∨ k = 8 ∨ k = 9 ∨ k = 10 ∨ k = 11 ∨ k = 12 ∨ k = 13 ∨ k = 14 ∨ k = 15 ∨ k = 16 ∨ k = 17 ∨ k = 18 by omega) with rfl | rfl | rfl | rfl | rfl | rfl | rfl | rfl | rfl | rfl | rfl | rfl | rfl | rfl | rfl | rfl | rfl | rfl | rfl
        · refine ev_tswIn (x := 0) 124 dL_law_33 (by decide) (by decide) rfl (by decide) ?_
          refine ev_aload_n dL_law_124 rfl ?_
          refine ev_aload_n dL_law_125 rfl ?_
          refine ev_iload_n dL_law_126 rfl ?_
          refine ev_iconstN 1 dL_law_127 (by decide) ?_
          refine ev_iaddN dL_law_128 ?_
          refine ev_sld dL_law_129 (by omega) (by omega) ?_
          refine ev_aload_n dL_law_130 rfl ?_
          refine ev_iload_n dL_law_131 rfl ?_
          refine ev_iconstN 2 dL_law_132 (by decide) ?_
          refine ev_iaddN dL_law_133 ?_
          refine ev_sld dL_law_134 (by omega) (by omega) ?_
          refine ev_callV dL_law_135 okX8_say inX8_say seX8_say mlL_13 h.k3 (by decide) rfl [iV _, iV _] rfl rfl (Nat.le_of_ble_eq_true rfl) (Nat.le_of_ble_eq_true rfl) (op_int (Or.inr rfl) (Or.inr rfl) (sg_say h (by omega) _ _)) (fun r_ G_ h_ => ?_)
          obtain ⟨v_, rfl, hk_, h_⟩ := h_
          try dsimp only [Option.toList, List.cons_append, List.nil_append]
          refine ev_aload_n dL_law_138 rfl ?_
          refine ev_aload_n dL_law_139 rfl ?_
          refine ev_iload_n dL_law_140 rfl ?_
          refine ev_iconstN 1 dL_law_141 (by decide) ?_
          refine ev_iaddN dL_law_142 ?_
          refine ev_sld dL_law_143 (by omega) (by omega) ?_
          refine ev_aload_n dL_law_144 rfl ?_
          refine ev_iload_n dL_law_145 rfl ?_
          refine ev_iconstN 2 dL_law_146 (by decide) ?_
          refine ev_iaddN dL_law_147 ?_
          refine ev_sld dL_law_148 (by omega) (by omega) ?_
          refine ev_callV dL_law_149 okX9_say inX9_say seX9_say mlL_17 hk_ (by decide) rfl [iV _, iV _] rfl rfl (Nat.le_of_ble_eq_true rfl) (Nat.le_of_ble_eq_true rfl) h_ (fun r2_ G2_ h2_ => ?_)
          obtain ⟨rfl, h2_⟩ := h2_
          try dsimp only [Option.toList, List.cons_append, List.nil_append]
          refine ev_icmp_eq 622 dL_law_152 (by decide) (fun _ => ?_) (fun c_ => absurd rfl c_)
          exact nxt _ h2_
        · refine ev_tswIn (x := 1) 157 dL_law_33 (by decide) (by decide) rfl (by decide) ?_
          refine ev_aload_n dL_law_157 rfl ?_
          refine ev_callV dL_law_158 okX8_index inX8_index seX8_index mlL_18 h.k3 (by decide) rfl [] rfl rfl (Nat.le_of_ble_eq_true rfl) (Nat.le_of_ble_eq_true rfl) (op_int (Or.inl rfl) (Or.inl rfl) (sg_index h (by omega))) (fun r_ G_ h_ => ?_)
          obtain ⟨v_, rfl, hk_, h_⟩ := h_
          try dsimp only [Option.toList, List.cons_append, List.nil_append]
          refine ev_aload_n dL_law_161 rfl ?_
          refine ev_callV dL_law_162 okX9_index inX9_index seX9_index mlL_22 hk_ (by decide) rfl [] rfl rfl (Nat.le_of_ble_eq_true rfl) (Nat.le_of_ble_eq_true rfl) h_ (fun r2_ G2_ h2_ => ?_)
          obtain ⟨rfl, h2_⟩ := h2_
          try dsimp only [Option.toList, List.cons_append, List.nil_append]
          refine ev_icmp_eq 622 dL_law_165 (by decide) (fun _ => ?_) (fun c_ => absurd rfl c_)
          exact nxt _ h2_
        · refine ev_tswIn (x := 2) 170 dL_law_33 (by decide) (by decide) rfl (by decide) ?_
          refine ev_aload_n dL_law_170 rfl ?_
          refine ev_callV dL_law_171 okX8_begin inX8_begin seX8_begin mlL_23 h.k3 (by decide) rfl [] rfl rfl (Nat.le_of_ble_eq_true rfl) (Nat.le_of_ble_eq_true rfl) (op_int (Or.inl rfl) (Or.inl rfl) (sg_begin h (by omega))) (fun r_ G_ h_ => ?_)
          obtain ⟨v_, rfl, hk_, h_⟩ := h_
          try dsimp only [Option.toList, List.cons_append, List.nil_append]
          refine ev_aload_n dL_law_174 rfl ?_
          refine ev_callV dL_law_175 okX9_begin inX9_begin seX9_begin mlL_26 hk_ (by decide) rfl [] rfl rfl (Nat.le_of_ble_eq_true rfl) (Nat.le_of_ble_eq_true rfl) h_ (fun r2_ G2_ h2_ => ?_)
          obtain ⟨rfl, h2_⟩ := h2_
          try dsimp only [Option.toList, List.cons_append, List.nil_append]
          refine ev_icmp_eq 622 dL_law_178 (by decide) (fun _ => ?_) (fun c_ => absurd rfl c_)
          exact nxt _ h2_
        · refine ev_tswIn (x := 3) 183 dL_law_33 (by decide) (by decide) rfl (by decide) ?_
          refine ev_aload_n dL_law_183 rfl ?_
          refine ev_aload_n dL_law_184 rfl ?_
          refine ev_iload_n dL_law_185 rfl ?_
          refine ev_iconstN 1 dL_law_186 (by decide) ?_
          refine ev_iaddN dL_law_187 ?_
          refine ev_sld dL_law_188 (by omega) (by omega) ?_
          refine ev_aload_n dL_law_189 rfl ?_
          refine ev_iload_n dL_law_190 rfl ?_
          refine ev_iconstN 2 dL_law_191 (by decide) ?_
          refine ev_iaddN dL_law_192 ?_
          refine ev_sld dL_law_193 (by omega) (by omega) ?_
          refine ev_aload_n dL_law_194 rfl ?_
          refine ev_iload_n dL_law_195 rfl ?_
          refine ev_iconstN 3 dL_law_196 (by decide) ?_
          refine ev_iaddN dL_law_197 ?_
          refine ev_sld dL_law_198 (by omega) (by omega) ?_
          refine ev_callV dL_law_199 okX8_read inX8_read seX8_read mlL_27 h.k3 (by decide) rfl [iV _, iV _, iV _] rfl rfl (Nat.le_of_ble_eq_true rfl) (Nat.le_of_ble_eq_true rfl) (op_int (Or.inl rfl) (Or.inl rfl) (sg_read h (by omega) _ _ _)) (fun r_ G_ h_ => ?_)
          obtain ⟨v_, rfl, hk_, h_⟩ := h_
          try dsimp only [Option.toList, List.cons_append, List.nil_append]
          refine ev_aload_n dL_law_202 rfl ?_
          refine ev_aload_n dL_law_203 rfl ?_
          refine ev_iload_n dL_law_204 rfl ?_
          refine ev_iconstN 1 dL_law_205 (by decide) ?_
          refine ev_iaddN dL_law_206 ?_
          refine ev_sld dL_law_207 (by omega) (by omega) ?_
          refine ev_aload_n dL_law_208 rfl ?_
          refine ev_iload_n dL_law_209 rfl ?_
          refine ev_iconstN 2 dL_law_210 (by decide) ?_
          refine ev_iaddN dL_law_211 ?_
          refine ev_sld dL_law_212 (by omega) (by omega) ?_
          refine ev_aload_n dL_law_213 rfl ?_
          refine ev_iload_n dL_law_214 rfl ?_
          refine ev_iconstN 3 dL_law_215 (by decide) ?_
          refine ev_iaddN dL_law_216 ?_
          refine ev_sld dL_law_217 (by omega) (by omega) ?_
          refine ev_callV dL_law_218 okX9_read inX9_read seX9_read mlL_31 hk_ (by decide) rfl [iV _, iV _, iV _] rfl rfl (Nat.le_of_ble_eq_true rfl) (Nat.le_of_ble_eq_true rfl) h_ (fun r2_ G2_ h2_ => ?_)
          obtain ⟨rfl, h2_⟩ := h2_
          try dsimp only [Option.toList, List.cons_append, List.nil_append]
          refine ev_icmp_eq 622 dL_law_221 (by decide) (fun _ => ?_) (fun c_ => absurd rfl c_)
          exact nxt _ h2_
        · refine ev_tswIn (x := 4) 226 dL_law_33 (by decide) (by decide) rfl (by decide) ?_
          refine ev_aload_n dL_law_226 rfl ?_
          refine ev_aload_n dL_law_227 rfl ?_
          refine ev_iload_n dL_law_228 rfl ?_
          refine ev_iconstN 1 dL_law_229 (by decide) ?_
          refine ev_iaddN dL_law_230 ?_
          refine ev_sld dL_law_231 (by omega) (by omega) ?_
          refine ev_aload_n dL_law_232 rfl ?_
          refine ev_iload_n dL_law_233 rfl ?_
          refine ev_iconstN 2 dL_law_234 (by decide) ?_
          refine ev_iaddN dL_law_235 ?_
          refine ev_sld dL_law_236 (by omega) (by omega) ?_
          refine ev_aload_n dL_law_237 rfl ?_
          refine ev_iload_n dL_law_238 rfl ?_
          refine ev_iconstN 3 dL_law_239 (by decide) ?_
          refine ev_iaddN dL_law_240 ?_
          refine ev_sld dL_law_241 (by omega) (by omega) ?_
          refine ev_aload_n dL_law_242 rfl ?_
          refine ev_iload_n dL_law_243 rfl ?_
          refine ev_iconstN 4 dL_law_244 (by decide) ?_
          refine ev_iaddN dL_law_245 ?_
          refine ev_sld dL_law_246 (by omega) (by omega) ?_
          refine ev_aload_n dL_law_247 rfl ?_
          refine ev_iload_n dL_law_248 rfl ?_
          refine ev_iconstN 5 dL_law_249 (by decide) ?_
          refine ev_iaddN dL_law_250 ?_
          refine ev_sld dL_law_251 (by omega) (by omega) ?_
          refine ev_callV dL_law_252 okX8_write inX8_write seX8_write mlL_32 h.k3 (by decide) rfl [iV _, iV _, iV _, iV _, iV _] rfl rfl (Nat.le_of_ble_eq_true rfl) (Nat.le_of_ble_eq_true rfl) (op_int (Or.inr rfl) (Or.inr rfl) (sg_write h (by omega) _ _ _ _ _)) (fun r_ G_ h_ => ?_)
          obtain ⟨v_, rfl, hk_, h_⟩ := h_
          try dsimp only [Option.toList, List.cons_append, List.nil_append]
          refine ev_aload_n dL_law_255 rfl ?_
          refine ev_aload_n dL_law_256 rfl ?_
          refine ev_iload_n dL_law_257 rfl ?_
          refine ev_iconstN 1 dL_law_258 (by decide) ?_
          refine ev_iaddN dL_law_259 ?_
          refine ev_sld dL_law_260 (by omega) (by omega) ?_
          refine ev_aload_n dL_law_261 rfl ?_
          refine ev_iload_n dL_law_262 rfl ?_
          refine ev_iconstN 2 dL_law_263 (by decide) ?_
          refine ev_iaddN dL_law_264 ?_
          refine ev_sld dL_law_265 (by omega) (by omega) ?_
          refine ev_aload_n dL_law_266 rfl ?_
          refine ev_iload_n dL_law_267 rfl ?_
          refine ev_iconstN 3 dL_law_268 (by decide) ?_
          refine ev_iaddN dL_law_269 ?_
          refine ev_sld dL_law_270 (by omega) (by omega) ?_
          refine ev_aload_n dL_law_271 rfl ?_
          refine ev_iload_n dL_law_272 rfl ?_
          refine ev_iconstN 4 dL_law_273 (by decide) ?_
          refine ev_iaddN dL_law_274 ?_
          refine ev_sld dL_law_275 (by omega) (by omega) ?_
          refine ev_aload_n dL_law_276 rfl ?_
          refine ev_iload_n dL_law_277 rfl ?_
          refine ev_iconstN 5 dL_law_278 (by decide) ?_
          refine ev_iaddN dL_law_279 ?_
          refine ev_sld dL_law_280 (by omega) (by omega) ?_
          refine ev_callV dL_law_281 okX9_write inX9_write seX9_write mlL_36 hk_ (by decide) rfl [iV _, iV _, iV _, iV _, iV _] rfl rfl (Nat.le_of_ble_eq_true rfl) (Nat.le_of_ble_eq_true rfl) h_ (fun r2_ G2_ h2_ => ?_)
          obtain ⟨rfl, h2_⟩ := h2_
          try dsimp only [Option.toList, List.cons_append, List.nil_append]
          refine ev_icmp_eq 622 dL_law_284 (by decide) (fun _ => ?_) (fun c_ => absurd rfl c_)
          exact nxt _ h2_
        · refine ev_tswIn (x := 5) 289 dL_law_33 (by decide) (by decide) rfl (by decide) ?_
          refine ev_aload_n dL_law_289 rfl ?_
          refine ev_aload_n dL_law_290 rfl ?_
          refine ev_iload_n dL_law_291 rfl ?_
          refine ev_iconstN 1 dL_law_292 (by decide) ?_
          refine ev_iaddN dL_law_293 ?_
          refine ev_sld dL_law_294 (by omega) (by omega) ?_
          refine ev_aload_n dL_law_295 rfl ?_
          refine ev_iload_n dL_law_296 rfl ?_
          refine ev_iconstN 2 dL_law_297 (by decide) ?_
          refine ev_iaddN dL_law_298 ?_
          refine ev_sld dL_law_299 (by omega) (by omega) ?_
          refine ev_callV dL_law_300 okX8_remove inX8_remove seX8_remove mlL_37 h.k3 (by decide) rfl [iV _, iV _] rfl rfl (Nat.le_of_ble_eq_true rfl) (Nat.le_of_ble_eq_true rfl) (op_int (Or.inr rfl) (Or.inr rfl) (sg_remove h (by omega) _ _)) (fun r_ G_ h_ => ?_)
          obtain ⟨v_, rfl, hk_, h_⟩ := h_
          try dsimp only [Option.toList, List.cons_append, List.nil_append]
          refine ev_aload_n dL_law_303 rfl ?_
          refine ev_aload_n dL_law_304 rfl ?_
          refine ev_iload_n dL_law_305 rfl ?_
          refine ev_iconstN 1 dL_law_306 (by decide) ?_
          refine ev_iaddN dL_law_307 ?_
          refine ev_sld dL_law_308 (by omega) (by omega) ?_
          refine ev_aload_n dL_law_309 rfl ?_
          refine ev_iload_n dL_law_310 rfl ?_
          refine ev_iconstN 2 dL_law_311 (by decide) ?_
          refine ev_iaddN dL_law_312 ?_
          refine ev_sld dL_law_313 (by omega) (by omega) ?_
          refine ev_callV dL_law_314 okX9_remove inX9_remove seX9_remove mlL_40 hk_ (by decide) rfl [iV _, iV _] rfl rfl (Nat.le_of_ble_eq_true rfl) (Nat.le_of_ble_eq_true rfl) h_ (fun r2_ G2_ h2_ => ?_)
          obtain ⟨rfl, h2_⟩ := h2_
          try dsimp only [Option.toList, List.cons_append, List.nil_append]
          refine ev_icmp_eq 622 dL_law_317 (by decide) (fun _ => ?_) (fun c_ => absurd rfl c_)
          exact nxt _ h2_
        · refine ev_tswIn (x := 6) 322 dL_law_33 (by decide) (by decide) rfl (by decide) ?_
          refine ev_aload_n dL_law_322 rfl ?_
          refine ev_aload_n dL_law_323 rfl ?_
          refine ev_iload_n dL_law_324 rfl ?_
          refine ev_iconstN 1 dL_law_325 (by decide) ?_
          refine ev_iaddN dL_law_326 ?_
          refine ev_sld dL_law_327 (by omega) (by omega) ?_
          refine ev_callV dL_law_328 okX8_query inX8_query seX8_query mlL_41 h.k3 (by decide) rfl [iV _] rfl rfl (Nat.le_of_ble_eq_true rfl) (Nat.le_of_ble_eq_true rfl) (op_int (Or.inl rfl) (Or.inl rfl) (sg_query h (by omega) _)) (fun r_ G_ h_ => ?_)
          obtain ⟨v_, rfl, hk_, h_⟩ := h_
          try dsimp only [Option.toList, List.cons_append, List.nil_append]
          refine ev_aload_n dL_law_331 rfl ?_
          refine ev_aload_n dL_law_332 rfl ?_
          refine ev_iload_n dL_law_333 rfl ?_
          refine ev_iconstN 1 dL_law_334 (by decide) ?_
          refine ev_iaddN dL_law_335 ?_
          refine ev_sld dL_law_336 (by omega) (by omega) ?_
          refine ev_callV dL_law_337 okX9_query inX9_query seX9_query mlL_45 hk_ (by decide) rfl [iV _] rfl rfl (Nat.le_of_ble_eq_true rfl) (Nat.le_of_ble_eq_true rfl) h_ (fun r2_ G2_ h2_ => ?_)
          obtain ⟨rfl, h2_⟩ := h2_
          try dsimp only [Option.toList, List.cons_append, List.nil_append]
          refine ev_icmp_eq 622 dL_law_340 (by decide) (fun _ => ?_) (fun c_ => absurd rfl c_)
          exact nxt _ h2_
        · refine ev_tswIn (x := 7) 345 dL_law_33 (by decide) (by decide) rfl (by decide) ?_
          refine ev_aload_n dL_law_345 rfl ?_
          refine ev_aload_n dL_law_346 rfl ?_
          refine ev_iload_n dL_law_347 rfl ?_
          refine ev_iconstN 1 dL_law_348 (by decide) ?_
          refine ev_iaddN dL_law_349 ?_
          refine ev_sld dL_law_350 (by omega) (by omega) ?_
          refine ev_callV dL_law_351 okX8_commit inX8_commit seX8_commit mlL_46 h.k3 (by decide) rfl [iV _] rfl rfl (Nat.le_of_ble_eq_true rfl) (Nat.le_of_ble_eq_true rfl) (op_int (Or.inl rfl) (Or.inl rfl) (sg_commit h (by omega) _)) (fun r_ G_ h_ => ?_)
          obtain ⟨v_, rfl, hk_, h_⟩ := h_
          try dsimp only [Option.toList, List.cons_append, List.nil_append]
          refine ev_aload_n dL_law_354 rfl ?_
          refine ev_aload_n dL_law_355 rfl ?_
          refine ev_iload_n dL_law_356 rfl ?_
          refine ev_iconstN 1 dL_law_357 (by decide) ?_
          refine ev_iaddN dL_law_358 ?_
          refine ev_sld dL_law_359 (by omega) (by omega) ?_
          refine ev_callV dL_law_360 okX9_commit inX9_commit seX9_commit mlL_49 hk_ (by decide) rfl [iV _] rfl rfl (Nat.le_of_ble_eq_true rfl) (Nat.le_of_ble_eq_true rfl) h_ (fun r2_ G2_ h2_ => ?_)
          obtain ⟨rfl, h2_⟩ := h2_
          try dsimp only [Option.toList, List.cons_append, List.nil_append]
          refine ev_icmp_eq 622 dL_law_363 (by decide) (fun _ => ?_) (fun c_ => absurd rfl c_)
          exact nxt _ h2_
        · refine ev_tswIn (x := 8) 368 dL_law_33 (by decide) (by decide) rfl (by decide) ?_
          refine ev_aload_n dL_law_368 rfl ?_
          refine ev_aload_n dL_law_369 rfl ?_
          refine ev_iload_n dL_law_370 rfl ?_
          refine ev_iconstN 1 dL_law_371 (by decide) ?_
          refine ev_iaddN dL_law_372 ?_
          refine ev_sld dL_law_373 (by omega) (by omega) ?_
          refine ev_aload_n dL_law_374 rfl ?_
          refine ev_iload_n dL_law_375 rfl ?_
          refine ev_iconstN 2 dL_law_376 (by decide) ?_
          refine ev_iaddN dL_law_377 ?_
          refine ev_sld dL_law_378 (by omega) (by omega) ?_
          refine ev_callV dL_law_379 okX8_tear inX8_tear seX8_tear mlL_50 h.k3 (by decide) rfl [iV _, iV _] rfl rfl (Nat.le_of_ble_eq_true rfl) (Nat.le_of_ble_eq_true rfl) (op_int (Or.inl rfl) (Or.inl rfl) (sg_tear h (by omega) _ _)) (fun r_ G_ h_ => ?_)
          obtain ⟨v_, rfl, hk_, h_⟩ := h_
          try dsimp only [Option.toList, List.cons_append, List.nil_append]
          refine ev_aload_n dL_law_382 rfl ?_
          refine ev_aload_n dL_law_383 rfl ?_
          refine ev_iload_n dL_law_384 rfl ?_
          refine ev_iconstN 1 dL_law_385 (by decide) ?_
          refine ev_iaddN dL_law_386 ?_
          refine ev_sld dL_law_387 (by omega) (by omega) ?_
          refine ev_aload_n dL_law_388 rfl ?_
          refine ev_iload_n dL_law_389 rfl ?_
          refine ev_iconstN 2 dL_law_390 (by decide) ?_
          refine ev_iaddN dL_law_391 ?_
          refine ev_sld dL_law_392 (by omega) (by omega) ?_
          refine ev_callV dL_law_393 okX9_tear inX9_tear seX9_tear mlL_54 hk_ (by decide) rfl [iV _, iV _] rfl rfl (Nat.le_of_ble_eq_true rfl) (Nat.le_of_ble_eq_true rfl) h_ (fun r2_ G2_ h2_ => ?_)
          obtain ⟨rfl, h2_⟩ := h2_
          try dsimp only [Option.toList, List.cons_append, List.nil_append]
          refine ev_icmp_eq 622 dL_law_396 (by decide) (fun _ => ?_) (fun c_ => absurd rfl c_)
          exact nxt _ h2_
        · refine ev_tswIn (x := 9) 401 dL_law_33 (by decide) (by decide) rfl (by decide) ?_
          refine ev_aload_n dL_law_401 rfl ?_
          refine ev_aload_n dL_law_402 rfl ?_
          refine ev_iload_n dL_law_403 rfl ?_
          refine ev_iconstN 1 dL_law_404 (by decide) ?_
          refine ev_iaddN dL_law_405 ?_
          refine ev_sld dL_law_406 (by omega) (by omega) ?_
          refine ev_callV dL_law_407 okX8_abort inX8_abort seX8_abort mlL_55 h.k3 (by decide) rfl [iV _] rfl rfl (Nat.le_of_ble_eq_true rfl) (Nat.le_of_ble_eq_true rfl) (op_int (Or.inr rfl) (Or.inr rfl) (sg_abort h (by omega) _)) (fun r_ G_ h_ => ?_)
          obtain ⟨v_, rfl, hk_, h_⟩ := h_
          try dsimp only [Option.toList, List.cons_append, List.nil_append]
          refine ev_aload_n dL_law_410 rfl ?_
          refine ev_aload_n dL_law_411 rfl ?_
          refine ev_iload_n dL_law_412 rfl ?_
          refine ev_iconstN 1 dL_law_413 (by decide) ?_
          refine ev_iaddN dL_law_414 ?_
          refine ev_sld dL_law_415 (by omega) (by omega) ?_
          refine ev_callV dL_law_416 okX9_abort inX9_abort seX9_abort mlL_59 hk_ (by decide) rfl [iV _] rfl rfl (Nat.le_of_ble_eq_true rfl) (Nat.le_of_ble_eq_true rfl) h_ (fun r2_ G2_ h2_ => ?_)
          obtain ⟨rfl, h2_⟩ := h2_
          try dsimp only [Option.toList, List.cons_append, List.nil_append]
          refine ev_icmp_eq 622 dL_law_419 (by decide) (fun _ => ?_) (fun c_ => absurd rfl c_)
          exact nxt _ h2_
        · refine ev_tswIn (x := 10) 424 dL_law_33 (by decide) (by decide) rfl (by decide) ?_
          refine ev_aload_n dL_law_424 rfl ?_
          refine ev_callV dL_law_425 okX8_flush inX8_flush seX8_flush mlL_60 h.k3 (by decide) rfl [] rfl rfl (Nat.le_of_ble_eq_true rfl) (Nat.le_of_ble_eq_true rfl) (op_int (Or.inl rfl) (Or.inl rfl) (sg_flush h (by omega))) (fun r_ G_ h_ => ?_)
          obtain ⟨v_, rfl, hk_, h_⟩ := h_
          try dsimp only [Option.toList, List.cons_append, List.nil_append]
          refine ev_aload_n dL_law_428 rfl ?_
          refine ev_callV dL_law_429 okX9_flush inX9_flush seX9_flush mlL_63 hk_ (by decide) rfl [] rfl rfl (Nat.le_of_ble_eq_true rfl) (Nat.le_of_ble_eq_true rfl) h_ (fun r2_ G2_ h2_ => ?_)
          obtain ⟨rfl, h2_⟩ := h2_
          try dsimp only [Option.toList, List.cons_append, List.nil_append]
          refine ev_icmp_eq 622 dL_law_432 (by decide) (fun _ => ?_) (fun c_ => absurd rfl c_)
          exact nxt _ h2_
        · refine ev_tswIn (x := 11) 437 dL_law_33 (by decide) (by decide) rfl (by decide) ?_
          refine ev_aload_n dL_law_437 rfl ?_
          refine ev_callV dL_law_438 okX8_compact inX8_compact seX8_compact mlL_64 h.k3 (by decide) rfl [] rfl rfl (Nat.le_of_ble_eq_true rfl) (Nat.le_of_ble_eq_true rfl) (op_int (Or.inl rfl) (Or.inl rfl) (sg_compact h (by omega))) (fun r_ G_ h_ => ?_)
          obtain ⟨v_, rfl, hk_, h_⟩ := h_
          try dsimp only [Option.toList, List.cons_append, List.nil_append]
          refine ev_aload_n dL_law_441 rfl ?_
          refine ev_callV dL_law_442 okX9_compact inX9_compact seX9_compact mlL_67 hk_ (by decide) rfl [] rfl rfl (Nat.le_of_ble_eq_true rfl) (Nat.le_of_ble_eq_true rfl) h_ (fun r2_ G2_ h2_ => ?_)
          obtain ⟨rfl, h2_⟩ := h2_
          try dsimp only [Option.toList, List.cons_append, List.nil_append]
          refine ev_icmp_eq 622 dL_law_445 (by decide) (fun _ => ?_) (fun c_ => absurd rfl c_)
          exact nxt _ h2_
        · refine ev_tswIn (x := 12) 450 dL_law_33 (by decide) (by decide) rfl (by decide) ?_
          refine ev_aload_n dL_law_450 rfl ?_
          refine ev_callV dL_law_451 okX8_crash inX8_crash seX8_crash mlL_68 h.k3 (by decide) rfl [] rfl rfl (Nat.le_of_ble_eq_true rfl) (Nat.le_of_ble_eq_true rfl) (op_int (Or.inl rfl) (Or.inl rfl) (sg_crash h (by omega))) (fun r_ G_ h_ => ?_)
          obtain ⟨v_, rfl, hk_, h_⟩ := h_
          try dsimp only [Option.toList, List.cons_append, List.nil_append]
          refine ev_aload_n dL_law_454 rfl ?_
          refine ev_callV dL_law_455 okX9_crash inX9_crash seX9_crash mlL_71 hk_ (by decide) rfl [] rfl rfl (Nat.le_of_ble_eq_true rfl) (Nat.le_of_ble_eq_true rfl) h_ (fun r2_ G2_ h2_ => ?_)
          obtain ⟨rfl, h2_⟩ := h2_
          try dsimp only [Option.toList, List.cons_append, List.nil_append]
          refine ev_icmp_eq 622 dL_law_458 (by decide) (fun _ => ?_) (fun c_ => absurd rfl c_)
          exact nxt _ h2_
        · refine ev_tswIn (x := 13) 463 dL_law_33 (by decide) (by decide) rfl (by decide) ?_
          refine ev_aload_n dL_law_463 rfl ?_
          refine ev_aload_n dL_law_464 rfl ?_
          refine ev_iload_n dL_law_465 rfl ?_
          refine ev_iconstN 1 dL_law_466 (by decide) ?_
          refine ev_iaddN dL_law_467 ?_
          refine ev_sld dL_law_468 (by omega) (by omega) ?_
          refine ev_callV dL_law_469 okX8_result inX8_result seX8_result mlL_72 h.k3 (by decide) rfl [iV _] rfl rfl (Nat.le_of_ble_eq_true rfl) (Nat.le_of_ble_eq_true rfl) (op_int (Or.inl rfl) (Or.inl rfl) (sg_result h (by omega) _)) (fun r_ G_ h_ => ?_)
          obtain ⟨v_, rfl, hk_, h_⟩ := h_
          try dsimp only [Option.toList, List.cons_append, List.nil_append]
          refine ev_aload_n dL_law_472 rfl ?_
          refine ev_aload_n dL_law_473 rfl ?_
          refine ev_iload_n dL_law_474 rfl ?_
          refine ev_iconstN 1 dL_law_475 (by decide) ?_
          refine ev_iaddN dL_law_476 ?_
          refine ev_sld dL_law_477 (by omega) (by omega) ?_
          refine ev_callV dL_law_478 okX9_result inX9_result seX9_result mlL_75 hk_ (by decide) rfl [iV _] rfl rfl (Nat.le_of_ble_eq_true rfl) (Nat.le_of_ble_eq_true rfl) h_ (fun r2_ G2_ h2_ => ?_)
          obtain ⟨rfl, h2_⟩ := h2_
          try dsimp only [Option.toList, List.cons_append, List.nil_append]
          refine ev_icmp_eq 622 dL_law_481 (by decide) (fun _ => ?_) (fun c_ => absurd rfl c_)
          exact nxt _ h2_
        · refine ev_tswIn (x := 14) 486 dL_law_33 (by decide) (by decide) rfl (by decide) ?_
          refine ev_aload_n dL_law_486 rfl ?_
          refine ev_aload_n dL_law_487 rfl ?_
          refine ev_iload_n dL_law_488 rfl ?_
          refine ev_iconstN 1 dL_law_489 (by decide) ?_
          refine ev_iaddN dL_law_490 ?_
          refine ev_sld dL_law_491 (by omega) (by omega) ?_
          refine ev_callV dL_law_492 okX8_plan inX8_plan seX8_plan mlL_76 h.k3 (by decide) rfl [iV _] rfl rfl (Nat.le_of_ble_eq_true rfl) (Nat.le_of_ble_eq_true rfl) (op_long rfl rfl (sg_plan h (by omega) _)) (fun r_ G_ h_ => ?_)
          obtain ⟨v_, rfl, hk_, h_⟩ := h_
          try dsimp only [Option.toList, List.cons_append, List.nil_append]
          refine ev_aload_n dL_law_495 rfl ?_
          refine ev_aload_n dL_law_496 rfl ?_
          refine ev_iload_n dL_law_497 rfl ?_
          refine ev_iconstN 1 dL_law_498 (by decide) ?_
          refine ev_iaddN dL_law_499 ?_
          refine ev_sld dL_law_500 (by omega) (by omega) ?_
          refine ev_callV dL_law_501 okX9_plan inX9_plan seX9_plan mlL_80 hk_ (by decide) rfl [iV _] rfl rfl (Nat.le_of_ble_eq_true rfl) (Nat.le_of_ble_eq_true rfl) h_ (fun r2_ G2_ h2_ => ?_)
          obtain ⟨rfl, h2_⟩ := h2_
          try dsimp only [Option.toList, List.cons_append, List.nil_append]
          refine ev_lcmp dL_law_504 ?_
          refine ev_if_eq 622 dL_law_505 (by decide) (fun _ => ?_) (fun c_ => absurd lcmp_self c_)
          exact nxt _ h2_
        · refine ev_tswIn (x := 15) 510 dL_law_33 (by decide) (by decide) rfl (by decide) ?_
          refine ev_aload_n dL_law_510 rfl ?_
          refine ev_aload_n dL_law_511 rfl ?_
          refine ev_iload_n dL_law_512 rfl ?_
          refine ev_iconstN 1 dL_law_513 (by decide) ?_
          refine ev_iaddN dL_law_514 ?_
          refine ev_sld dL_law_515 (by omega) (by omega) ?_
          refine ev_callV dL_law_516 okX8_state inX8_state seX8_state mlL_81 h.k3 (by decide) rfl [iV _] rfl rfl (Nat.le_of_ble_eq_true rfl) (Nat.le_of_ble_eq_true rfl) (op_int (Or.inl rfl) (Or.inl rfl) (sg_state h (by omega) _)) (fun r_ G_ h_ => ?_)
          obtain ⟨v_, rfl, hk_, h_⟩ := h_
          try dsimp only [Option.toList, List.cons_append, List.nil_append]
          refine ev_aload_n dL_law_519 rfl ?_
          refine ev_aload_n dL_law_520 rfl ?_
          refine ev_iload_n dL_law_521 rfl ?_
          refine ev_iconstN 1 dL_law_522 (by decide) ?_
          refine ev_iaddN dL_law_523 ?_
          refine ev_sld dL_law_524 (by omega) (by omega) ?_
          refine ev_callV dL_law_525 okX9_state inX9_state seX9_state mlL_84 hk_ (by decide) rfl [iV _] rfl rfl (Nat.le_of_ble_eq_true rfl) (Nat.le_of_ble_eq_true rfl) h_ (fun r2_ G2_ h2_ => ?_)
          obtain ⟨rfl, h2_⟩ := h2_
          try dsimp only [Option.toList, List.cons_append, List.nil_append]
          refine ev_icmp_eq 622 dL_law_528 (by decide) (fun _ => ?_) (fun c_ => absurd rfl c_)
          exact nxt _ h2_
        · refine ev_tswIn (x := 16) 533 dL_law_33 (by decide) (by decide) rfl (by decide) ?_
          refine ev_aload_n dL_law_533 rfl ?_
          refine ev_aload_n dL_law_534 rfl ?_
          refine ev_iload_n dL_law_535 rfl ?_
          refine ev_iconstN 1 dL_law_536 (by decide) ?_
          refine ev_iaddN dL_law_537 ?_
          refine ev_sld dL_law_538 (by omega) (by omega) ?_
          refine ev_callV dL_law_539 okX8_about inX8_about seX8_about mlL_85 h.k3 (by decide) rfl [iV _] rfl rfl (Nat.le_of_ble_eq_true rfl) (Nat.le_of_ble_eq_true rfl) (op_int (Or.inl rfl) (Or.inl rfl) (sg_about h (by omega) _)) (fun r_ G_ h_ => ?_)
          obtain ⟨v_, rfl, hk_, h_⟩ := h_
          try dsimp only [Option.toList, List.cons_append, List.nil_append]
          refine ev_aload_n dL_law_542 rfl ?_
          refine ev_aload_n dL_law_543 rfl ?_
          refine ev_iload_n dL_law_544 rfl ?_
          refine ev_iconstN 1 dL_law_545 (by decide) ?_
          refine ev_iaddN dL_law_546 ?_
          refine ev_sld dL_law_547 (by omega) (by omega) ?_
          refine ev_callV dL_law_548 okX9_about inX9_about seX9_about mlL_88 hk_ (by decide) rfl [iV _] rfl rfl (Nat.le_of_ble_eq_true rfl) (Nat.le_of_ble_eq_true rfl) h_ (fun r2_ G2_ h2_ => ?_)
          obtain ⟨rfl, h2_⟩ := h2_
          try dsimp only [Option.toList, List.cons_append, List.nil_append]
          refine ev_icmp_eq 622 dL_law_551 (by decide) (fun _ => ?_) (fun c_ => absurd rfl c_)
          exact nxt _ h2_
        · refine ev_tswIn (x := 17) 556 dL_law_33 (by decide) (by decide) rfl (by decide) ?_
          refine ev_aload_n dL_law_556 rfl ?_
          refine ev_aload_n dL_law_557 rfl ?_
          refine ev_iload_n dL_law_558 rfl ?_
          refine ev_iconstN 1 dL_law_559 (by decide) ?_
          refine ev_iaddN dL_law_560 ?_
          refine ev_sld dL_law_561 (by omega) (by omega) ?_
          refine ev_callV dL_law_562 okX8_files inX8_files seX8_files mlL_89 h.k3 (by decide) rfl [iV _] rfl rfl (Nat.le_of_ble_eq_true rfl) (Nat.le_of_ble_eq_true rfl) (op_int (Or.inl rfl) (Or.inl rfl) (sg_files h (by omega) _)) (fun r_ G_ h_ => ?_)
          obtain ⟨v_, rfl, hk_, h_⟩ := h_
          try dsimp only [Option.toList, List.cons_append, List.nil_append]
          refine ev_aload_n dL_law_565 rfl ?_
          refine ev_aload_n dL_law_566 rfl ?_
          refine ev_iload_n dL_law_567 rfl ?_
          refine ev_iconstN 1 dL_law_568 (by decide) ?_
          refine ev_iaddN dL_law_569 ?_
          refine ev_sld dL_law_570 (by omega) (by omega) ?_
          refine ev_callV dL_law_571 okX9_files inX9_files seX9_files mlL_92 hk_ (by decide) rfl [iV _] rfl rfl (Nat.le_of_ble_eq_true rfl) (Nat.le_of_ble_eq_true rfl) h_ (fun r2_ G2_ h2_ => ?_)
          obtain ⟨rfl, h2_⟩ := h2_
          try dsimp only [Option.toList, List.cons_append, List.nil_append]
          refine ev_icmp_eq 622 dL_law_574 (by decide) (fun _ => ?_) (fun c_ => absurd rfl c_)
          exact nxt _ h2_
        · refine ev_tswIn (x := 18) 579 dL_law_33 (by decide) (by decide) rfl (by decide) ?_
          refine ev_aload_n dL_law_579 rfl ?_
          refine ev_aload_n dL_law_580 rfl ?_
          refine ev_iload_n dL_law_581 rfl ?_
          refine ev_iconstN 1 dL_law_582 (by decide) ?_
          refine ev_iaddN dL_law_583 ?_
          refine ev_sld dL_law_584 (by omega) (by omega) ?_
          refine ev_aload_n dL_law_585 rfl ?_
          refine ev_iload_n dL_law_586 rfl ?_
          refine ev_iconstN 2 dL_law_587 (by decide) ?_
          refine ev_iaddN dL_law_588 ?_
          refine ev_sld dL_law_589 (by omega) (by omega) ?_
          refine ev_aload_n dL_law_590 rfl ?_
          refine ev_iload_n dL_law_591 rfl ?_
          refine ev_iconstN 3 dL_law_592 (by decide) ?_
          refine ev_iaddN dL_law_593 ?_
          refine ev_sld dL_law_594 (by omega) (by omega) ?_
          refine ev_callV dL_law_595 okX8_file inX8_file seX8_file mlL_93 h.k3 (by decide) rfl [iV _, iV _, iV _] rfl rfl (Nat.le_of_ble_eq_true rfl) (Nat.le_of_ble_eq_true rfl) (op_int (Or.inl rfl) (Or.inl rfl) (sg_file h (by omega) _ _ _)) (fun r_ G_ h_ => ?_)
          obtain ⟨v_, rfl, hk_, h_⟩ := h_
          try dsimp only [Option.toList, List.cons_append, List.nil_append]
          refine ev_aload_n dL_law_598 rfl ?_
          refine ev_aload_n dL_law_599 rfl ?_
          refine ev_iload_n dL_law_600 rfl ?_
          refine ev_iconstN 1 dL_law_601 (by decide) ?_
          refine ev_iaddN dL_law_602 ?_
          refine ev_sld dL_law_603 (by omega) (by omega) ?_
          refine ev_aload_n dL_law_604 rfl ?_
          refine ev_iload_n dL_law_605 rfl ?_
          refine ev_iconstN 2 dL_law_606 (by decide) ?_
          refine ev_iaddN dL_law_607 ?_
          refine ev_sld dL_law_608 (by omega) (by omega) ?_
          refine ev_aload_n dL_law_609 rfl ?_
          refine ev_iload_n dL_law_610 rfl ?_
          refine ev_iconstN 3 dL_law_611 (by decide) ?_
          refine ev_iaddN dL_law_612 ?_
          refine ev_sld dL_law_613 (by omega) (by omega) ?_
          refine ev_callV dL_law_614 okX9_file inX9_file seX9_file mlL_96 hk_ (by decide) rfl [iV _, iV _, iV _] rfl rfl (Nat.le_of_ble_eq_true rfl) (Nat.le_of_ble_eq_true rfl) h_ (fun r2_ G2_ h2_ => ?_)
          obtain ⟨rfl, h2_⟩ := h2_
          try dsimp only [Option.toList, List.cons_append, List.nil_append]
          refine ev_icmp_eq 622 dL_law_617 (by decide) (fun _ => ?_) (fun c_ => absurd rfl c_)
          exact nxt _ h2_
      · have hki : (nI k).toInt = k := nI_toInt (by omega)
        refine ev_tswOut 622 dL_law_33 (Or.inr (by rw [hki]; omega)) (by decide) ?_
        refine ev_iincNS (b := 6) dL_law_622 rfl (by decide) (by decide) rfl ?_
        refine ev_goto 18 dL_law_625 (by decide) ?_
        exact ih (c + 1) (by omega) G h.skip
set_option maxRecDepth 100000 in
set_option maxHeartbeats 4000000 in
theorem law_all {X : CX} {d : Nat} (hL : X.2.2.2.2.1 ≤ 3072) : Ev X mL_law (d + 61) 0 [some (rV (some 2)), none, none, none] [] (zK, zI, zJ, zR, zI, zR, zL, 3, 0) (fun r G' => r = some (iV 1) ∧ gh_n G' ≤ 600000 ∧ gh_s G' ≤ 7302249) := by
  refine ev_new dL_law_0 nwL_7 ?_
  refine ev_dup dL_law_3 rfl ?_
  refine ev_callI dL_law_4 okX8_init inX8_init rfl rfl mlL_9 [] rfl rfl (Nat.le_of_ble_eq_true rfl) (Nat.le_of_ble_eq_true rfl) (in_rows (d := d + 54)) (fun r_ G_ h_ => ?_)
  obtain ⟨rfl, rfl⟩ := h_
  try dsimp only [Option.toList, List.cons_append, List.nil_append]
  refine ev_astore_nS dL_law_7 (by decide) rfl ?_
  refine ev_new dL_law_8 nwL_10 ?_
  refine ev_dup dL_law_11 rfl ?_
  refine ev_callI dL_law_12 okX9_init inX9_init rfl rfl mlL_12 [] rfl rfl (Nat.le_of_ble_eq_true rfl) (Nat.le_of_ble_eq_true rfl) (in_model (d := d + 54)) (fun r_ G_ h_ => ?_)
  obtain ⟨rfl, rfl⟩ := h_
  try dsimp only [Option.toList, List.cons_append, List.nil_append]
  refine ev_astore_nS dL_law_15 (by decide) rfl ?_
  refine ev_iconstN 0 dL_law_16 (by decide) ?_
  refine ev_istore_nS dL_law_17 (by decide) rfl ?_
  exact lp_law hL 512 0 (by decide) _ st_zero
