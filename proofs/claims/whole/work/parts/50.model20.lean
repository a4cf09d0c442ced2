section M20
variable {X : CX} {d : Nat} {K : Nat → Nat} {I : Nat → Nat → Int32} {J : Nat → Nat → Int64} {R : Nat → Nat → Option Nat} {A : Nat → Nat → Int32} {B : Nat → Nat → Option Nat} {Ln : Nat → Nat} {n sl : Nat}
set_option maxRecDepth 100000 in
set_option maxHeartbeats 4000000 in
theorem lp_merge {Q : Option LV → GH → Prop} (hM : MFix K R Ln) {I0 A0 : Nat → Nat → Int32} {lr : List Nat} {fn md : Nat} {to h : Int32} (hO : OrdA A0 lr) (hlt : ∀ y ∈ lr, y < 520) (hcap : fn + lr.length ≤ 520) (hmdb : md + lr.length < 2147483648) (hs : I0 612 11 = nI lr.length)
    (kont : ∀ I1 A1 asg c o w4 w5 w6 w7 w8 w9 w10, (mgF (plI (A0 16) (A0 17) (A0 18)) (A0 19) (A0 20) h (decide (to = 2)) md lr.reverse none false none 0 0) = (asg, c, o) → MgH I0 A0 I1 A1 fn md to asg c → Ev X mX9_merge (d + 1) 219 [some (rV (some 11)), some (iV to), some (iV h), some (iV (nI o)), w4, w5, w6, w7, w8, w9, w10] [] (K, I1, J, R, A1, B, Ln, n, sl) Q) :
    ∀ (r pre : List Nat) (out ins c : Nat) (fm : Option Nat) (ps : Bool) (asg : List (Nat × Int32)) (I A : Nat → Nat → Int32) (w8 w9 w10 : Option LV), lr.reverse = pre ++ r → (∀ a, fm = some a → a ∈ lr) → c ≤ pre.length → ins ≤ pre.length → out ≤ pre.length → MgH I0 A0 I A fn md to asg c →
      (mgF (plI (A0 16) (A0 17) (A0 18)) (A0 19) (A0 20) h (decide (to = 2)) md lr.reverse none false none 0 0) = (asg ++ (mgF (plI (A0 16) (A0 17) (A0 18)) (A0 19) (A0 20) h (decide (to = 2)) md r pre.getLast? ps fm ins c).1, (mgF (plI (A0 16) (A0 17) (A0 18)) (A0 19) (A0 20) h (decide (to = 2)) md r pre.getLast? ps fm ins c).2.1, out + (mgF (plI (A0 16) (A0 17) (A0 18)) (A0 19) (A0 20) h (decide (to = 2)) md r pre.getLast? ps fm ins c).2.2) →
      Ev X mX9_merge (d + 1) 19 [some (rV (some 11)), some (iV to), some (iV h), some (iV (nI out)), some (iV (nI ins)), some (iV (oI fm)), some (iV (bZ ps)), some (iV (nI (pre.length))), w8, w9, w10] [] (K, I, J, R, A, B, Ln, n, sl) Q := by
  intro r
  induction r with
  | nil =>
    intro pre out ins c fm ps asg I A w8 w9 w10 hk hfm hc hi ho hg hR
    have hpl : pre.length = lr.length := by
      have := congrArg List.length hk
      simp at this
      omega
    have h612 : I 612 11 = nI lr.length := (hg.2.2.2.2.2.2 612 11 (by omega)).trans hs
    have kf := kont I A asg c out
    simp only [mgF, List.append_nil, Nat.add_zero] at hR
    refine ev_iload dX9_merge_19 rfl ?_
    refine ev_aload_n dX9_merge_21 rfl ?_
    refine ev_getIv dX9_merge_22 fX9_188 hM.m h612 ?_
    refine ev_icmp_geN 219 dX9_merge_25 (by decide) (by omega) (by omega) (fun c25 => ?_) (fun c25 => absurd c25 (by omega))
    exact kf _ _ _ _ _ _ _ hR hg
  | cons e r ih =>
    intro pre out ins c fm ps asg I A w8 w9 w10 hk hfm hc hi ho hg hR
    have hpl : pre.length + (r.length + 1) = lr.length := by
      have := congrArg List.length hk
      simp at this
      omega
    have h612 : I 612 11 = nI lr.length := (hg.2.2.2.2.2.2 612 11 (by omega)).trans hs
    have r16 := hg.1 16 (by decide)
    have r17 := hg.1 17 (by decide)
    have r18 := hg.1 18 (by decide)
    have r19 := hg.1 19 (by decide)
    have r20 := hg.1 20 (by decide)
    have r32 := hg.1 32 (by decide)
    have hO' : OrdA A lr := fun j v hj => by rw [r32]; exact hO j v hj
    have he : e < 520 := hlt e (by rw [← List.mem_reverse, hk]; simp)
    have hel : e ∈ lr := by rw [← List.mem_reverse, hk]; simp
    have hk' : lr.reverse = (pre ++ [e]) ++ r := by rw [hk]; simp
    have hgl : (pre ++ [e]).getLast? = some e := by simp
    have hpe : (pre ++ [e]).length = pre.length + 1 := by simp
    rw [mgF.eq_2] at hR
    generalize hps1 : (pre.getLast?.any (fun a => decide (plI (A0 16) (A0 17) (A0 18) a e = 0)) && ps) = ps1 at hR
    have start : Ev X mX9_merge (d + 1) 28 [some (rV (some 11)), some (iV to), some (iV h), some (iV (nI out)), some (iV (nI ins)), some (iV (oI fm)), some (iV (bZ ps)), some (iV (nI (pre.length))), w8, w9, w10] [] (K, I, J, R, A, B, Ln, n, sl) Q := by
      refine mg_A hM hO' hk rfl hlt (by omega) ?_
      refine mg_B hM ?_
      refine mg_C hM he ?_
      refine mg_D hM he ?_
      rw [r16, r17, r18, r19, r20, hps1]
      have k195 : ∀ (ins' c' : Nat) (I' A' : Nat → Nat → Int32) (w5 w9 w10 : Option LV), c' ≤ pre.length + 1 → ins' ≤ pre.length → MgH I0 A0 I' A' fn md to asg c' → (mgF (plI (A0 16) (A0 17) (A0 18)) (A0 19) (A0 20) h (decide (to = 2)) md lr.reverse none false none 0 0) = (asg ++ ((e, nI (md + c')) :: (mgF (plI (A0 16) (A0 17) (A0 18)) (A0 19) (A0 20) h (decide (to = 2)) md r (some e) (ps1 || decide (A0 19 e ≤ h)) (some e) (ins' + 1) c').1), (mgF (plI (A0 16) (A0 17) (A0 18)) (A0 19) (A0 20) h (decide (to = 2)) md r (some e) (ps1 || decide (A0 19 e ≤ h)) (some e) (ins' + 1) c').2.1, out + (mgF (plI (A0 16) (A0 17) (A0 18)) (A0 19) (A0 20) h (decide (to = 2)) md r (some e) (ps1 || decide (A0 19 e ≤ h)) (some e) (ins' + 1) c').2.2) → Ev X mX9_merge (d + 1) 195 [some (rV (some 11)), some (iV to), some (iV h), some (iV (nI out)), some (iV (nI (ins'))), w5, some (iV (bZ (ps1 || decide (A0 19 e ≤ h)))), some (iV (nI (pre.length))), some (iV (nI e)), w9, w10] [] (K, I', J, R, A', B, Ln, n, sl) Q := by
        intro ins' c' I' A' w5 w9 w10 hc' hi' hg' hR'
        have hmade := hg'.2.2.2.2.1
        have hgo := ih (pre ++ [e]) out (ins' + 1) c' (some e) (ps1 || decide (A0 19 e ≤ h)) (asg ++ [(e, nI (md + c'))]) I' (u2 A' 22 e (nI (md + c'))) (some (iV (nI e))) w9 w10 hk' (fun a ha => by cases ha; exact hel) (by omega) (by omega) (by omega) hg'.put (by rw [hgl, List.append_assoc]; exact hR')
        rw [hpe] at hgo
        refine ev_aload_n dX9_merge_195 rfl ?_
        refine ev_getR dX9_merge_196 fX9_41 hM.m hM.R_file ?_
        refine ev_iload dX9_merge_199 rfl ?_
        refine ev_aload_n dX9_merge_201 rfl ?_
        refine ev_getIv dX9_merge_202 fX9_164 hM.m hmade ?_
        refine ev_iast dX9_merge_205 hM.K_file hM.L_file (by decide) (by omega) ?_
        refine ev_iincNS (b := 1) dX9_merge_206 rfl (by decide) (by decide) rfl ?_
        refine ev_iload dX9_merge_209 rfl ?_
        refine ev_istoreS dX9_merge_211 (by decide) rfl ?_
        refine ev_iincNS (b := 1) dX9_merge_213 rfl (by decide) (by decide) rfl ?_
        refine ev_goto 19 dX9_merge_216 (by decide) ?_
        exact hgo
      by_cases hnd : (ps1 || (decide (A0 19 e ≤ h) && decide (A0 20 e = 0) && decide (to = 2))) = true
      · rw [if_pos hnd] at hR
        rw [hnd]
        have hgo := ih (pre ++ [e]) (out + 1) ins c fm (ps1 || decide (A0 19 e ≤ h)) (asg ++ [(e, -1)]) I (u2 A 22 e (-1)) (some (iV (nI e))) (some (iV (bZ (pre.getLast?.any (fun a => decide (plI (A0 16) (A0 17) (A0 18) a e = 0)))))) (some (iV (nI 1))) hk' hfm (by omega) (by omega) (by omega) hg.put (by rw [hgl, List.append_assoc]; simpa [Nat.add_assoc, Nat.add_comm 1] using hR)
        rw [hpe] at hgo
        show Ev X mX9_merge (d + 1) 145 [some (rV (some 11)), some (iV to), some (iV h), some (iV (nI out)), some (iV (nI ins)), some (iV (oI fm)), some (iV (bZ (ps1 || decide (A0 19 e ≤ h)))), some (iV (nI (pre.length))), some (iV (nI e)), _, some (iV (nI 1))] [] (K, I, J, R, A, B, Ln, n, sl) Q
        refine ev_iload dX9_merge_145 rfl ?_
        refine ev_if_eqN 164 dX9_merge_147 (by decide) (by omega) (fun c147 => absurd c147 (by decide)) (fun c147 => ?_)
        refine ev_aload_n dX9_merge_150 rfl ?_
        refine ev_getR dX9_merge_151 fX9_41 hM.m hM.R_file ?_
        refine ev_iload dX9_merge_154 rfl ?_
        refine ev_iconst (-1) dX9_merge_156 (by decide) ?_
        refine ev_iast dX9_merge_157 hM.K_file hM.L_file (by decide) (by omega) ?_
        refine ev_iincNS (b := 1) dX9_merge_158 rfl (by decide) (by decide) rfl ?_
        refine ev_goto 213 dX9_merge_161 (by decide) ?_
        refine ev_iincNS (b := 1) dX9_merge_213 rfl (by decide) (by decide) rfl ?_
        refine ev_goto 19 dX9_merge_216 (by decide) ?_
        exact hgo
      · rw [if_neg hnd] at hR
        rw [show (ps1 || (decide (A0 19 e ≤ h) && decide (A0 20 e = 0) && decide (to = 2))) = false by cases hz : (ps1 || (decide (A0 19 e ≤ h) && decide (A0 20 e = 0) && decide (to = 2))) with | true => exact absurd hz hnd | false => rfl]
        show Ev X mX9_merge (d + 1) 145 [some (rV (some 11)), some (iV to), some (iV h), some (iV (nI out)), some (iV (nI ins)), some (iV (oI fm)), some (iV (bZ (ps1 || decide (A0 19 e ≤ h)))), some (iV (nI (pre.length))), some (iV (nI e)), _, some (iV (nI 0))] [] (K, I, J, R, A, B, Ln, n, sl) Q
        have hnew : ∀ (w4 w5 w9 w10 : Option LV), (mgF (plI (A0 16) (A0 17) (A0 18)) (A0 19) (A0 20) h (decide (to = 2)) md lr.reverse none false none 0 0) = (asg ++ ((e, nI (md + (c + 1))) :: (mgF (plI (A0 16) (A0 17) (A0 18)) (A0 19) (A0 20) h (decide (to = 2)) md r (some e) (ps1 || decide (A0 19 e ≤ h)) (some e) 1 (c + 1)).1), (mgF (plI (A0 16) (A0 17) (A0 18)) (A0 19) (A0 20) h (decide (to = 2)) md r (some e) (ps1 || decide (A0 19 e ≤ h)) (some e) 1 (c + 1)).2.1, out + (mgF (plI (A0 16) (A0 17) (A0 18)) (A0 19) (A0 20) h (decide (to = 2)) md r (some e) (ps1 || decide (A0 19 e ≤ h)) (some e) 1 (c + 1)).2.2) → Ev X mX9_merge (d + 1) 187 [some (rV (some 11)), some (iV to), some (iV h), some (iV (nI out)), w4, w5, some (iV (bZ (ps1 || decide (A0 19 e ≤ h)))), some (iV (nI (pre.length))), some (iV (nI e)), w9, w10] [] (K, I, J, R, A, B, Ln, n, sl) Q := by
          intro w4 w5 w9 w10 hR'
          refine ev_aload_n dX9_merge_187 rfl ?_
          refine ev_iload_n dX9_merge_188 rfl ?_
          refine ev_callV dX9_merge_189 okX9_addFile inX9_addFile seX9_addFile mlX9_170 hM.m (by decide) rfl [iV _] rfl rfl (Nat.le_of_ble_eq_true rfl) (Nat.le_of_ble_eq_true rfl) (sp_addFile hM hg.2.2.2.2.1 hg.2.2.2.2.2.1 (by omega)) (fun r_ G_ h_ => ?_)
          obtain ⟨rfl, rfl⟩ := h_
          try dsimp only [Option.toList, List.cons_append, List.nil_append]
          refine ev_iconstN 0 dX9_merge_192 (by decide) ?_
          refine ev_istoreS dX9_merge_193 (by decide) rfl ?_
          exact k195 0 (c + 1) _ _ _ _ _ (by omega) (by omega) hg.file hR'
        cases fm with
        | none =>
          rw [if_pos (by rfl)] at hR
          refine ev_iload dX9_merge_145 rfl ?_
          refine ev_if_eqN 164 dX9_merge_147 (by decide) (by omega) (fun c147 => ?_) (fun c147 => absurd c147 (by decide))
          refine ev_iload dX9_merge_164 rfl ?_
          refine ev_if_lt 187 dX9_merge_166 (by decide) (fun c166 => ?_) (fun c166 => absurd c166 (by decide))
          exact hnew _ _ _ _ hR
        | some a =>
          have ha : a < 520 := hlt a (hfm a rfl)
          show Ev X mX9_merge (d + 1) 145 [some (rV (some 11)), some (iV to), some (iV h), some (iV (nI out)), some (iV (nI ins)), some (iV (nI a)), some (iV (bZ (ps1 || decide (A0 19 e ≤ h)))), some (iV (nI (pre.length))), some (iV (nI e)), _, some (iV (nI 0))] [] (K, I, J, R, A, B, Ln, n, sl) Q
          have hpla := sp_places (X := X) (d := d) (I := I) (J := J) (A := A) (B := B) (n := n) (sl := sl) (a := a) (b := e) hM ha he
          rw [r16, r17, r18] at hpla
          by_cases hall : (12 ≤ ins ∧ ¬ plI (A0 16) (A0 17) (A0 18) a e = 0)
          · rw [if_pos (by simp [hall])] at hR
            refine ev_iload dX9_merge_145 rfl ?_
            refine ev_if_eqN 164 dX9_merge_147 (by decide) (by omega) (fun c147 => ?_) (fun c147 => absurd c147 (by decide))
            refine ev_iload dX9_merge_164 rfl ?_
            refine ev_if_ltN 187 dX9_merge_166 (by decide) (by omega) ?_
            refine ev_iload dX9_merge_169 rfl ?_
            refine ev_bipushN 12 dX9_merge_171 (by decide) ?_
            refine ev_icmp_ltN 195 dX9_merge_173 (by decide) (by omega) (by omega) (fun c173 => absurd c173 (by omega)) (fun c173 => ?_)
            refine ev_aload_n dX9_merge_176 rfl ?_
            refine ev_iload dX9_merge_177 rfl ?_
            refine ev_iload dX9_merge_179 rfl ?_
            refine ev_callV dX9_merge_181 okX9_places inX9_places seX9_places mlX9_178 hM.m (by decide) rfl [iV _, iV _] rfl rfl (Nat.le_of_ble_eq_true rfl) (Nat.le_of_ble_eq_true rfl) (hpla) (fun r_ G_ h_ => ?_)
            obtain ⟨rfl, rfl⟩ := h_
            try dsimp only [Option.toList, List.cons_append, List.nil_append]
            refine ev_if_eq 195 dX9_merge_184 (by decide) (fun c184 => absurd c184 hall.2) (fun c184 => ?_)
            exact hnew _ _ _ _ hR
          · rw [if_neg (by simp; intro z; exact Classical.not_not.mp (fun z2 => hall ⟨z, z2⟩))] at hR
            refine ev_iload dX9_merge_145 rfl ?_
            refine ev_if_eqN 164 dX9_merge_147 (by decide) (by omega) (fun c147 => ?_) (fun c147 => absurd c147 (by decide))
            refine ev_iload dX9_merge_164 rfl ?_
            refine ev_if_ltN 187 dX9_merge_166 (by decide) (by omega) ?_
            refine ev_iload dX9_merge_169 rfl ?_
            refine ev_bipushN 12 dX9_merge_171 (by decide) ?_
            refine ev_icmp_ltN 195 dX9_merge_173 (by decide) (by omega) (by omega) (fun c173 => ?_) (fun c173 => ?_)
            · exact k195 ins c _ _ _ _ _ (by omega) hi hg hR
            · refine ev_aload_n dX9_merge_176 rfl ?_
              refine ev_iload dX9_merge_177 rfl ?_
              refine ev_iload dX9_merge_179 rfl ?_
              refine ev_callV dX9_merge_181 okX9_places inX9_places seX9_places mlX9_178 hM.m (by decide) rfl [iV _, iV _] rfl rfl (Nat.le_of_ble_eq_true rfl) (Nat.le_of_ble_eq_true rfl) (hpla) (fun r_ G_ h_ => ?_)
              obtain ⟨rfl, rfl⟩ := h_
              try dsimp only [Option.toList, List.cons_append, List.nil_append]
              refine ev_if_eq 195 dX9_merge_184 (by decide) (fun c184 => ?_) (fun c184 => ?_)
              · exact k195 ins c _ _ _ _ _ (by omega) hi hg hR
              · exact absurd ⟨by omega, c184⟩ hall
    refine ev_iload dX9_merge_19 rfl ?_
    refine ev_aload_n dX9_merge_21 rfl ?_
    refine ev_getIv dX9_merge_22 fX9_188 hM.m h612 ?_
    refine ev_icmp_geN 219 dX9_merge_25 (by decide) (by omega) (by omega) (fun c25 => absurd c25 (by omega)) (fun c25 => ?_)
    exact start
end M20
