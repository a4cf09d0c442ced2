section C98M
variable {X : CX} {d : Nat} {K : Nat → Nat} {I : Nat → Nat → Int32} {J : Nat → Nat → Int64} {R : Nat → Nat → Option Nat} {A : Nat → Nat → Int32} {B : Nat → Nat → Option Nat} {Ln : Nat → Nat} {n sl : Nat} {a m : Nat} {cs fs : List Nat} {s : SA} {many tn la : Nat} {ti : Nat → Nat} {pn : Nat} {px : Nat → Nat} {pe : Nat → EX} {ixn : Nat} {ie : Nat → EX} {rn : Nat} {p : PP}
set_option maxRecDepth 100000 in
set_option maxHeartbeats 4000000 in
theorem say_127 {Q : Option LV → GH → Prop} (hC : CFix K R Ln) (hn : 34 ≤ n) {o q : Nat} {v : Int32} {o1 o2 : Option Nat} {w3 : Option LV} (ho : o ≤ 12) (hq8 : q < 8) (h1 : ∀ a, o1 = some a → K a = 1 ∧ a < n) (h2 : ∀ a, o2 = some a → K a = 1 ∧ a < n) (hq : Q (some (iV (nI 1))) (va_up K n 1, u2 (u2 (u2 (u2 I 64 n (nI o)) 65 n (withV o v)) 68 n (nI 1 + ndO I o1 + ndO I o2)) 513 3 (nI (q + 1)), J, u2 (u2 R 66 n o1) 67 n o2, A, u2 B 4 q (some n), Ln, n + 1, sl + 5)) : Ev X mX8_say (d + 60) 127 [some (rV (some 3)), some (iV (nI o)), some (iV v), w3, some (iV (nI q)), some (rV o1), some (rV o2)] [] (K, I, J, R, A, B, Ln, n, sl) Q := by
  have kn : va_up K n 1 n = 1 := va_up_self _ _ _
  have hK : ∀ i, i < n → (va_up K n 1) i = K i := fun i hi => va_up_ne _ _ (by omega)
  have k4 : (va_up K n 1) 4 = 102 := (hK 4 (by omega)).trans hC.K_pile
  have k3 : (va_up K n 1) 3 = 8 := (hK 3 (by omega)).trans hC.m
  have sc := cs_countsN (X := X) (d := d + 59) (m := o) ho (G := (va_up K n 1, I, J, R, A, B, Ln, n + 1, sl + 5))
  have sn := fun vv => cs_newExpr (X := X) (d := d + 58) (K := va_up K n 1) (I := I) (J := J) (R := R) (A := A) (B := B) (Ln := Ln) (n := n + 1) (sl := sl + 5) (op := nI o) (v := vv) (o1 := o1) (o2 := o2) kn (fun a ha => (hK a (h1 a ha).2).trans (h1 a ha).1) (fun a ha => (hK a (h2 a ha).2).trans (h2 a ha).1)
  by_cases hc : o = 3 ∨ o = 12
  · rw [decide_eq_true hc] at sc
    have sn := sn v
    have ew : withV o v = v := if_pos hc
    rw [ew] at hq
    refine ev_aload_n dX8_say_127 rfl ?_
    refine ev_getR dX8_say_128 fX8_11 hC.m hC.R_pile ?_
    refine ev_iload dX8_say_131 rfl ?_
    refine ev_new dX8_say_133 nwX8_9 ?_
    refine ev_dup dX8_say_136 rfl ?_
    refine ev_iload_n dX8_say_137 rfl ?_
    refine ev_iload_n dX8_say_138 rfl ?_
    refine ev_callS dX8_say_139 okX8_countsN stX8_countsN mlX8_58 [iV _] rfl rfl (Nat.le_of_ble_eq_true rfl) (Nat.le_of_ble_eq_true rfl) (sc) (fun r_ G_ h_ => ?_)
    obtain ⟨rfl, rfl⟩ := h_
    try dsimp only [Option.toList, List.cons_append, List.nil_append]
    refine ev_if_eq 149 dX8_say_142 (by decide) (fun c142 => absurd c142 (by decide)) (fun c142 => ?_)
    refine ev_iload_n dX8_say_145 rfl ?_
    refine ev_goto 150 dX8_say_146 (by decide) ?_
    refine ev_aload dX8_say_150 rfl ?_
    refine ev_aload dX8_say_152 rfl ?_
    refine ev_callI dX8_say_154 okX1_init inX1_init rfl rfl mlX8_61 [iV _, iV _, rV _, rV _] rfl rfl (Nat.le_of_ble_eq_true rfl) (Nat.le_of_ble_eq_true rfl) (sn) (fun r_ G_ h_ => ?_)
    obtain ⟨rfl, rfl⟩ := h_
    try dsimp only [Option.toList, List.cons_append, List.nil_append]
    refine ev_aast (q := 2) dX8_say_157 k4 (by decide) (by decide) hC.L_pile (by decide) (by omega) kn (by decide) (Or.inl rfl) ?_
    refine ev_aload_n dX8_say_158 rfl ?_
    refine ev_iload dX8_say_159 rfl ?_
    refine ev_iconstN 1 dX8_say_161 (by decide) ?_
    refine ev_iaddN dX8_say_162 ?_
    refine ev_putI dX8_say_163 fX8_47 (Or.inl rfl) (Or.inl rfl) k3 ?_
    refine ev_iconstN 1 dX8_say_166 (by decide) ?_
    refine ev_zreturn dX8_say_167 rfl (by decide) ?_
    exact hq
  · rw [decide_eq_false hc] at sc
    have sn := sn (nI 0)
    have ew : withV o v = nI 0 := if_neg hc
    rw [ew] at hq
    refine ev_aload_n dX8_say_127 rfl ?_
    refine ev_getR dX8_say_128 fX8_11 hC.m hC.R_pile ?_
    refine ev_iload dX8_say_131 rfl ?_
    refine ev_new dX8_say_133 nwX8_9 ?_
    refine ev_dup dX8_say_136 rfl ?_
    refine ev_iload_n dX8_say_137 rfl ?_
    refine ev_iload_n dX8_say_138 rfl ?_
    refine ev_callS dX8_say_139 okX8_countsN stX8_countsN mlX8_58 [iV _] rfl rfl (Nat.le_of_ble_eq_true rfl) (Nat.le_of_ble_eq_true rfl) (sc) (fun r_ G_ h_ => ?_)
    obtain ⟨rfl, rfl⟩ := h_
    try dsimp only [Option.toList, List.cons_append, List.nil_append]
    refine ev_if_eq 149 dX8_say_142 (by decide) (fun c142 => ?_) (fun c142 => absurd c142 (fun z => z rfl))
    refine ev_iconstN 0 dX8_say_149 (by decide) ?_
    refine ev_aload dX8_say_150 rfl ?_
    refine ev_aload dX8_say_152 rfl ?_
    refine ev_callI dX8_say_154 okX1_init inX1_init rfl rfl mlX8_61 [iV _, iV _, rV _, rV _] rfl rfl (Nat.le_of_ble_eq_true rfl) (Nat.le_of_ble_eq_true rfl) (sn) (fun r_ G_ h_ => ?_)
    obtain ⟨rfl, rfl⟩ := h_
    try dsimp only [Option.toList, List.cons_append, List.nil_append]
    refine ev_aast (q := 2) dX8_say_157 k4 (by decide) (by decide) hC.L_pile (by decide) (by omega) kn (by decide) (Or.inl rfl) ?_
    refine ev_aload_n dX8_say_158 rfl ?_
    refine ev_iload dX8_say_159 rfl ?_
    refine ev_iconstN 1 dX8_say_161 (by decide) ?_
    refine ev_iaddN dX8_say_162 ?_
    refine ev_putI dX8_say_163 fX8_47 (Or.inl rfl) (Or.inl rfl) k3 ?_
    refine ev_iconstN 1 dX8_say_166 (by decide) ?_
    refine ev_zreturn dX8_say_167 rfl (by decide) ?_
    exact hq
theorem say_sim (h : Sim K I J R A B Ln n a m cs fs s many tn la ti pn px pe ixn ie rn p) {o q : Nat} {v : Int32} {o1 o2 : Option Nat} {e : EX} (hq8 : q < 8) (hqp : q ≤ pn) (hlen : nI 1 + ndO I o1 + ndO I o2 = nI e.length) (hty : tyE e = decide (7 ≤ o)) (he : ∀ K' I' R', (∀ f i e, ExpR K I R f i e → ExpR K' I' R' f i e) → K' n = 1 → I' 64 n = nI o → I' 65 n = withV o v → I' 68 n = nI e.length → R' 66 n = o1 → R' 67 n = o2 → ExpR K' I' R' 16 n e) {r : Option LV} {G' : GH} (hQ : SayQ (va_up K n 1) (u2 (u2 (u2 (u2 I 64 n (nI o)) 65 n (withV o v)) 68 n (nI 1 + ndO I o1 + ndO I o2)) 513 3 (nI (q + 1))) J (u2 (u2 R 66 n o1) 67 n o2) A (u2 B 4 q (some n)) Ln (n + 1) (sl + 5) q o e r G') : r = some (iV (nI 1)) ∧ ∃ K' I' R' A' B' px' pe', G' = (K', I', J, R', A', B', Ln, n + 1, sl + 5) ∧ Sim K' I' J R' A' B' Ln (n + 1) a m cs fs s many tn la ti (q + 1) px' pe' ixn ie rn p := by
  obtain ⟨rfl, A', rfl, a1, a2, a3, a4⟩ := hQ
  have h0 := h
  obtain ⟨hH, hM, hR, hT, ⟨p1, p2, p3, p4⟩, ⟨⟨x1, x2, x3⟩, x4, x5⟩, -⟩ := h
  have hC := hH.1
  have hn := hH.2.2.2.2
  have hK : ∀ i, i < n → (va_up K n 1) i = K i := fun i hi => va_up_ne _ _ (by omega)
  have hI : ∀ f i, i ≠ n → ¬ (i = 3 ∧ f = 513) → ¬ (i = 11 ∧ f = 576) → u2 (u2 (u2 (u2 (u2 I 64 n (nI o)) 65 n (withV o v)) 68 n (nI 1 + ndO I o1 + ndO I o2)) 513 3 (nI (q + 1))) 576 11 (nI (q + 1)) f i = I f i := fun f i b1 b2 b3 => by
    rw [show u2 (u2 (u2 (u2 (u2 I 64 n (nI o)) 65 n (withV o v)) 68 n (nI 1 + ndO I o1 + ndO I o2)) 513 3 (nI (q + 1))) 576 11 (nI (q + 1)) f i = (u2 (u2 (u2 I 64 n (nI o)) 65 n (withV o v)) 68 n (nI 1 + ndO I o1 + ndO I o2)) f i by unfold u2; rw [if_neg (fun z => b3 ⟨z.2, z.1⟩), if_neg (fun z => b2 ⟨z.2, z.1⟩)], u2_ne2 b1, u2_ne2 b1, u2_ne2 b1]
  have hIn : ∀ f, u2 (u2 (u2 (u2 (u2 I 64 n (nI o)) 65 n (withV o v)) 68 n (nI 1 + ndO I o1 + ndO I o2)) 513 3 (nI (q + 1))) 576 11 (nI (q + 1)) f n = (u2 (u2 (u2 I 64 n (nI o)) 65 n (withV o v)) 68 n (nI 1 + ndO I o1 + ndO I o2)) f n := fun f => by rw [u2_ne2 (by omega), u2_ne2 (by omega)]
  have hRR : ∀ f i, i ≠ n → (u2 (u2 R 66 n o1) 67 n o2) f i = R f i := fun f i hi => by rw [u2_ne2 hi, u2_ne2 hi]
  have hex : ∀ f i e, ExpR K I R f i e → ExpR (va_up K n 1) (u2 (u2 (u2 (u2 (u2 I 64 n (nI o)) 65 n (withV o v)) 68 n (nI 1 + ndO I o1 + ndO I o2)) 513 3 (nI (q + 1))) 576 11 (nI (q + 1))) (u2 (u2 R 66 n o1) 67 n o2) f i e := fun f i e hx => hx.congr (fun i hi => by
    have hin : i < n := by
      by_cases z : i < n
      · exact z
      · have := hH.2.2.2.1 i (by omega); omega
    exact ⟨(hK i hin).trans hi, fun f => hI f i (by omega) (fun z => by rw [z.1, hC.m] at hi; omega) (fun z => by rw [z.1, hM.1] at hi; omega), fun f => hRR f i (by omega)⟩)
  have hnew := he (va_up K n 1) (u2 (u2 (u2 (u2 (u2 I 64 n (nI o)) 65 n (withV o v)) 68 n (nI 1 + ndO I o1 + ndO I o2)) 513 3 (nI (q + 1))) 576 11 (nI (q + 1))) (u2 (u2 R 66 n o1) 67 n o2) hex (va_up_self _ _ _) (by rw [hIn, u2_ne1 (by decide), u2_ne1 (by decide)]; exact u2_self) (by rw [hIn, u2_ne1 (by decide)]; exact u2_self) (by rw [hIn, u2_self]; exact hlen) (by rw [u2_ne1 (by decide)]; exact u2_self) u2_self
  have keep : ∀ {x : Nat} {e : EX}, x ≠ q → x < 11 → ExA A x e → ExA A' x e := fun {x e} hx hx11 hxe => by
    obtain ⟨s1, s2, s3⟩ := a4 x hx hx11
    exact hxe.keep s1 s3
  refine ⟨rfl, _, _, _, A', _, (fun j => if j = q then n else px j), (fun j => if j = q then e else pe j), rfl, h0.pix (by omega) hK (fun f i hi b1 b2 => hI f i (by omega) (fun z => b1 ⟨z.1, Or.inl z.2⟩) (fun z => b2 ⟨z.1, Or.inl z.2⟩)) (fun f i hi => hRR f i (by omega)) (fun i _ b4 _ => u2_row' b4) (fun i b1 b2 b3 b4 => a1 i (by simp; omega)) (fun i hi => ?_) (fun i hi => by rw [va_up_ne _ _ (by omega)]; exact hH.2.2.2.1 i (by omega)) ⟨?_, u2_self, by omega, fun j hj => ?_⟩ ⟨⟨?_, x2, fun i hi => ?_⟩, ?_, fun i hi => keep (by omega) (by omega) (x5 i hi)⟩⟩
  · obtain ⟨y1, y2, y3, y4, y5⟩ := hH.2.2.1 i (by omega)
    exact ⟨fun f => by rw [hI f i (by omega) (by omega) (by omega)]; exact y1 f, y2, fun f => by rw [hRR f i (by omega)]; exact y3 f, fun j => by rw [a1 i (by simp; omega)]; exact y4 j, fun j => by rw [u2_row' (by omega)]; exact y5 j⟩
  · rw [u2_ne1 (by decide)]; exact u2_self
  · show u2 B 4 q (some n) 4 j = some (if j = q then n else px j) ∧ ExpR _ _ _ 16 (if j = q then n else px j) (if j = q then e else pe j) ∧ ExA A' j (if j = q then e else pe j) ∧ A' 15 j = bZ (tyE (if j = q then e else pe j))
    by_cases hjq : j = q
    · rw [if_pos hjq, if_pos hjq, hjq]
      exact ⟨u2_self, hnew, a2, by rw [hty]; exact a3⟩
    · rw [if_neg hjq, if_neg hjq]
      obtain ⟨y1, y2, y3, y4⟩ := p4 j (by omega)
      obtain ⟨s1, s2, s3⟩ := a4 j hjq (by omega)
      exact ⟨by rw [u2_ne2 hjq]; exact y1, hex _ _ _ y2, keep hjq (by omega) y3, s2.trans y4⟩
  · rw [hI _ _ (by omega) (by omega) (by omega)]; exact x1
  · obtain ⟨x, y1, y2, y3⟩ := x3 i hi
    exact ⟨x, by rw [u2_row' (by decide)]; exact y1, hex _ _ _ y2, y3⟩
  · rw [hI _ _ (by omega) (by omega) (by omega)]; exact x4
set_option maxRecDepth 100000 in
set_option maxHeartbeats 4000000 in
theorem op_say (h : Sim K I J R A B Ln n a m cs fs s many tn la ti pn px pe ixn ie rn p) (x v : Int32) {P : GH → Prop} (hP0 : P (K, I, J, R, A, B, Ln, n, sl)) (hP : ∀ K' I' R' A' B' pn' px' pe', Sim K' I' J R' A' B' Ln (n + 1) a m cs fs s many tn la ti pn' px' pe' ixn ie rn p → P (K', I', J, R', A', B', Ln, n + 1, sl + 5)) : EvM X mX8_say (d + 60) [rV (some 3), iV x, iV v] (K, I, J, R, A, B, Ln, n, sl) (fun r1 G1 => G1.1 11 = 9 ∧ EvM X mX9_say (d + 60) [rV (some 11), iV x, iV v] G1 (fun r2 G2 => r2 = r1 ∧ P G2)) := by
  have h0 := h
  obtain ⟨hH, hM, hR, hT, ⟨p1, p2, p3, p4⟩, hX, -⟩ := h
  have hC := hH.1
  have hn := hH.2.2.2.2
  have fno : EvM X mX9_say (d + 60) [rV (some 11), iV x, iV v] (K, I, J, R, A, B, Ln, n, sl) (fun r G' => r = some (iV 0) ∧ G' = (K, I, J, R, A, B, Ln, n, sl)) → EvM X mX9_say (d + 60) [rV (some 11), iV x, iV v] (K, I, J, R, A, B, Ln, n, sl) (fun r2 G2 => r2 = some (iV (nI 0)) ∧ P G2) := fun hz => hz.mono (fun r G' ⟨h1, h2⟩ => ⟨h1, by rw [h2]; exact hP0⟩)
  show Ev X mX8_say (d + 60) 0 [some (rV (some 3)), some (iV x), some (iV v), none, none, none, none] [] (K, I, J, R, A, B, Ln, n, sl) _
  rcases i4_cases x (k := 13) (by decide) with ⟨o, ho, rfl⟩ | hx
  · have sn := cs_isName (X := X) (d := d + 59) (x := v) (G := (K, I, J, R, A, B, Ln, n, sl))
    by_cases hbad : o = 12 ∧ nmB v = 0
    · have fno := fno (sp_say_a (d := d + 59) hM (Or.inr (Or.inr ⟨by rw [hbad.1]; rfl, hbad.2⟩)))
      rw [hbad.2] at sn
      refine ev_iload_n dX8_say_0 rfl ?_
      refine ev_if_ltN 23 dX8_say_1 (by decide) (by omega) ?_
      refine ev_iload_n dX8_say_4 rfl ?_
      refine ev_bipushN 12 dX8_say_5 (by decide) ?_
      refine ev_icmp_gtN 23 dX8_say_7 (by decide) (by omega) (by omega) (fun c7 => absurd c7 (by omega)) (fun c7 => ?_)
      refine ev_iload_n dX8_say_10 rfl ?_
      refine ev_bipushN 12 dX8_say_11 (by decide) ?_
      refine ev_icmp_neN 25 dX8_say_13 (by decide) (by omega) (by omega) (fun c13 => absurd c13 (fun z => z hbad.1)) (fun c13 => ?_)
      refine ev_iload_n dX8_say_16 rfl ?_
      refine ev_callS dX8_say_17 okX8_isName stX8_isName mlX8_39 [iV _] rfl rfl (Nat.le_of_ble_eq_true rfl) (Nat.le_of_ble_eq_true rfl) (sn) (fun r_ G_ h_ => ?_)
      obtain ⟨rfl, rfl⟩ := h_
      try dsimp only [Option.toList, List.cons_append, List.nil_append]
      refine ev_if_ne 25 dX8_say_20 (by decide) (fun c20 => absurd c20 (fun z => z rfl)) (fun c20 => ?_)
      refine ev_iconstN 0 dX8_say_23 (by decide) ?_
      refine ev_zreturn dX8_say_24 rfl (by decide) ?_
      refine ⟨by first | exact hM.1 | exact h_.1 | exact hM1.1 | exact (hq2.2.1 11 (by omega)).1.trans hM1.1 | exact (y2.2.1 11 (by omega)).1.trans hM.1 | exact (q1.2 11 (by omega)).1.trans hM.1 | exact (va_up_ne _ _ (by omega)).trans hM.1 | exact (va_up_ne _ _ (by omega)).trans ((va_up_ne _ _ (by omega)).trans ((va_up_ne _ _ (by omega)).trans hM.1)), ?_⟩
      exact fno
    · have hnm : o = 12 → nmB v = 1 := fun z => (nmB_01 v).resolve_left (fun y => hbad ⟨z, y⟩)
      have sp := cs_partsOf (X := X) (d := d + 59) (m := o) (by omega) (G := (K, I, J, R, A, B, Ln, n, sl))
      have go25 : ∀ Q : Option LV → GH → Prop, Ev X mX8_say (d + 60) 25 [some (rV (some 3)), some (iV (nI o)), some (iV v), none, none, none, none] [] (K, I, J, R, A, B, Ln, n, sl) Q → Ev X mX8_say (d + 60) 0 [some (rV (some 3)), some (iV (nI o)), some (iV v), none, none, none, none] [] (K, I, J, R, A, B, Ln, n, sl) Q := by
        intro Q hk
        by_cases h12 : o = 12
        · rw [hnm h12] at sn
          refine ev_iload_n dX8_say_0 rfl ?_
          refine ev_if_ltN 23 dX8_say_1 (by decide) (by omega) ?_
          refine ev_iload_n dX8_say_4 rfl ?_
          refine ev_bipushN 12 dX8_say_5 (by decide) ?_
          refine ev_icmp_gtN 23 dX8_say_7 (by decide) (by omega) (by omega) (fun c7 => absurd c7 (by omega)) (fun c7 => ?_)
          refine ev_iload_n dX8_say_10 rfl ?_
          refine ev_bipushN 12 dX8_say_11 (by decide) ?_
          refine ev_icmp_neN 25 dX8_say_13 (by decide) (by omega) (by omega) (fun c13 => absurd c13 (fun z => z h12)) (fun c13 => ?_)
          refine ev_iload_n dX8_say_16 rfl ?_
          refine ev_callS dX8_say_17 okX8_isName stX8_isName mlX8_39 [iV _] rfl rfl (Nat.le_of_ble_eq_true rfl) (Nat.le_of_ble_eq_true rfl) (sn) (fun r_ G_ h_ => ?_)
          obtain ⟨rfl, rfl⟩ := h_
          try dsimp only [Option.toList, List.cons_append, List.nil_append]
          refine ev_if_ne 25 dX8_say_20 (by decide) (fun c20 => ?_) (fun c20 => absurd c20 (by decide))
          exact hk
        · skip
          refine ev_iload_n dX8_say_0 rfl ?_
          refine ev_if_ltN 23 dX8_say_1 (by decide) (by omega) ?_
          refine ev_iload_n dX8_say_4 rfl ?_
          refine ev_bipushN 12 dX8_say_5 (by decide) ?_
          refine ev_icmp_gtN 23 dX8_say_7 (by decide) (by omega) (by omega) (fun c7 => absurd c7 (by omega)) (fun c7 => ?_)
          refine ev_iload_n dX8_say_10 rfl ?_
          refine ev_bipushN 12 dX8_say_11 (by decide) ?_
          refine ev_icmp_neN 25 dX8_say_13 (by decide) (by omega) (by omega) (fun c13 => ?_) (fun c13 => absurd c13 h12)
          exact hk
      refine go25 _ ?_
      by_cases hlt : pn < needM o
      · have fno := fno (sp_say_b (d := d + 59) hM (by omega) hnm p2 p3 hlt)
        have hle := needM_le o
        have hneg : nI pn - nI (needM o) < 0 := by
          rcases (show (pn = 0 ∧ needM o = 1) ∨ (pn = 0 ∧ needM o = 2) ∨ (pn = 1 ∧ needM o = 2) by omega) with ⟨z1, z2⟩ | ⟨z1, z2⟩ | ⟨z1, z2⟩ <;> rw [z1, z2] <;> decide
        refine ev_iload_n dX8_say_25 rfl ?_
        refine ev_callS dX8_say_26 okX8_partsOf stX8_partsOf mlX8_43 [iV _] rfl rfl (Nat.le_of_ble_eq_true rfl) (Nat.le_of_ble_eq_true rfl) (sp) (fun r_ G_ h_ => ?_)
        obtain ⟨rfl, rfl⟩ := h_
        try dsimp only [Option.toList, List.cons_append, List.nil_append]
        refine ev_istore_nS dX8_say_29 (by decide) rfl ?_
        refine ev_aload_n dX8_say_30 rfl ?_
        refine ev_getIv dX8_say_31 fX8_47 hC.m p1 ?_
        refine ev_iload_n dX8_say_34 rfl ?_
        refine ev_isub dX8_say_35 ?_
        refine ev_istoreS dX8_say_36 (by decide) rfl ?_
        refine ev_iload dX8_say_38 rfl ?_
        refine ev_if_lt 50 dX8_say_40 (by decide) (fun c40 => ?_) (fun c40 => absurd hneg c40)
        refine ev_iconstN 0 dX8_say_50 (by decide) ?_
        refine ev_zreturn dX8_say_51 rfl (by decide) ?_
        refine ⟨by first | exact hM.1 | exact h_.1 | exact hM1.1 | exact (hq2.2.1 11 (by omega)).1.trans hM1.1 | exact (y2.2.1 11 (by omega)).1.trans hM.1 | exact (q1.2 11 (by omega)).1.trans hM.1 | exact (va_up_ne _ _ (by omega)).trans hM.1 | exact (va_up_ne _ _ (by omega)).trans ((va_up_ne _ _ (by omega)).trans ((va_up_ne _ _ (by omega)).trans hM.1)), ?_⟩
        exact fno
      · obtain ⟨q, hq⟩ : ∃ q, pn = q + needM o := ⟨pn - needM o, by omega⟩
        by_cases h8 : 8 ≤ q
        · have hn0 : needM o = 0 := by omega
          have hp8 : pn = 8 := by omega
          have fno := fno (sp_say_c (d := d + 59) hM (by omega) hnm hn0 (by rw [p2, hp8]))
          rw [hn0] at sp
          rw [hp8] at p1
          refine ev_iload_n dX8_say_25 rfl ?_
          refine ev_callS dX8_say_26 okX8_partsOf stX8_partsOf mlX8_43 [iV _] rfl rfl (Nat.le_of_ble_eq_true rfl) (Nat.le_of_ble_eq_true rfl) (sp) (fun r_ G_ h_ => ?_)
          obtain ⟨rfl, rfl⟩ := h_
          try dsimp only [Option.toList, List.cons_append, List.nil_append]
          refine ev_istore_nS dX8_say_29 (by decide) rfl ?_
          refine ev_aload_n dX8_say_30 rfl ?_
          refine ev_getIv dX8_say_31 fX8_47 hC.m p1 ?_
          refine ev_iload_n dX8_say_34 rfl ?_
          refine ev_isubN dX8_say_35 (by omega) ?_
          refine ev_istoreS dX8_say_36 (by decide) rfl ?_
          refine ev_iload dX8_say_38 rfl ?_
          refine ev_if_ltN 50 dX8_say_40 (by decide) (by omega) ?_
          refine ev_iload dX8_say_43 rfl ?_
          refine ev_bipushN 8 dX8_say_45 (by decide) ?_
          refine ev_icmp_ltN 52 dX8_say_47 (by decide) (by omega) (by omega) (fun c47 => absurd c47 (by omega)) (fun c47 => ?_)
          refine ev_iconstN 0 dX8_say_50 (by decide) ?_
          refine ev_zreturn dX8_say_51 rfl (by decide) ?_
          refine ⟨by first | exact hM.1 | exact h_.1 | exact hM1.1 | exact (hq2.2.1 11 (by omega)).1.trans hM1.1 | exact (y2.2.1 11 (by omega)).1.trans hM.1 | exact (q1.2 11 (by omega)).1.trans hM.1 | exact (va_up_ne _ _ (by omega)).trans hM.1 | exact (va_up_ne _ _ (by omega)).trans ((va_up_ne _ _ (by omega)).trans ((va_up_ne _ _ (by omega)).trans hM.1)), ?_⟩
          exact fno
        · have hn2 := needM_le o
          rcases (show needM o = 0 ∨ needM o = 1 ∨ needM o = 2 by omega) with hn0 | hn1 | hn2
          · rw [hn0] at sp hq
            have hq' : pn = q := by omega
            subst hq'
            have hlf := need_leaf hn0
            have hlfx : o ≤ 3 ∨ (o = 12 ∧ ∃ w, w < 2147483648 ∧ isNmN w ∧ withV o v = nI w) := by
              rcases hlf with z | z
              · exact Or.inl (by omega)
              · refine Or.inr ⟨z, ?_⟩
                have hv1 := hnm z
                have hv0 : ¬ v < 0 := fun y => by rw [nmB_neg y] at hv1; cases hv1
                obtain ⟨w, w1, rfl⟩ := nI_of hv0
                refine ⟨w, w1, ?_, if_pos (Or.inr z)⟩
                by_cases y : isNmN w
                · exact y
                · rw [nmB_no w1 y] at hv1; cases hv1
            have sf := cs_fits0 (X := X) (d := d + 58) (m := o) (G := (K, I, J, R, A, B, Ln, n, sl))
            have s0 := cs_nodes0 (X := X) (d := d + 59) (G := (K, I, J, R, A, B, Ln, n, sl))
            have fin : Ev X mX8_say (d + 60) 127 [some (rV (some 3)), some (iV (nI o)), some (iV v), some (iV (nI 0)), some (iV (nI pn)), some (rV none), some (rV none)] [] (K, I, J, R, A, B, Ln, n, sl) (fun r1 G1 => G1.1 11 = 9 ∧ EvM X mX9_say (d + 60) [rV (some 11), iV (nI o), iV v] G1 (fun r2 G2 => r2 = r1 ∧ P G2)) := by
              refine say_127 hC hn (by omega) (by omega) (fun a ha => by cases ha) (fun a ha => by cases ha) ?_
              refine ⟨by first | exact hM.1 | exact h_.1 | exact hM1.1 | exact (hq2.2.1 11 (by omega)).1.trans hM1.1 | exact (y2.2.1 11 (by omega)).1.trans hM.1 | exact (q1.2 11 (by omega)).1.trans hM.1 | exact (va_up_ne _ _ (by omega)).trans hM.1 | exact (va_up_ne _ _ (by omega)).trans ((va_up_ne _ _ (by omega)).trans ((va_up_ne _ _ (by omega)).trans hM.1)), ?_⟩
              refine (sp_say0 (d := d + 59) (hM.of (fun i hi => va_up_ne _ _ (by omega)) (fun _ _ => rfl) (fun f => by rw [u2_ne2 (by omega), u2_ne2 (by omega)])) (by omega) hnm hn0 (by rw [u2_ne2 (by decide), u2_ne2 (by omega), u2_ne2 (by omega), u2_ne2 (by omega)]; exact p2) (by omega)).mono (fun r G' hQ => ?_)
              obtain ⟨e1, K', I', R', A', B', px', pe', rfl, e3⟩ := say_sim h0 (by omega) (Nat.le_refl _) (by rfl) (show tyE ([] ++ [(o, withV o v)]) = _ from tyE_snoc) (fun K' I' R' _ k1 k2 k3 k4 k5 k6 => ⟨o, withV o v, [], [], rfl, k1, k2, k3, k4, Or.inl ⟨hlfx, rfl, rfl, k5, k6⟩⟩) hQ
              exact ⟨e1, hP _ _ _ _ _ _ _ _ e3⟩
            refine ev_iload_n dX8_say_25 rfl ?_
            refine ev_callS dX8_say_26 okX8_partsOf stX8_partsOf mlX8_43 [iV _] rfl rfl (Nat.le_of_ble_eq_true rfl) (Nat.le_of_ble_eq_true rfl) (sp) (fun r_ G_ h_ => ?_)
            obtain ⟨rfl, rfl⟩ := h_
            try dsimp only [Option.toList, List.cons_append, List.nil_append]
            refine ev_istore_nS dX8_say_29 (by decide) rfl ?_
            refine ev_aload_n dX8_say_30 rfl ?_
            refine ev_getIv dX8_say_31 fX8_47 hC.m p1 ?_
            refine ev_iload_n dX8_say_34 rfl ?_
            refine ev_isubN dX8_say_35 (by omega) ?_
            refine ev_istoreS dX8_say_36 (by decide) rfl ?_
            refine ev_iload dX8_say_38 rfl ?_
            refine ev_if_ltN 50 dX8_say_40 (by decide) (by omega) ?_
            refine ev_iload dX8_say_43 rfl ?_
            refine ev_bipushN 8 dX8_say_45 (by decide) ?_
            refine ev_icmp_ltN 52 dX8_say_47 (by decide) (by omega) (by omega) (fun c47 => ?_) (fun c47 => absurd c47 (by omega))
            refine ev_iload_n dX8_say_52 rfl ?_
            refine ev_if_neN 60 dX8_say_53 (by decide) (by omega) (fun c53 => absurd c53 (by decide)) (fun c53 => ?_)
            refine ev_null dX8_say_56 ?_
            refine ev_goto 67 dX8_say_57 (by decide) ?_
            refine ev_astoreS dX8_say_67 (by decide) rfl ?_
            refine ev_iload_n dX8_say_69 rfl ?_
            refine ev_iconstN 2 dX8_say_70 (by decide) ?_
            refine ev_icmp_neN 86 dX8_say_71 (by decide) (by omega) (by omega) (fun c71 => ?_) (fun c71 => absurd c71 (by decide))
            refine ev_null dX8_say_86 ?_
            refine ev_astoreS dX8_say_87 (by decide) rfl ?_
            refine ev_iload_n dX8_say_89 rfl ?_
            refine ev_aload dX8_say_90 rfl ?_
            refine ev_callS dX8_say_92 okX8_fits stX8_fits mlX8_50 [iV _, rV _] rfl rfl (Nat.le_of_ble_eq_true rfl) (Nat.le_of_ble_eq_true rfl) (sf) (fun r_ G_ h_ => ?_)
            obtain ⟨rfl, rfl⟩ := h_
            try dsimp only [Option.toList, List.cons_append, List.nil_append]
            refine ev_if_eq 125 dX8_say_95 (by decide) (fun c95 => absurd c95 (by decide)) (fun c95 => ?_)
            refine ev_iload_n dX8_say_98 rfl ?_
            refine ev_aload dX8_say_99 rfl ?_
            refine ev_callS dX8_say_101 okX8_fits stX8_fits mlX8_50 [iV _, rV _] rfl rfl (Nat.le_of_ble_eq_true rfl) (Nat.le_of_ble_eq_true rfl) (sf) (fun r_ G_ h_ => ?_)
            obtain ⟨rfl, rfl⟩ := h_
            try dsimp only [Option.toList, List.cons_append, List.nil_append]
            refine ev_if_eq 125 dX8_say_104 (by decide) (fun c104 => absurd c104 (by decide)) (fun c104 => ?_)
            refine ev_iconstN 1 dX8_say_107 (by decide) ?_
            refine ev_aload dX8_say_108 rfl ?_
            refine ev_callS dX8_say_110 okX1_nodesOf stX1_nodesOf mlX8_54 [rV _] rfl rfl (Nat.le_of_ble_eq_true rfl) (Nat.le_of_ble_eq_true rfl) (s0) (fun r_ G_ h_ => ?_)
            obtain ⟨rfl, rfl⟩ := h_
            try dsimp only [Option.toList, List.cons_append, List.nil_append]
            refine ev_iaddN dX8_say_113 ?_
            refine ev_aload dX8_say_114 rfl ?_
            refine ev_callS dX8_say_116 okX1_nodesOf stX1_nodesOf mlX8_54 [rV _] rfl rfl (Nat.le_of_ble_eq_true rfl) (Nat.le_of_ble_eq_true rfl) (s0) (fun r_ G_ h_ => ?_)
            obtain ⟨rfl, rfl⟩ := h_
            try dsimp only [Option.toList, List.cons_append, List.nil_append]
            refine ev_iaddN dX8_say_119 ?_
            refine ev_bipushN 15 dX8_say_120 (by decide) ?_
            refine ev_icmp_leN 127 dX8_say_122 (by decide) (by omega) (by omega) (fun c122 => ?_) (fun c122 => absurd c122 (by decide))
            exact fin
          · have h11 := need_one hn1
            subst h11
            rw [hn1] at sp hq
            subst hq
            obtain ⟨z1, z2, z3, z4⟩ := p4 q (by omega)
            obtain ⟨op, o1, o2, o3, o4, o5⟩ := z2.ty
            have zl := z3.2.1
            have hzn : px q < n := by
              by_cases z : px q < n
              · exact z
              · have := hH.2.2.2.1 (px q) (by omega); omega
            have sf := cs_fits1 (X := X) (d := d + 58) (J := J) (R := R) (A := A) (B := B) (Ln := Ln) (n := n) (sl := sl) (m := 11) (by decide) o2 o3 o1
            rw [← o4, show decide (9 ≤ 11 ∧ 11 ≤ 11) = true from rfl] at sf
            have sf0 := cs_fits0 (X := X) (d := d + 58) (m := 11) (G := (K, I, J, R, A, B, Ln, n, sl))
            have s0 := cs_nodes0 (X := X) (d := d + 59) (G := (K, I, J, R, A, B, Ln, n, sl))
            have s1 := cs_nodes1 (X := X) (d := d + 59) (I := I) (J := J) (R := R) (A := A) (B := B) (Ln := Ln) (n := n) (sl := sl) o2
            rw [o5] at s1
            cases ht : tyE (pe q) with
            | false =>
              rw [ht] at sf z4
              have fno := fno (sp_say_d1 (d := d + 59) hM p2 (by omega) (by rw [z4]; decide))
              refine ev_iload_n dX8_say_25 rfl ?_
              refine ev_callS dX8_say_26 okX8_partsOf stX8_partsOf mlX8_43 [iV _] rfl rfl (Nat.le_of_ble_eq_true rfl) (Nat.le_of_ble_eq_true rfl) (sp) (fun r_ G_ h_ => ?_)
              obtain ⟨rfl, rfl⟩ := h_
              try dsimp only [Option.toList, List.cons_append, List.nil_append]
              refine ev_istore_nS dX8_say_29 (by decide) rfl ?_
              refine ev_aload_n dX8_say_30 rfl ?_
              refine ev_getIv dX8_say_31 fX8_47 hC.m p1 ?_
              refine ev_iload_n dX8_say_34 rfl ?_
              refine ev_isubN dX8_say_35 (by omega) ?_
              refine ev_istoreS dX8_say_36 (by decide) rfl ?_
              refine ev_iload dX8_say_38 rfl ?_
              refine ev_if_ltN 50 dX8_say_40 (by decide) (by omega) ?_
              refine ev_iload dX8_say_43 rfl ?_
              refine ev_bipushN 8 dX8_say_45 (by decide) ?_
              refine ev_icmp_ltN 52 dX8_say_47 (by decide) (by omega) (by omega) (fun c47 => ?_) (fun c47 => absurd c47 (by omega))
              refine ev_iload_n dX8_say_52 rfl ?_
              refine ev_if_neN 60 dX8_say_53 (by decide) (by omega) (fun c53 => ?_) (fun c53 => absurd c53 (by decide))
              refine ev_aload_n dX8_say_60 rfl ?_
              refine ev_getR dX8_say_61 fX8_11 hC.m hC.R_pile ?_
              refine ev_iload dX8_say_64 rfl ?_
              refine ev_aald (q := 2) dX8_say_66 hC.K_pile (by decide) (by decide) hC.L_pile (by decide) (by omega) z1 ?_
              refine ev_astoreS dX8_say_67 (by decide) rfl ?_
              refine ev_iload_n dX8_say_69 rfl ?_
              refine ev_iconstN 2 dX8_say_70 (by decide) ?_
              refine ev_icmp_neN 86 dX8_say_71 (by decide) (by omega) (by omega) (fun c71 => ?_) (fun c71 => absurd c71 (by decide))
              refine ev_null dX8_say_86 ?_
              refine ev_astoreS dX8_say_87 (by decide) rfl ?_
              refine ev_iload_n dX8_say_89 rfl ?_
              refine ev_aload dX8_say_90 rfl ?_
              refine ev_callS dX8_say_92 okX8_fits stX8_fits mlX8_50 [iV _, rV _] rfl rfl (Nat.le_of_ble_eq_true rfl) (Nat.le_of_ble_eq_true rfl) (sf) (fun r_ G_ h_ => ?_)
              obtain ⟨rfl, rfl⟩ := h_
              try dsimp only [Option.toList, List.cons_append, List.nil_append]
              refine ev_if_eq 125 dX8_say_95 (by decide) (fun c95 => ?_) (fun c95 => absurd c95 (fun z => z rfl))
              refine ev_iconstN 0 dX8_say_125 (by decide) ?_
              refine ev_zreturn dX8_say_126 rfl (by decide) ?_
              refine ⟨by first | exact hM.1 | exact h_.1 | exact hM1.1 | exact (hq2.2.1 11 (by omega)).1.trans hM1.1 | exact (y2.2.1 11 (by omega)).1.trans hM.1 | exact (q1.2 11 (by omega)).1.trans hM.1 | exact (va_up_ne _ _ (by omega)).trans hM.1 | exact (va_up_ne _ _ (by omega)).trans ((va_up_ne _ _ (by omega)).trans ((va_up_ne _ _ (by omega)).trans hM.1)), ?_⟩
              exact fno
            | true =>
              rw [ht] at sf z4
              by_cases hl15 : 15 ≤ (pe q).length
              · have fno := fno (sp_say_d2 (d := d + 59) hM p2 (by omega) z3 z4 hl15)
                refine ev_iload_n dX8_say_25 rfl ?_
                refine ev_callS dX8_say_26 okX8_partsOf stX8_partsOf mlX8_43 [iV _] rfl rfl (Nat.le_of_ble_eq_true rfl) (Nat.le_of_ble_eq_true rfl) (sp) (fun r_ G_ h_ => ?_)
                obtain ⟨rfl, rfl⟩ := h_
                try dsimp only [Option.toList, List.cons_append, List.nil_append]
                refine ev_istore_nS dX8_say_29 (by decide) rfl ?_
                refine ev_aload_n dX8_say_30 rfl ?_
                refine ev_getIv dX8_say_31 fX8_47 hC.m p1 ?_
                refine ev_iload_n dX8_say_34 rfl ?_
                refine ev_isubN dX8_say_35 (by omega) ?_
                refine ev_istoreS dX8_say_36 (by decide) rfl ?_
                refine ev_iload dX8_say_38 rfl ?_
                refine ev_if_ltN 50 dX8_say_40 (by decide) (by omega) ?_
                refine ev_iload dX8_say_43 rfl ?_
                refine ev_bipushN 8 dX8_say_45 (by decide) ?_
                refine ev_icmp_ltN 52 dX8_say_47 (by decide) (by omega) (by omega) (fun c47 => ?_) (fun c47 => absurd c47 (by omega))
                refine ev_iload_n dX8_say_52 rfl ?_
                refine ev_if_neN 60 dX8_say_53 (by decide) (by omega) (fun c53 => ?_) (fun c53 => absurd c53 (by decide))
                refine ev_aload_n dX8_say_60 rfl ?_
                refine ev_getR dX8_say_61 fX8_11 hC.m hC.R_pile ?_
                refine ev_iload dX8_say_64 rfl ?_
                refine ev_aald (q := 2) dX8_say_66 hC.K_pile (by decide) (by decide) hC.L_pile (by decide) (by omega) z1 ?_
                refine ev_astoreS dX8_say_67 (by decide) rfl ?_
                refine ev_iload_n dX8_say_69 rfl ?_
                refine ev_iconstN 2 dX8_say_70 (by decide) ?_
                refine ev_icmp_neN 86 dX8_say_71 (by decide) (by omega) (by omega) (fun c71 => ?_) (fun c71 => absurd c71 (by decide))
                refine ev_null dX8_say_86 ?_
                refine ev_astoreS dX8_say_87 (by decide) rfl ?_
                refine ev_iload_n dX8_say_89 rfl ?_
                refine ev_aload dX8_say_90 rfl ?_
                refine ev_callS dX8_say_92 okX8_fits stX8_fits mlX8_50 [iV _, rV _] rfl rfl (Nat.le_of_ble_eq_true rfl) (Nat.le_of_ble_eq_true rfl) (sf) (fun r_ G_ h_ => ?_)
                obtain ⟨rfl, rfl⟩ := h_
                try dsimp only [Option.toList, List.cons_append, List.nil_append]
                refine ev_if_eq 125 dX8_say_95 (by decide) (fun c95 => absurd c95 (by decide)) (fun c95 => ?_)
                refine ev_iload_n dX8_say_98 rfl ?_
                refine ev_aload dX8_say_99 rfl ?_
                refine ev_callS dX8_say_101 okX8_fits stX8_fits mlX8_50 [iV _, rV _] rfl rfl (Nat.le_of_ble_eq_true rfl) (Nat.le_of_ble_eq_true rfl) (sf0) (fun r_ G_ h_ => ?_)
                obtain ⟨rfl, rfl⟩ := h_
                try dsimp only [Option.toList, List.cons_append, List.nil_append]
                refine ev_if_eq 125 dX8_say_104 (by decide) (fun c104 => absurd c104 (by decide)) (fun c104 => ?_)
                refine ev_iconstN 1 dX8_say_107 (by decide) ?_
                refine ev_aload dX8_say_108 rfl ?_
                refine ev_callS dX8_say_110 okX1_nodesOf stX1_nodesOf mlX8_54 [rV _] rfl rfl (Nat.le_of_ble_eq_true rfl) (Nat.le_of_ble_eq_true rfl) (s1) (fun r_ G_ h_ => ?_)
                obtain ⟨rfl, rfl⟩ := h_
                try dsimp only [Option.toList, List.cons_append, List.nil_append]
                refine ev_iaddN dX8_say_113 ?_
                refine ev_aload dX8_say_114 rfl ?_
                refine ev_callS dX8_say_116 okX1_nodesOf stX1_nodesOf mlX8_54 [rV _] rfl rfl (Nat.le_of_ble_eq_true rfl) (Nat.le_of_ble_eq_true rfl) (s0) (fun r_ G_ h_ => ?_)
                obtain ⟨rfl, rfl⟩ := h_
                try dsimp only [Option.toList, List.cons_append, List.nil_append]
                refine ev_iaddN dX8_say_119 ?_
                refine ev_bipushN 15 dX8_say_120 (by decide) ?_
                refine ev_icmp_leN 127 dX8_say_122 (by decide) (by omega) (by omega) (fun c122 => absurd c122 (by omega)) (fun c122 => ?_)
                refine ev_iconstN 0 dX8_say_125 (by decide) ?_
                refine ev_zreturn dX8_say_126 rfl (by decide) ?_
                refine ⟨by first | exact hM.1 | exact h_.1 | exact hM1.1 | exact (hq2.2.1 11 (by omega)).1.trans hM1.1 | exact (y2.2.1 11 (by omega)).1.trans hM.1 | exact (q1.2 11 (by omega)).1.trans hM.1 | exact (va_up_ne _ _ (by omega)).trans hM.1 | exact (va_up_ne _ _ (by omega)).trans ((va_up_ne _ _ (by omega)).trans ((va_up_ne _ _ (by omega)).trans hM.1)), ?_⟩
                exact fno
              · have fin : Ev X mX8_say (d + 60) 127 [some (rV (some 3)), some (iV (nI 11)), some (iV v), some (iV (nI 1)), some (iV (nI q)), some (rV (some (px q))), some (rV none)] [] (K, I, J, R, A, B, Ln, n, sl) (fun r1 G1 => G1.1 11 = 9 ∧ EvM X mX9_say (d + 60) [rV (some 11), iV (nI 11), iV v] G1 (fun r2 G2 => r2 = r1 ∧ P G2)) := by
                  refine say_127 hC hn (by omega) (by omega) (fun a ha => by cases ha; exact ⟨o2, hzn⟩) (fun a ha => by cases ha) ?_
                  refine ⟨by first | exact hM.1 | exact h_.1 | exact hM1.1 | exact (hq2.2.1 11 (by omega)).1.trans hM1.1 | exact (y2.2.1 11 (by omega)).1.trans hM.1 | exact (q1.2 11 (by omega)).1.trans hM.1 | exact (va_up_ne _ _ (by omega)).trans hM.1 | exact (va_up_ne _ _ (by omega)).trans ((va_up_ne _ _ (by omega)).trans ((va_up_ne _ _ (by omega)).trans hM.1)), ?_⟩
                  refine (sp_say1 (d := d + 59) (hM.of (fun i hi => va_up_ne _ _ (by omega)) (fun _ _ => rfl) (fun f => by rw [u2_ne2 (by omega), u2_ne2 (by omega)])) (by rw [u2_ne2 (by decide), u2_ne2 (by omega), u2_ne2 (by omega), u2_ne2 (by omega)]; exact p2) (by omega) z3 (by omega) z4).mono (fun r G' hQ => ?_)
                  obtain ⟨e1, K', I', R', A', B', px', pe', rfl, e3⟩ := say_sim h0 (by omega) (by omega) (by show nI 1 + I 68 (px q) + nI 0 = _; rw [o5, nI_add, nI_add]; congr 1; simp; omega) tyE_snoc (fun K' I' R' hx k1 k2 k3 k4 k5 k6 => ⟨11, withV 11 v, pe q, [], by rw [List.append_nil], k1, k2, k3, k4, Or.inr (Or.inl ⟨rfl, rfl, k6, px q, k5, (hx _ _ _ (z2.fit)).le (by omega), ht⟩)⟩) hQ
                  exact ⟨e1, hP _ _ _ _ _ _ _ _ e3⟩
                refine ev_iload_n dX8_say_25 rfl ?_
                refine ev_callS dX8_say_26 okX8_partsOf stX8_partsOf mlX8_43 [iV _] rfl rfl (Nat.le_of_ble_eq_true rfl) (Nat.le_of_ble_eq_true rfl) (sp) (fun r_ G_ h_ => ?_)
                obtain ⟨rfl, rfl⟩ := h_
                try dsimp only [Option.toList, List.cons_append, List.nil_append]
                refine ev_istore_nS dX8_say_29 (by decide) rfl ?_
                refine ev_aload_n dX8_say_30 rfl ?_
                refine ev_getIv dX8_say_31 fX8_47 hC.m p1 ?_
                refine ev_iload_n dX8_say_34 rfl ?_
                refine ev_isubN dX8_say_35 (by omega) ?_
                refine ev_istoreS dX8_say_36 (by decide) rfl ?_
                refine ev_iload dX8_say_38 rfl ?_
                refine ev_if_ltN 50 dX8_say_40 (by decide) (by omega) ?_
                refine ev_iload dX8_say_43 rfl ?_
                refine ev_bipushN 8 dX8_say_45 (by decide) ?_
                refine ev_icmp_ltN 52 dX8_say_47 (by decide) (by omega) (by omega) (fun c47 => ?_) (fun c47 => absurd c47 (by omega))
                refine ev_iload_n dX8_say_52 rfl ?_
                refine ev_if_neN 60 dX8_say_53 (by decide) (by omega) (fun c53 => ?_) (fun c53 => absurd c53 (by decide))
                refine ev_aload_n dX8_say_60 rfl ?_
                refine ev_getR dX8_say_61 fX8_11 hC.m hC.R_pile ?_
                refine ev_iload dX8_say_64 rfl ?_
                refine ev_aald (q := 2) dX8_say_66 hC.K_pile (by decide) (by decide) hC.L_pile (by decide) (by omega) z1 ?_
                refine ev_astoreS dX8_say_67 (by decide) rfl ?_
                refine ev_iload_n dX8_say_69 rfl ?_
                refine ev_iconstN 2 dX8_say_70 (by decide) ?_
                refine ev_icmp_neN 86 dX8_say_71 (by decide) (by omega) (by omega) (fun c71 => ?_) (fun c71 => absurd c71 (by decide))
                refine ev_null dX8_say_86 ?_
                refine ev_astoreS dX8_say_87 (by decide) rfl ?_
                refine ev_iload_n dX8_say_89 rfl ?_
                refine ev_aload dX8_say_90 rfl ?_
                refine ev_callS dX8_say_92 okX8_fits stX8_fits mlX8_50 [iV _, rV _] rfl rfl (Nat.le_of_ble_eq_true rfl) (Nat.le_of_ble_eq_true rfl) (sf) (fun r_ G_ h_ => ?_)
                obtain ⟨rfl, rfl⟩ := h_
                try dsimp only [Option.toList, List.cons_append, List.nil_append]
                refine ev_if_eq 125 dX8_say_95 (by decide) (fun c95 => absurd c95 (by decide)) (fun c95 => ?_)
                refine ev_iload_n dX8_say_98 rfl ?_
                refine ev_aload dX8_say_99 rfl ?_
                refine ev_callS dX8_say_101 okX8_fits stX8_fits mlX8_50 [iV _, rV _] rfl rfl (Nat.le_of_ble_eq_true rfl) (Nat.le_of_ble_eq_true rfl) (sf0) (fun r_ G_ h_ => ?_)
                obtain ⟨rfl, rfl⟩ := h_
                try dsimp only [Option.toList, List.cons_append, List.nil_append]
                refine ev_if_eq 125 dX8_say_104 (by decide) (fun c104 => absurd c104 (by decide)) (fun c104 => ?_)
                refine ev_iconstN 1 dX8_say_107 (by decide) ?_
                refine ev_aload dX8_say_108 rfl ?_
                refine ev_callS dX8_say_110 okX1_nodesOf stX1_nodesOf mlX8_54 [rV _] rfl rfl (Nat.le_of_ble_eq_true rfl) (Nat.le_of_ble_eq_true rfl) (s1) (fun r_ G_ h_ => ?_)
                obtain ⟨rfl, rfl⟩ := h_
                try dsimp only [Option.toList, List.cons_append, List.nil_append]
                refine ev_iaddN dX8_say_113 ?_
                refine ev_aload dX8_say_114 rfl ?_
                refine ev_callS dX8_say_116 okX1_nodesOf stX1_nodesOf mlX8_54 [rV _] rfl rfl (Nat.le_of_ble_eq_true rfl) (Nat.le_of_ble_eq_true rfl) (s0) (fun r_ G_ h_ => ?_)
                obtain ⟨rfl, rfl⟩ := h_
                try dsimp only [Option.toList, List.cons_append, List.nil_append]
                refine ev_iaddN dX8_say_119 ?_
                refine ev_bipushN 15 dX8_say_120 (by decide) ?_
                refine ev_icmp_leN 127 dX8_say_122 (by decide) (by omega) (by omega) (fun c122 => ?_) (fun c122 => absurd c122 (by omega))
                exact fin
          · obtain ⟨m1, m2⟩ := need_two hn2
            rw [hn2] at sp hq
            subst hq
            have h410 : 4 ≤ o ∧ o ≤ 10 := by omega
            obtain ⟨z1, z2, z3, z4⟩ := p4 q (by omega)
            obtain ⟨y1, y2, y3, y4⟩ := p4 (q + 1) (by omega)
            obtain ⟨op, o1, o2, o3, o4, o5⟩ := z2.ty
            obtain ⟨oq, r1, r2, r3, r4, r5⟩ := y2.ty
            have zl := z3.2.1
            have yl := y3.2.1
            have hzn : ∀ i, K i = 1 → i < n := fun i hi => by
              by_cases z : i < n
              · exact z
              · have := hH.2.2.2.1 i (by omega); omega
            have sf := cs_fits1 (X := X) (d := d + 58) (J := J) (R := R) (A := A) (B := B) (Ln := Ln) (n := n) (sl := sl) (m := o) (by omega) o2 o3 o1
            have sg := cs_fits1 (X := X) (d := d + 58) (J := J) (R := R) (A := A) (B := B) (Ln := Ln) (n := n) (sl := sl) (m := o) (by omega) r2 r3 r1
            rw [← o4] at sf
            rw [← r4] at sg
            have s1 := cs_nodes1 (X := X) (d := d + 59) (I := I) (J := J) (R := R) (A := A) (B := B) (Ln := Ln) (n := n) (sl := sl) o2
            have s2 := cs_nodes1 (X := X) (d := d + 59) (I := I) (J := J) (R := R) (A := A) (B := B) (Ln := Ln) (n := n) (sl := sl) r2
            rw [o5] at s1
            rw [r5] at s2
            have eof : nI (ofB o) = bZ (decide (9 ≤ o ∧ o ≤ 11)) := by
              unfold ofB
              by_cases z : 9 ≤ o ∧ o ≤ 11
              · rw [if_pos z, decide_eq_true z]; rfl
              · rw [if_neg z, decide_eq_false z]; rfl
            have e9 : decide (9 ≤ o ∧ o ≤ 11) = decide (9 ≤ o) := decide_eq_decide.mpr ⟨fun z => z.1, fun z => ⟨z, by omega⟩⟩
            by_cases ht1 : tyE (pe q) = decide (9 ≤ o ∧ o ≤ 11)
            · rw [ht1, beq_self_eq_true] at sf
              by_cases ht2 : tyE (pe (q + 1)) = decide (9 ≤ o ∧ o ≤ 11)
              · rw [ht2, beq_self_eq_true] at sg
                by_cases hl15 : 15 ≤ (pe q).length + (pe (q + 1)).length
                · have fno := fno (sp_say_e3 (d := d + 59) hM (by omega) hn2 p2 (by omega) z3 y3 (by rw [z4, ht1, eof]) (by rw [y4, ht2, eof]) hl15)
                  refine ev_iload_n dX8_say_25 rfl ?_
                  refine ev_callS dX8_say_26 okX8_partsOf stX8_partsOf mlX8_43 [iV _] rfl rfl (Nat.le_of_ble_eq_true rfl) (Nat.le_of_ble_eq_true rfl) (sp) (fun r_ G_ h_ => ?_)
                  obtain ⟨rfl, rfl⟩ := h_
                  try dsimp only [Option.toList, List.cons_append, List.nil_append]
                  refine ev_istore_nS dX8_say_29 (by decide) rfl ?_
                  refine ev_aload_n dX8_say_30 rfl ?_
                  refine ev_getIv dX8_say_31 fX8_47 hC.m p1 ?_
                  refine ev_iload_n dX8_say_34 rfl ?_
                  refine ev_isubN dX8_say_35 (by omega) ?_
                  refine ev_istoreS dX8_say_36 (by decide) rfl ?_
                  refine ev_iload dX8_say_38 rfl ?_
                  refine ev_if_ltN 50 dX8_say_40 (by decide) (by omega) ?_
                  refine ev_iload dX8_say_43 rfl ?_
                  refine ev_bipushN 8 dX8_say_45 (by decide) ?_
                  refine ev_icmp_ltN 52 dX8_say_47 (by decide) (by omega) (by omega) (fun c47 => ?_) (fun c47 => absurd c47 (by omega))
                  refine ev_iload_n dX8_say_52 rfl ?_
                  refine ev_if_neN 60 dX8_say_53 (by decide) (by omega) (fun c53 => ?_) (fun c53 => absurd c53 (by decide))
                  refine ev_aload_n dX8_say_60 rfl ?_
                  refine ev_getR dX8_say_61 fX8_11 hC.m hC.R_pile ?_
                  refine ev_iload dX8_say_64 rfl ?_
                  refine ev_aald (q := 2) dX8_say_66 hC.K_pile (by decide) (by decide) hC.L_pile (by decide) (by omega) z1 ?_
                  refine ev_astoreS dX8_say_67 (by decide) rfl ?_
                  refine ev_iload_n dX8_say_69 rfl ?_
                  refine ev_iconstN 2 dX8_say_70 (by decide) ?_
                  refine ev_icmp_neN 86 dX8_say_71 (by decide) (by omega) (by omega) (fun c71 => absurd c71 (by decide)) (fun c71 => ?_)
                  refine ev_aload_n dX8_say_74 rfl ?_
                  refine ev_getR dX8_say_75 fX8_11 hC.m hC.R_pile ?_
                  refine ev_iload dX8_say_78 rfl ?_
                  refine ev_iconstN 1 dX8_say_80 (by decide) ?_
                  refine ev_iaddN dX8_say_81 ?_
                  refine ev_aald (q := 2) dX8_say_82 hC.K_pile (by decide) (by decide) hC.L_pile (by decide) (by omega) y1 ?_
                  refine ev_goto 87 dX8_say_83 (by decide) ?_
                  refine ev_astoreS dX8_say_87 (by decide) rfl ?_
                  refine ev_iload_n dX8_say_89 rfl ?_
                  refine ev_aload dX8_say_90 rfl ?_
                  refine ev_callS dX8_say_92 okX8_fits stX8_fits mlX8_50 [iV _, rV _] rfl rfl (Nat.le_of_ble_eq_true rfl) (Nat.le_of_ble_eq_true rfl) (sf) (fun r_ G_ h_ => ?_)
                  obtain ⟨rfl, rfl⟩ := h_
                  try dsimp only [Option.toList, List.cons_append, List.nil_append]
                  refine ev_if_eq 125 dX8_say_95 (by decide) (fun c95 => absurd c95 (by decide)) (fun c95 => ?_)
                  refine ev_iload_n dX8_say_98 rfl ?_
                  refine ev_aload dX8_say_99 rfl ?_
                  refine ev_callS dX8_say_101 okX8_fits stX8_fits mlX8_50 [iV _, rV _] rfl rfl (Nat.le_of_ble_eq_true rfl) (Nat.le_of_ble_eq_true rfl) (sg) (fun r_ G_ h_ => ?_)
                  obtain ⟨rfl, rfl⟩ := h_
                  try dsimp only [Option.toList, List.cons_append, List.nil_append]
                  refine ev_if_eq 125 dX8_say_104 (by decide) (fun c104 => absurd c104 (by decide)) (fun c104 => ?_)
                  refine ev_iconstN 1 dX8_say_107 (by decide) ?_
                  refine ev_aload dX8_say_108 rfl ?_
                  refine ev_callS dX8_say_110 okX1_nodesOf stX1_nodesOf mlX8_54 [rV _] rfl rfl (Nat.le_of_ble_eq_true rfl) (Nat.le_of_ble_eq_true rfl) (s1) (fun r_ G_ h_ => ?_)
                  obtain ⟨rfl, rfl⟩ := h_
                  try dsimp only [Option.toList, List.cons_append, List.nil_append]
                  refine ev_iaddN dX8_say_113 ?_
                  refine ev_aload dX8_say_114 rfl ?_
                  refine ev_callS dX8_say_116 okX1_nodesOf stX1_nodesOf mlX8_54 [rV _] rfl rfl (Nat.le_of_ble_eq_true rfl) (Nat.le_of_ble_eq_true rfl) (s2) (fun r_ G_ h_ => ?_)
                  obtain ⟨rfl, rfl⟩ := h_
                  try dsimp only [Option.toList, List.cons_append, List.nil_append]
                  refine ev_iaddN dX8_say_119 ?_
                  refine ev_bipushN 15 dX8_say_120 (by decide) ?_
                  refine ev_icmp_leN 127 dX8_say_122 (by decide) (by omega) (by omega) (fun c122 => absurd c122 (by omega)) (fun c122 => ?_)
                  refine ev_iconstN 0 dX8_say_125 (by decide) ?_
                  refine ev_zreturn dX8_say_126 rfl (by decide) ?_
                  refine ⟨by first | exact hM.1 | exact h_.1 | exact hM1.1 | exact (hq2.2.1 11 (by omega)).1.trans hM1.1 | exact (y2.2.1 11 (by omega)).1.trans hM.1 | exact (q1.2 11 (by omega)).1.trans hM.1 | exact (va_up_ne _ _ (by omega)).trans hM.1 | exact (va_up_ne _ _ (by omega)).trans ((va_up_ne _ _ (by omega)).trans ((va_up_ne _ _ (by omega)).trans hM.1)), ?_⟩
                  exact fno
                · have fin : Ev X mX8_say (d + 60) 127 [some (rV (some 3)), some (iV (nI o)), some (iV v), some (iV (nI 2)), some (iV (nI q)), some (rV (some (px q))), some (rV (some (px (q + 1))))] [] (K, I, J, R, A, B, Ln, n, sl) (fun r1 G1 => G1.1 11 = 9 ∧ EvM X mX9_say (d + 60) [rV (some 11), iV (nI o), iV v] G1 (fun r2 G2 => r2 = r1 ∧ P G2)) := by
                    refine say_127 hC hn (by omega) (by omega) (fun a ha => by cases ha; exact ⟨o2, hzn _ o2⟩) (fun a ha => by cases ha; exact ⟨r2, hzn _ r2⟩) ?_
                    refine ⟨by first | exact hM.1 | exact h_.1 | exact hM1.1 | exact (hq2.2.1 11 (by omega)).1.trans hM1.1 | exact (y2.2.1 11 (by omega)).1.trans hM.1 | exact (q1.2 11 (by omega)).1.trans hM.1 | exact (va_up_ne _ _ (by omega)).trans hM.1 | exact (va_up_ne _ _ (by omega)).trans ((va_up_ne _ _ (by omega)).trans ((va_up_ne _ _ (by omega)).trans hM.1)), ?_⟩
                    refine (sp_say2 (d := d + 59) (hM.of (fun i hi => va_up_ne _ _ (by omega)) (fun _ _ => rfl) (fun f => by rw [u2_ne2 (by omega), u2_ne2 (by omega)])) (by omega) hn2 (by rw [u2_ne2 (by decide), u2_ne2 (by omega), u2_ne2 (by omega), u2_ne2 (by omega)]; exact p2) (by omega) z3 y3 (by omega) (by rw [z4, ht1, eof]) (by rw [y4, ht2, eof])).mono (fun r G' hQ => ?_)
                    obtain ⟨e1, K', I', R', A', B', px', pe', rfl, e3⟩ := say_sim h0 (by omega) (by omega) (by show nI 1 + I 68 (px q) + I 68 (px (q + 1)) = _; rw [o5, r5, nI_add, nI_add]; congr 1; simp; omega) tyE_snoc (fun K' I' R' hx k1 k2 k3 k4 k5 k6 => ⟨o, withV o v, pe q, pe (q + 1), rfl, k1, k2, k3, k4, Or.inr (Or.inr ⟨h410.1, h410.2, px q, px (q + 1), k5, k6, (hx _ _ _ (z2.fit)).le (by omega), (hx _ _ _ (y2.fit)).le (by omega), by rw [ht1, e9], by rw [ht2, e9]⟩)⟩) hQ
                    exact ⟨e1, hP _ _ _ _ _ _ _ _ e3⟩
                  refine ev_iload_n dX8_say_25 rfl ?_
                  refine ev_callS dX8_say_26 okX8_partsOf stX8_partsOf mlX8_43 [iV _] rfl rfl (Nat.le_of_ble_eq_true rfl) (Nat.le_of_ble_eq_true rfl) (sp) (fun r_ G_ h_ => ?_)
                  obtain ⟨rfl, rfl⟩ := h_
                  try dsimp only [Option.toList, List.cons_append, List.nil_append]
                  refine ev_istore_nS dX8_say_29 (by decide) rfl ?_
                  refine ev_aload_n dX8_say_30 rfl ?_
                  refine ev_getIv dX8_say_31 fX8_47 hC.m p1 ?_
                  refine ev_iload_n dX8_say_34 rfl ?_
                  refine ev_isubN dX8_say_35 (by omega) ?_
                  refine ev_istoreS dX8_say_36 (by decide) rfl ?_
                  refine ev_iload dX8_say_38 rfl ?_
                  refine ev_if_ltN 50 dX8_say_40 (by decide) (by omega) ?_
                  refine ev_iload dX8_say_43 rfl ?_
                  refine ev_bipushN 8 dX8_say_45 (by decide) ?_
                  refine ev_icmp_ltN 52 dX8_say_47 (by decide) (by omega) (by omega) (fun c47 => ?_) (fun c47 => absurd c47 (by omega))
                  refine ev_iload_n dX8_say_52 rfl ?_
                  refine ev_if_neN 60 dX8_say_53 (by decide) (by omega) (fun c53 => ?_) (fun c53 => absurd c53 (by decide))
                  refine ev_aload_n dX8_say_60 rfl ?_
                  refine ev_getR dX8_say_61 fX8_11 hC.m hC.R_pile ?_
                  refine ev_iload dX8_say_64 rfl ?_
                  refine ev_aald (q := 2) dX8_say_66 hC.K_pile (by decide) (by decide) hC.L_pile (by decide) (by omega) z1 ?_
                  refine ev_astoreS dX8_say_67 (by decide) rfl ?_
                  refine ev_iload_n dX8_say_69 rfl ?_
                  refine ev_iconstN 2 dX8_say_70 (by decide) ?_
                  refine ev_icmp_neN 86 dX8_say_71 (by decide) (by omega) (by omega) (fun c71 => absurd c71 (by decide)) (fun c71 => ?_)
                  refine ev_aload_n dX8_say_74 rfl ?_
                  refine ev_getR dX8_say_75 fX8_11 hC.m hC.R_pile ?_
                  refine ev_iload dX8_say_78 rfl ?_
                  refine ev_iconstN 1 dX8_say_80 (by decide) ?_
                  refine ev_iaddN dX8_say_81 ?_
                  refine ev_aald (q := 2) dX8_say_82 hC.K_pile (by decide) (by decide) hC.L_pile (by decide) (by omega) y1 ?_
                  refine ev_goto 87 dX8_say_83 (by decide) ?_
                  refine ev_astoreS dX8_say_87 (by decide) rfl ?_
                  refine ev_iload_n dX8_say_89 rfl ?_
                  refine ev_aload dX8_say_90 rfl ?_
                  refine ev_callS dX8_say_92 okX8_fits stX8_fits mlX8_50 [iV _, rV _] rfl rfl (Nat.le_of_ble_eq_true rfl) (Nat.le_of_ble_eq_true rfl) (sf) (fun r_ G_ h_ => ?_)
                  obtain ⟨rfl, rfl⟩ := h_
                  try dsimp only [Option.toList, List.cons_append, List.nil_append]
                  refine ev_if_eq 125 dX8_say_95 (by decide) (fun c95 => absurd c95 (by decide)) (fun c95 => ?_)
                  refine ev_iload_n dX8_say_98 rfl ?_
                  refine ev_aload dX8_say_99 rfl ?_
                  refine ev_callS dX8_say_101 okX8_fits stX8_fits mlX8_50 [iV _, rV _] rfl rfl (Nat.le_of_ble_eq_true rfl) (Nat.le_of_ble_eq_true rfl) (sg) (fun r_ G_ h_ => ?_)
                  obtain ⟨rfl, rfl⟩ := h_
                  try dsimp only [Option.toList, List.cons_append, List.nil_append]
                  refine ev_if_eq 125 dX8_say_104 (by decide) (fun c104 => absurd c104 (by decide)) (fun c104 => ?_)
                  refine ev_iconstN 1 dX8_say_107 (by decide) ?_
                  refine ev_aload dX8_say_108 rfl ?_
                  refine ev_callS dX8_say_110 okX1_nodesOf stX1_nodesOf mlX8_54 [rV _] rfl rfl (Nat.le_of_ble_eq_true rfl) (Nat.le_of_ble_eq_true rfl) (s1) (fun r_ G_ h_ => ?_)
                  obtain ⟨rfl, rfl⟩ := h_
                  try dsimp only [Option.toList, List.cons_append, List.nil_append]
                  refine ev_iaddN dX8_say_113 ?_
                  refine ev_aload dX8_say_114 rfl ?_
                  refine ev_callS dX8_say_116 okX1_nodesOf stX1_nodesOf mlX8_54 [rV _] rfl rfl (Nat.le_of_ble_eq_true rfl) (Nat.le_of_ble_eq_true rfl) (s2) (fun r_ G_ h_ => ?_)
                  obtain ⟨rfl, rfl⟩ := h_
                  try dsimp only [Option.toList, List.cons_append, List.nil_append]
                  refine ev_iaddN dX8_say_119 ?_
                  refine ev_bipushN 15 dX8_say_120 (by decide) ?_
                  refine ev_icmp_leN 127 dX8_say_122 (by decide) (by omega) (by omega) (fun c122 => ?_) (fun c122 => absurd c122 (by omega))
                  exact fin
              · have hb : (tyE (pe (q + 1)) == decide (9 ≤ o ∧ o ≤ 11)) = false := by rw [beq_eq_false_iff_ne]; exact ht2
                rw [hb] at sg
                have fno := fno (sp_say_e2 (d := d + 59) hM (by omega) hn2 p2 (by omega) z3 (by rw [z4, ht1, eof]) (by rw [y4, eof]; exact fun z => ht2 (bZ_eq.mp z)))
                refine ev_iload_n dX8_say_25 rfl ?_
                refine ev_callS dX8_say_26 okX8_partsOf stX8_partsOf mlX8_43 [iV _] rfl rfl (Nat.le_of_ble_eq_true rfl) (Nat.le_of_ble_eq_true rfl) (sp) (fun r_ G_ h_ => ?_)
                obtain ⟨rfl, rfl⟩ := h_
                try dsimp only [Option.toList, List.cons_append, List.nil_append]
                refine ev_istore_nS dX8_say_29 (by decide) rfl ?_
                refine ev_aload_n dX8_say_30 rfl ?_
                refine ev_getIv dX8_say_31 fX8_47 hC.m p1 ?_
                refine ev_iload_n dX8_say_34 rfl ?_
                refine ev_isubN dX8_say_35 (by omega) ?_
                refine ev_istoreS dX8_say_36 (by decide) rfl ?_
                refine ev_iload dX8_say_38 rfl ?_
                refine ev_if_ltN 50 dX8_say_40 (by decide) (by omega) ?_
                refine ev_iload dX8_say_43 rfl ?_
                refine ev_bipushN 8 dX8_say_45 (by decide) ?_
                refine ev_icmp_ltN 52 dX8_say_47 (by decide) (by omega) (by omega) (fun c47 => ?_) (fun c47 => absurd c47 (by omega))
                refine ev_iload_n dX8_say_52 rfl ?_
                refine ev_if_neN 60 dX8_say_53 (by decide) (by omega) (fun c53 => ?_) (fun c53 => absurd c53 (by decide))
                refine ev_aload_n dX8_say_60 rfl ?_
                refine ev_getR dX8_say_61 fX8_11 hC.m hC.R_pile ?_
                refine ev_iload dX8_say_64 rfl ?_
                refine ev_aald (q := 2) dX8_say_66 hC.K_pile (by decide) (by decide) hC.L_pile (by decide) (by omega) z1 ?_
                refine ev_astoreS dX8_say_67 (by decide) rfl ?_
                refine ev_iload_n dX8_say_69 rfl ?_
                refine ev_iconstN 2 dX8_say_70 (by decide) ?_
                refine ev_icmp_neN 86 dX8_say_71 (by decide) (by omega) (by omega) (fun c71 => absurd c71 (by decide)) (fun c71 => ?_)
                refine ev_aload_n dX8_say_74 rfl ?_
                refine ev_getR dX8_say_75 fX8_11 hC.m hC.R_pile ?_
                refine ev_iload dX8_say_78 rfl ?_
                refine ev_iconstN 1 dX8_say_80 (by decide) ?_
                refine ev_iaddN dX8_say_81 ?_
                refine ev_aald (q := 2) dX8_say_82 hC.K_pile (by decide) (by decide) hC.L_pile (by decide) (by omega) y1 ?_
                refine ev_goto 87 dX8_say_83 (by decide) ?_
                refine ev_astoreS dX8_say_87 (by decide) rfl ?_
                refine ev_iload_n dX8_say_89 rfl ?_
                refine ev_aload dX8_say_90 rfl ?_
                refine ev_callS dX8_say_92 okX8_fits stX8_fits mlX8_50 [iV _, rV _] rfl rfl (Nat.le_of_ble_eq_true rfl) (Nat.le_of_ble_eq_true rfl) (sf) (fun r_ G_ h_ => ?_)
                obtain ⟨rfl, rfl⟩ := h_
                try dsimp only [Option.toList, List.cons_append, List.nil_append]
                refine ev_if_eq 125 dX8_say_95 (by decide) (fun c95 => absurd c95 (by decide)) (fun c95 => ?_)
                refine ev_iload_n dX8_say_98 rfl ?_
                refine ev_aload dX8_say_99 rfl ?_
                refine ev_callS dX8_say_101 okX8_fits stX8_fits mlX8_50 [iV _, rV _] rfl rfl (Nat.le_of_ble_eq_true rfl) (Nat.le_of_ble_eq_true rfl) (sg) (fun r_ G_ h_ => ?_)
                obtain ⟨rfl, rfl⟩ := h_
                try dsimp only [Option.toList, List.cons_append, List.nil_append]
                refine ev_if_eq 125 dX8_say_104 (by decide) (fun c104 => ?_) (fun c104 => absurd c104 (fun z => z rfl))
                refine ev_iconstN 0 dX8_say_125 (by decide) ?_
                refine ev_zreturn dX8_say_126 rfl (by decide) ?_
                refine ⟨by first | exact hM.1 | exact h_.1 | exact hM1.1 | exact (hq2.2.1 11 (by omega)).1.trans hM1.1 | exact (y2.2.1 11 (by omega)).1.trans hM.1 | exact (q1.2 11 (by omega)).1.trans hM.1 | exact (va_up_ne _ _ (by omega)).trans hM.1 | exact (va_up_ne _ _ (by omega)).trans ((va_up_ne _ _ (by omega)).trans ((va_up_ne _ _ (by omega)).trans hM.1)), ?_⟩
                exact fno
            · have hb : (tyE (pe q) == decide (9 ≤ o ∧ o ≤ 11)) = false := by rw [beq_eq_false_iff_ne]; exact ht1
              rw [hb] at sf
              have fno := fno (sp_say_e1 (d := d + 59) hM (by omega) hn2 p2 (by omega) (by rw [z4, eof]; exact fun z => ht1 (bZ_eq.mp z)))
              refine ev_iload_n dX8_say_25 rfl ?_
              refine ev_callS dX8_say_26 okX8_partsOf stX8_partsOf mlX8_43 [iV _] rfl rfl (Nat.le_of_ble_eq_true rfl) (Nat.le_of_ble_eq_true rfl) (sp) (fun r_ G_ h_ => ?_)
              obtain ⟨rfl, rfl⟩ := h_
              try dsimp only [Option.toList, List.cons_append, List.nil_append]
              refine ev_istore_nS dX8_say_29 (by decide) rfl ?_
              refine ev_aload_n dX8_say_30 rfl ?_
              refine ev_getIv dX8_say_31 fX8_47 hC.m p1 ?_
              refine ev_iload_n dX8_say_34 rfl ?_
              refine ev_isubN dX8_say_35 (by omega) ?_
              refine ev_istoreS dX8_say_36 (by decide) rfl ?_
              refine ev_iload dX8_say_38 rfl ?_
              refine ev_if_ltN 50 dX8_say_40 (by decide) (by omega) ?_
              refine ev_iload dX8_say_43 rfl ?_
              refine ev_bipushN 8 dX8_say_45 (by decide) ?_
              refine ev_icmp_ltN 52 dX8_say_47 (by decide) (by omega) (by omega) (fun c47 => ?_) (fun c47 => absurd c47 (by omega))
              refine ev_iload_n dX8_say_52 rfl ?_
              refine ev_if_neN 60 dX8_say_53 (by decide) (by omega) (fun c53 => ?_) (fun c53 => absurd c53 (by decide))
              refine ev_aload_n dX8_say_60 rfl ?_
              refine ev_getR dX8_say_61 fX8_11 hC.m hC.R_pile ?_
              refine ev_iload dX8_say_64 rfl ?_
              refine ev_aald (q := 2) dX8_say_66 hC.K_pile (by decide) (by decide) hC.L_pile (by decide) (by omega) z1 ?_
              refine ev_astoreS dX8_say_67 (by decide) rfl ?_
              refine ev_iload_n dX8_say_69 rfl ?_
              refine ev_iconstN 2 dX8_say_70 (by decide) ?_
              refine ev_icmp_neN 86 dX8_say_71 (by decide) (by omega) (by omega) (fun c71 => absurd c71 (by decide)) (fun c71 => ?_)
              refine ev_aload_n dX8_say_74 rfl ?_
              refine ev_getR dX8_say_75 fX8_11 hC.m hC.R_pile ?_
              refine ev_iload dX8_say_78 rfl ?_
              refine ev_iconstN 1 dX8_say_80 (by decide) ?_
              refine ev_iaddN dX8_say_81 ?_
              refine ev_aald (q := 2) dX8_say_82 hC.K_pile (by decide) (by decide) hC.L_pile (by decide) (by omega) y1 ?_
              refine ev_goto 87 dX8_say_83 (by decide) ?_
              refine ev_astoreS dX8_say_87 (by decide) rfl ?_
              refine ev_iload_n dX8_say_89 rfl ?_
              refine ev_aload dX8_say_90 rfl ?_
              refine ev_callS dX8_say_92 okX8_fits stX8_fits mlX8_50 [iV _, rV _] rfl rfl (Nat.le_of_ble_eq_true rfl) (Nat.le_of_ble_eq_true rfl) (sf) (fun r_ G_ h_ => ?_)
              obtain ⟨rfl, rfl⟩ := h_
              try dsimp only [Option.toList, List.cons_append, List.nil_append]
              refine ev_if_eq 125 dX8_say_95 (by decide) (fun c95 => ?_) (fun c95 => absurd c95 (fun z => z rfl))
              refine ev_iconstN 0 dX8_say_125 (by decide) ?_
              refine ev_zreturn dX8_say_126 rfl (by decide) ?_
              refine ⟨by first | exact hM.1 | exact h_.1 | exact hM1.1 | exact (hq2.2.1 11 (by omega)).1.trans hM1.1 | exact (y2.2.1 11 (by omega)).1.trans hM.1 | exact (q1.2 11 (by omega)).1.trans hM.1 | exact (va_up_ne _ _ (by omega)).trans hM.1 | exact (va_up_ne _ _ (by omega)).trans ((va_up_ne _ _ (by omega)).trans ((va_up_ne _ _ (by omega)).trans hM.1)), ?_⟩
              exact fno
  · have fno := fno (sp_say_a (d := d + 59) hM (by
      rcases hx with z | z
      · exact Or.inl (by rw [Int32.lt_iff_toInt_lt, show (0 : Int32).toInt = 0 by decide]; exact z)
      · exact Or.inr (Or.inl (by rw [Int32.lt_iff_toInt_lt, show (12 : Int32).toInt = 12 by decide]; omega))))
    by_cases hx0 : x < 0
    · skip
      refine ev_iload_n dX8_say_0 rfl ?_
      refine ev_if_lt 23 dX8_say_1 (by decide) (fun c1 => ?_) (fun c1 => absurd hx0 c1)
      refine ev_iconstN 0 dX8_say_23 (by decide) ?_
      refine ev_zreturn dX8_say_24 rfl (by decide) ?_
      refine ⟨by first | exact hM.1 | exact h_.1 | exact hM1.1 | exact (hq2.2.1 11 (by omega)).1.trans hM1.1 | exact (y2.2.1 11 (by omega)).1.trans hM.1 | exact (q1.2 11 (by omega)).1.trans hM.1 | exact (va_up_ne _ _ (by omega)).trans hM.1 | exact (va_up_ne _ _ (by omega)).trans ((va_up_ne _ _ (by omega)).trans ((va_up_ne _ _ (by omega)).trans hM.1)), ?_⟩
      exact fno
    · have hx12 : 12 < x := by
        rw [Int32.lt_iff_toInt_lt, show (12 : Int32).toInt = 12 by decide]
        rw [Int32.lt_iff_toInt_lt, show (0 : Int32).toInt = 0 by decide] at hx0
        omega
      refine ev_iload_n dX8_say_0 rfl ?_
      refine ev_if_lt 23 dX8_say_1 (by decide) (fun c1 => absurd c1 hx0) (fun c1 => ?_)
      refine ev_iload_n dX8_say_4 rfl ?_
      refine ev_bipushN 12 dX8_say_5 (by decide) ?_
      refine ev_icmp_gt (y := 12) 23 dX8_say_7 (by decide) (fun c7 => ?_) (fun c7 => absurd hx12 c7)
      refine ev_iconstN 0 dX8_say_23 (by decide) ?_
      refine ev_zreturn dX8_say_24 rfl (by decide) ?_
      refine ⟨by first | exact hM.1 | exact h_.1 | exact hM1.1 | exact (hq2.2.1 11 (by omega)).1.trans hM1.1 | exact (y2.2.1 11 (by omega)).1.trans hM.1 | exact (q1.2 11 (by omega)).1.trans hM.1 | exact (va_up_ne _ _ (by omega)).trans hM.1 | exact (va_up_ne _ _ (by omega)).trans ((va_up_ne _ _ (by omega)).trans ((va_up_ne _ _ (by omega)).trans hM.1)), ?_⟩
      exact fno
end C98M
