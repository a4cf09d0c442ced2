section C98P
variable {X : CX} {d : Nat} {K : Nat → Nat} {I : Nat → Nat → Int32} {J : Nat → Nat → Int64} {R : Nat → Nat → Option Nat} {A : Nat → Nat → Int32} {B : Nat → Nat → Option Nat} {Ln : Nat → Nat} {n sl : Nat} {a m : Nat} {cs fs : List Nat} {s : SA} {many tn la : Nat} {ti : Nat → Nat} {pn : Nat} {px : Nat → Nat} {pe : Nat → EX} {ixn : Nat} {ie : Nat → EX} {rn : Nat} {p : PP}
theorem plan_z {ie : Nat → EX} {ex : EX} : ∀ {i : Nat} {p : PP}, PlanR ie ex i p → p.1 = none → p.2 = (0, 0)
  | 0, p, h, _ => by rw [show p = (none, 0, 0) from h]
  | i + 1, p, h, hz => by
    obtain ⟨q, st, h1, h2, rfl⟩ := h
    unfold plS at hz ⊢
    by_cases c : st.1 = true ∧ (q.1 = none ∨ st.2.2 - st.2.1 < q.2.2 - q.2.1)
    · rw [if_pos c] at hz; cases hz
    · rw [if_neg c] at hz ⊢; exact plan_z h1 hz
theorem rfC_cg {I' : Nat → Nat → Int32} {J' : Nat → Nat → Int64} {R' : Nat → Nat → Option Nat} {A' : Nat → Nat → Int32} {t k : Nat} (h : ∀ e ∈ cs, J' 3 e = J 3 e ∧ I' 4 e = I 4 e ∧ R' 5 e = R 5 e) (h1 : I' 448 t = I 448 t) (h2 : A' (t + 1) = A (t + 1)) : rfC I' J' R' A' B cs t k = rfC I J R A B cs t k := by
  unfold rfC raC
  rw [h1, h2, rsC_cg (fun x hx => ⟨(h x hx).1, (h x hx).2.1⟩)]
  cases hx : rsC I J cs (plcL (nI 0) (nI 0) (nI k)) (I 448 t) with
  | none => rfl
  | some e => rw [Option.bind_some, Option.bind_some, (h e (List.mem_of_find?_eq_some hx)).2.2]
theorem ctF_cg {I' : Nat → Nat → Int32} {J' : Nat → Nat → Int64} {R' : Nat → Nat → Option Nat} {S t : Int32} {lo hi : Int64} (h : ∀ e ∈ cs, J' 3 e = J 3 e ∧ I' 4 e = I 4 e ∧ R' 5 e = R 5 e ∧ I' 0 e = I 0 e ∧ I' 1 e = I 1 e) : ∀ (l : List Nat) (sn : Option Nat), (∀ e ∈ l, e ∈ cs) → (∀ b, sn = some b → b ∈ cs) → ctF I' J' R' S lo hi t l sn = ctF I J R S lo hi t l sn
  | [], _, _, _ => rfl
  | e :: l, sn, hl, hs => by
    obtain ⟨h1, h2, h3, h4, h5⟩ := h e (hl e List.mem_cons_self)
    have ih1 := ctF_cg (S := S) (t := t) (lo := lo) (hi := hi) h l (some e) (fun x hx => hl x (List.mem_cons_of_mem _ hx)) (fun b hb => by cases hb; exact hl e List.mem_cons_self)
    have ih2 := ctF_cg (S := S) (t := t) (lo := lo) (hi := hi) h l sn (fun x hx => hl x (List.mem_cons_of_mem _ hx)) hs
    have hc : (∀ b, sn = some b → ¬ J' 3 b = J' 3 e) ↔ (∀ b, sn = some b → ¬ J 3 b = J 3 e) := ⟨fun z b hb => by rw [← (h b (hs b hb)).1, ← h1]; exact z b hb, fun z b hb => by rw [(h b (hs b hb)).1, h1]; exact z b hb⟩
    rw [ctF, ctF, h2, h3, h4, h5, ih1, ih2]
    by_cases hz : ¬ t < I 4 e ∧ (∀ b, sn = some b → ¬ J 3 b = J 3 e)
    · rw [if_pos hz, if_pos ⟨hz.1, hc.mpr hz.2⟩]
    · rw [if_neg hz, if_neg (fun y => hz ⟨y.1, hc.mp y.2⟩)]
theorem ccN_cg {I' : Nat → Nat → Int32} {J' : Nat → Nat → Int64} {R' : Nat → Nat → Option Nat} {t : Int32} {p : PP} (h : ∀ e ∈ cs, J' 3 e = J 3 e ∧ I' 4 e = I 4 e ∧ R' 5 e = R 5 e ∧ I' 0 e = I 0 e ∧ I' 1 e = I 1 e) : ccN I' J' R' cs t p = ccN I J R cs t p := by
  unfold ccN
  cases p.1 with
  | none => exact ctF_cg h cs none (fun _ h => h) (fun b hb => by cases hb)
  | some i => exact ctF_cg h cs none (fun _ h => h) (fun b hb => by cases hb)
set_option maxRecDepth 100000 in
set_option maxHeartbeats 4000000 in
theorem op_query (h : Sim K I J R A B Ln n a m cs fs s many tn la ti pn px pe ixn ie rn p) (hmd : s.2.2 < 2147483648) (x : Int32) {P : GH → Prop} (hP0 : P (K, I, J, R, A, B, Ln, n, sl)) (hP : ∀ K' I' J' R' A' n' sl' pn' rn' p', Sim K' I' J' R' A' B Ln n' a m cs fs s many tn la ti pn' px pe ixn ie rn' p' → n' ≤ n + 3 → sl' ≤ sl + 12 → P (K', I', J', R', A', B, Ln, n', sl')) : EvM X mX8_query (d + 60) [rV (some 3), iV x] (K, I, J, R, A, B, Ln, n, sl) (fun r1 G1 => G1.1 11 = 9 ∧ EvM X mX9_query (d + 60) [rV (some 11), iV x] G1 (fun r2 G2 => r2 = r1 ∧ P G2)) := by
  obtain ⟨hm5, -, hv⟩ := h.vld hmd
  have hnames := fun {j q : Nat} (hj : j < tn) (hq : q < 32) => row_nm h hmd hj hq
  have hti := h.tis
  have h0 := h
  obtain ⟨hH, hM, hR, hT, -⟩ := h
  have hT0 := hT
  obtain ⟨⟨t1, t2⟩, t3, t4, t5, t6, t7, t8, t9, t10, t11⟩ := hT
  have hC := hH.1
  have hn := hH.2.2.2.2
  have hsI : ∀ j, j < tn → I 449 (ti j) = A 25 j := fun j hj => (t8 j hj).2.2.2.1
  have hrk : ∀ i, i < tn → ∀ q, q < 32 → ∀ r, B (ti i + 2) q = some r → r < n := fun i hi q hq r hr => by
    have := (t8 i hi).2.2.1.2.2.2.2.2.2.2 q hq r hr
    by_cases z : r < n
    · exact z
    · have := hH.2.2.2.1 r (by omega); omega
  have h0' := h0
  obtain ⟨-, -, -, -, ⟨p1, pp2, p3, p4⟩, ⟨hX, x4, x5⟩, -, -, hE⟩ := h0
  have h0 : Sim K I J R A B Ln n a m cs fs s many tn la ti pn px pe ixn ie rn p := h0'
  have fno : ((∀ j, j < tn → x = nI j → ¬ A 25 j = 1) ∨ pn = 0 ∨ A 15 (pn - 1) = 0) → EvM X mX9_query (d + 60) [rV (some 11), iV x] (K, I, J, R, A, B, Ln, n, sl) (fun r2 G2 => r2 = some (iV (-1)) ∧ P G2) := fun hz => (sp_query_no (d := d + 59) hM t4 t1 pp2 p3 hz).mono (fun r G' ⟨h1, h2⟩ => ⟨h1, by rw [h2]; exact hP0⟩)
  show Ev X mX8_query (d + 60) 0 [some (rV (some 3)), some (iV x), none, none] [] (K, I, J, R, A, B, Ln, n, sl) _
  rcases open_cases A tn x with ⟨j, hj, rfl, hs⟩ | hno
  · obtain ⟨z1, z2⟩ := hti j hj
    have so := cs_openOne (X := X) (d := d + 58) (J := J) (A := A) (n := n) (sl := sl) hC t3 t1 hj z1 z2 ((hsI j hj).trans hs)
    by_cases hz : pn = 0
    · have fno2 := fno (Or.inr (Or.inl hz))
      subst hz
      refine ev_aload_n dX8_query_0 rfl ?_
      refine ev_iload_n dX8_query_1 rfl ?_
      refine ev_callV dX8_query_2 okX8_openOne inX8_openOne seX8_openOne mlX8_88 hC.m (by decide) rfl [iV _] rfl rfl (Nat.le_of_ble_eq_true rfl) (Nat.le_of_ble_eq_true rfl) (so) (fun r_ G_ h_ => ?_)
      obtain ⟨rfl, rfl⟩ := h_
      try dsimp only [Option.toList, List.cons_append, List.nil_append]
      refine ev_astore_nS dX8_query_5 (by decide) rfl ?_
      refine ev_aload_n dX8_query_6 rfl ?_
      refine ev_callV dX8_query_7 okX8_topOfPile inX8_topOfPile seX8_topOfPile mlX8_64 hC.m (by decide) rfl [] rfl rfl (Nat.le_of_ble_eq_true rfl) (Nat.le_of_ble_eq_true rfl) (cs_top0 hC p1) (fun r_ G_ h_ => ?_)
      obtain ⟨rfl, rfl⟩ := h_
      try dsimp only [Option.toList, List.cons_append, List.nil_append]
      refine ev_astore_nS dX8_query_10 (by decide) rfl ?_
      refine ev_aload_n dX8_query_11 rfl ?_
      refine ev_ifnull 26 dX8_query_12 (by decide) (fun c12 => by cases c12) (fun x c12 => ?_)
      refine ev_aload_n dX8_query_15 rfl ?_
      refine ev_ifnull 26 dX8_query_16 (by decide) (fun c16 => ?_) (fun x c16 => by cases c16)
      refine ev_iconst (-1) dX8_query_26 (by decide) ?_
      refine ev_ireturn dX8_query_27 rfl ?_
      refine ⟨by first | exact hM.1 | exact h_.1 | exact hM1.1 | exact (hq2.2.1 11 (by omega)).1.trans hM1.1 | exact (y2.2.1 11 (by omega)).1.trans hM.1 | exact (q1.2 11 (by omega)).1.trans hM.1 | exact (va_up_ne _ _ (by omega)).trans hM.1 | exact (va_up_ne _ _ (by omega)).trans ((va_up_ne _ _ (by omega)).trans ((va_up_ne _ _ (by omega)).trans hM.1)), ?_⟩
      exact fno2
    · obtain ⟨q, rfl⟩ : ∃ q, pn = q + 1 := ⟨pn - 1, by omega⟩
      obtain ⟨y1, y2, y3, y4⟩ := p4 q (by omega)
      obtain ⟨op, o1, o2, o3, o4, -⟩ := y2.ty
      have sb := cs_isBool (X := X) (d := d + 59) (J := J) (R := R) (A := A) (B := B) (Ln := Ln) (n := n) (sl := sl) o2 o3 o1
      rw [← o4] at sb
      rw [Nat.add_sub_cancel, y4] at fno
      cases ht : tyE (pe q) with
      | false =>
        rw [ht] at sb fno
        have fno := fno (Or.inr (Or.inr rfl))
        refine ev_aload_n dX8_query_0 rfl ?_
        refine ev_iload_n dX8_query_1 rfl ?_
        refine ev_callV dX8_query_2 okX8_openOne inX8_openOne seX8_openOne mlX8_88 hC.m (by decide) rfl [iV _] rfl rfl (Nat.le_of_ble_eq_true rfl) (Nat.le_of_ble_eq_true rfl) (so) (fun r_ G_ h_ => ?_)
        obtain ⟨rfl, rfl⟩ := h_
        try dsimp only [Option.toList, List.cons_append, List.nil_append]
        refine ev_astore_nS dX8_query_5 (by decide) rfl ?_
        refine ev_aload_n dX8_query_6 rfl ?_
        refine ev_callV dX8_query_7 okX8_topOfPile inX8_topOfPile seX8_topOfPile mlX8_64 hC.m (by decide) rfl [] rfl rfl (Nat.le_of_ble_eq_true rfl) (Nat.le_of_ble_eq_true rfl) (cs_top1 hC p1 (by omega) y1) (fun r_ G_ h_ => ?_)
        obtain ⟨rfl, rfl⟩ := h_
        try dsimp only [Option.toList, List.cons_append, List.nil_append]
        refine ev_astore_nS dX8_query_10 (by decide) rfl ?_
        refine ev_aload_n dX8_query_11 rfl ?_
        refine ev_ifnull 26 dX8_query_12 (by decide) (fun c12 => by cases c12) (fun x c12 => ?_)
        refine ev_aload_n dX8_query_15 rfl ?_
        refine ev_ifnull 26 dX8_query_16 (by decide) (fun c16 => by cases c16) (fun x c16 => ?_)
        refine ev_aload_n dX8_query_19 rfl ?_
        refine ev_callV dX8_query_20 okX1_isBool inX1_isBool seX1_isBool mlX8_68 o2 (by decide) rfl [] rfl rfl (Nat.le_of_ble_eq_true rfl) (Nat.le_of_ble_eq_true rfl) (sb) (fun r_ G_ h_ => ?_)
        obtain ⟨rfl, rfl⟩ := h_
        try dsimp only [Option.toList, List.cons_append, List.nil_append]
        refine ev_if_ne 28 dX8_query_23 (by decide) (fun c23 => absurd c23 (fun z => z rfl)) (fun c23 => ?_)
        refine ev_iconst (-1) dX8_query_26 (by decide) ?_
        refine ev_ireturn dX8_query_27 rfl ?_
        refine ⟨by first | exact hM.1 | exact h_.1 | exact hM1.1 | exact (hq2.2.1 11 (by omega)).1.trans hM1.1 | exact (y2.2.1 11 (by omega)).1.trans hM.1 | exact (q1.2 11 (by omega)).1.trans hM.1 | exact (va_up_ne _ _ (by omega)).trans hM.1 | exact (va_up_ne _ _ (by omega)).trans ((va_up_ne _ _ (by omega)).trans ((va_up_ne _ _ (by omega)).trans hM.1)), ?_⟩
        exact fno
      | true =>
        rw [ht] at sb
        have hi1 : ∀ f i, ¬ (i = 3 ∧ f = 513) → u2 I 513 3 (nI (q + 1 - 1)) f i = I f i := fun f i hi => by unfold u2; rw [if_neg (fun z => hi ⟨z.2, z.1⟩)]
        have k11 := hM.1
        have hex1 : ∀ {f i : Nat} {e : EX}, ExpR K I R f i e → ExpR K (u2 I 513 3 (nI (q + 1 - 1))) R f i e := fun he => he.congr (fun i hi => ⟨hi, fun f => hi1 f i (fun z => by rw [z.1, hC.m] at hi; omega), fun _ => rfl⟩)
        have hX1 : IxR K (u2 I 513 3 (nI (q + 1 - 1))) R B ixn ie := ⟨(hi1 _ _ (by omega)).trans hX.1, hX.2.1, fun i hi => by
          obtain ⟨xx, w1, w2, w3⟩ := hX.2.2 i hi
          exact ⟨xx, w1, hex1 w2, w3⟩⟩
        have hF1 : FrH (u2 I 513 3 (nI (q + 1 - 1))) J R A B n := fun i hi => by
          obtain ⟨w1, w2, w3, w4, w5⟩ := hH.2.2.1 i hi
          exact ⟨fun f => by rw [hi1 f i (by omega)]; exact w1 f, w2, w3, w4, w5⟩
        have sp := cs_choosePlan (X := X) (d := d + 24) (sl0 := sl) hC hn hH.2.2.2.1 hX1 (hex1 y2) hF1
        have fin : ∀ (K2 : Nat → Nat) (I2 : Nat → Nat → Int32) (J2 : Nat → Nat → Int64) (R2 : Nat → Nat → Option Nat) (n2 sl2 : Nat) (p2 : PP), (CpF K (u2 I 513 3 (nI (q + 1 - 1))) J R n K2 I2 J2 R2 n2 ∧ FrH I2 J2 R2 A B n2 ∧ FrK K2 n2 ∧ PlC K2 I2 J2 R2 p2 ∧ PlanR ie (pe q) ixn p2 ∧ n2 = n + ixn ∧ sl2 = sl + 4 * ixn) → Ev X mX8_query (d + 60) 43 [some (rV (some 3)), some (iV (nI j)), some (rV (some (ti j))), some (rV (some (px q)))] [] (K2, I2, J2, R2, A, B, Ln, n2, sl2) (fun r1 G1 => G1.1 11 = 9 ∧ EvM X mX9_query (d + 60) [rV (some 11), iV (nI j)] G1 (fun r2 G2 => r2 = r1 ∧ P G2)) := by
          rintro K2 I2 J2 R2 n2 sl2 p2 ⟨q1, q2, q3, q4, q5, q6, q7⟩
          have hlt := hX.2.1
          have hC2 : CFix K2 R2 Ln := hC.of (fun i hi => (q1.2 i (by omega)).1) (fun _ _ => rfl) (fun f hf => (q1.2 3 (by omega)).2.2.2 f (by omega)) ((q1.2 7 (by omega)).2.2.2 _ (by omega)) ((q1.2 7 (by omega)).2.2.2 _ (by omega))
          obtain ⟨kE, kF⟩ := CsR.kinds hH.2.1.1
          have hI2 : ∀ f i, i < n → ¬ (i = 3 ∧ (f = 513 ∨ f = 522)) → I2 f i = I f i := fun f i hi hz => ((q1.2 i hi).2.2.1 f (fun z => hz ⟨z.1, Or.inr z.2⟩)).trans (hi1 f i (fun z => hz ⟨z.1, Or.inl z.2⟩))
          have hE2 : EnR K2 I2 B cs := ⟨(hI2 _ 7 (by omega) (by omega)).trans hH.2.1.1.1.1.1, hH.2.1.1.1.1.2.1, fun i e hie => by
            obtain ⟨w1, w2⟩ := hH.2.1.1.1.1.2.2 i e hie
            exact ⟨w1, by rw [(q1.2 e (kE e (List.mem_of_getElem? hie)).2.1).1]; exact w2⟩⟩
          have hTj := t8 j hj
          obtain ⟨-, htn, ⟨u1, u2', u3, u4, u5, u6, u7, u8⟩, -, -, -, -, -⟩ := hTj
          have hT2 : TxO K2 R2 B Ln (ti j) := ⟨(q1.2 _ (by omega)).1.trans u1, ((q1.2 _ (by omega)).2.2.2 _ (by omega)).trans u2', (q1.2 _ (by omega)).1.trans u3, u4, ((q1.2 _ (by omega)).2.2.2 _ (by omega)).trans u5, (q1.2 _ (by omega)).1.trans u6, u7, fun k hk r hr => by rw [(q1.2 r (hrk j hj k hk r hr)).1]; exact u8 k hk r hr⟩
          have kt2 := hT2.1
          have sc := cs_countCand (X := X) (d := d + 57) (A := A) (n := n2) (sl := sl2) (u := I2 448 (ti j)) hC2 hE2 q4
          have hI3 : ∀ f i, ¬ (i = 3 ∧ f = 524) → u2 I2 524 3 (nI (ccN I2 J2 R2 cs (I2 448 (ti j)) p2)) f i = I2 f i := fun f i hz => by unfold u2; rw [if_neg (fun z => hz ⟨z.2, z.1⟩)]
          have hE3 : EnR K2 (u2 I2 524 3 (nI (ccN I2 J2 R2 cs (I2 448 (ti j)) p2))) B cs := ⟨(hI3 _ 7 (by omega)).trans hE2.1, hE2.2⟩
          have hcsx : ∀ e ∈ cs, J2 3 e = J 3 e ∧ (∀ f, I2 f e = I f e) ∧ R2 5 e = R 5 e := fun e he => by
            obtain ⟨w1, w2, w3⟩ := kE e he
            exact ⟨(q1.2 e w2).2.1 3, fun f => hI2 f e w2 (by omega), (q1.2 e w2).2.2.2 5 (by omega)⟩
          have hO3 : SrtR (u2 I2 524 3 (nI (ccN I2 J2 R2 cs (I2 448 (ti j)) p2))) J2 cs := by
            refine List.Pairwise.imp_of_mem (fun {b c} hb hc z => ?_) hH.2.1.1.2.2.1
            rw [(hcsx b hb).1, (hcsx c hc).1, hI3 4 b (by omega), hI3 4 c (by omega), (hcsx b hb).2.1, (hcsx c hc).2.1]
            exact z
          have hrk3 : RwK K2 R2 cs := fun e he r hr => by
            rw [(hcsx e he).2.2] at hr
            obtain ⟨w1, w2⟩ := hH.2.1.1.2.2.2 e he r hr
            rw [(q1.2 r w2).1]; exact w1
          have hx2 := CpF.expr q1 hH.2.2.2.1 hC.m (hex1 y2)
          have hx3 : ExpR K2 (u2 I2 524 3 (nI (ccN I2 J2 R2 cs (I2 448 (ti j)) p2))) R2 16 (px q) (pe q) := hx2.congr (fun i hi => ⟨hi, fun f => hI3 f i (fun z => by rw [z.1, hC2.m] at hi; omega), fun _ => rfl⟩)
          have hrf3 : ∀ k, rfC (u2 I2 524 3 (nI (ccN I2 J2 R2 cs (I2 448 (ti j)) p2))) J2 R2 A B cs (ti j) k = rfC I J R A B cs (ti j) k := fun k => rfC_cg (fun e he => ⟨(hcsx e he).1, by rw [hI3 4 e (by omega)]; exact (hcsx e he).2.1 4, (hcsx e he).2.2⟩) (by rw [hI3 448 _ (by omega)]; exact hI2 448 _ (by omega) (by omega)) rfl
          have hrK : ∀ k, k < 32 → ∀ r, rfC I J R A B cs (ti j) k = some r → K r = 3 ∧ r < n := fun k hk r hr => by
            have h3 : K r = 3 := by
              unfold rfC at hr
              by_cases hz : A (ti j + 1) k = 0
              · rw [if_pos hz] at hr
                exact raC_K (fun e he r hr => (hH.2.1.1.2.2.2 e he r hr).1) hr
              · rw [if_neg hz] at hr; exact u8 k hk r hr
            refine ⟨h3, ?_⟩
            by_cases z : r < n
            · exact z
            · have := hH.2.2.2.1 r (by omega); omega
          have hI3r : ∀ r, K r = 3 → r < n → ∀ f, u2 I2 524 3 (nI (ccN I2 J2 R2 cs (I2 448 (ti j)) p2)) f r = I f r := fun r h3 hr f => by
            rw [hI3 f r (fun z => by rw [z.1, hC.m] at h3; omega)]
            exact hI2 f r hr (fun z => by rw [z.1, hC.m] at h3; omega)
          have sr := cs_fillResult (X := X) (d := d + 42) (A := A) (n := n2) (sl := sl2) hC2 hE3 hO3 hrk3 hT2 htn.1 hx3 ht (fun k hk r hr => by
            rw [hrf3 k] at hr
            obtain ⟨nm, n1, n3⟩ := hnames hj hk
            rw [hr] at n3
            obtain ⟨w1, w2⟩ := hrK k hk r hr
            exact ⟨nm, n1, by rw [hI3r r w1 w2]; exact n3⟩)
          have last : ∀ A4 : Nat → Nat → Int32, (∀ i, i ≠ 10 → A4 i = A i) → (∀ i v, (rlC (u2 I2 524 3 (nI (ccN I2 J2 R2 cs (I2 448 (ti j)) p2))) J2 R2 A B cs (ti j) (pe q) 32)[i]? = some v → A4 10 i = nI v) → EvM X mX9_query (d + 60) [rV (some 11), iV (nI j)] (K2, u2 (u2 I2 524 3 (nI (ccN I2 J2 R2 cs (I2 448 (ti j)) p2))) 521 3 (nI (rlC (u2 I2 524 3 (nI (ccN I2 J2 R2 cs (I2 448 (ti j)) p2))) J2 R2 A B cs (ti j) (pe q) 32).length), J2, R2, A4, B, Ln, n2, sl2) (fun r2 G2 => r2 = some (iV (nI (rlC (u2 I2 524 3 (nI (ccN I2 J2 R2 cs (I2 448 (ti j)) p2))) J2 R2 A B cs (ti j) (pe q) 32).length)) ∧ P G2) := by
            intro A4 hA4 hA10
            have hI4 : ∀ f i, i < n → ¬ (i = 3 ∧ (f = 513 ∨ f = 521 ∨ f = 522 ∨ f = 524)) → u2 (u2 I2 524 3 (nI (ccN I2 J2 R2 cs (I2 448 (ti j)) p2))) 521 3 (nI (rlC (u2 I2 524 3 (nI (ccN I2 J2 R2 cs (I2 448 (ti j)) p2))) J2 R2 A B cs (ti j) (pe q) 32).length) f i = I f i := fun f i hi hz => by
              rw [show u2 (u2 I2 524 3 (nI (ccN I2 J2 R2 cs (I2 448 (ti j)) p2))) 521 3 (nI (rlC (u2 I2 524 3 (nI (ccN I2 J2 R2 cs (I2 448 (ti j)) p2))) J2 R2 A B cs (ti j) (pe q) 32).length) f i = (u2 I2 524 3 (nI (ccN I2 J2 R2 cs (I2 448 (ti j)) p2))) f i by unfold u2; rw [if_neg (fun z => hz ⟨z.2, by omega⟩)], hI3 f i (fun z => hz ⟨z.1, by omega⟩)]
              exact hI2 f i hi (fun z => hz ⟨z.1, by omega⟩)
            have hM4 : MFix K2 R2 Ln := hM.of (fun i hi => (q1.2 i (by omega)).1) (fun _ _ => rfl) (fun f => (q1.2 11 (by omega)).2.2.2 f (by omega))
            have hN4 : NsF K I J R B Ln n K2 (u2 (u2 I2 524 3 (nI (ccN I2 J2 R2 cs (I2 448 (ti j)) p2))) 521 3 (nI (rlC (u2 I2 524 3 (nI (ccN I2 J2 R2 cs (I2 448 (ti j)) p2))) J2 R2 A B cs (ti j) (pe q) 32).length)) J2 R2 B Ln n2 := ⟨q1.1, fun i hi => ⟨(q1.2 i hi).1, rfl, fun f => Or.inl ((q1.2 i hi).2.1 f), fun a3 _ _ f => hI4 f i hi (fun z => a3 z.1), fun f hf => (q1.2 i hi).2.2.2 f hf, fun _ => rfl⟩⟩
            have hF4 : FrH (u2 (u2 I2 524 3 (nI (ccN I2 J2 R2 cs (I2 448 (ti j)) p2))) 521 3 (nI (rlC (u2 I2 524 3 (nI (ccN I2 J2 R2 cs (I2 448 (ti j)) p2))) J2 R2 A B cs (ti j) (pe q) 32).length)) J2 R2 A4 B n2 := fun i hi => by
              obtain ⟨w1, w2, w3, w4, w5⟩ := q2 i hi
              have := q1.1
              exact ⟨fun f => by rw [u2_ne2 (by omega), u2_ne2 (by omega)]; exact w1 f, w2, w3, fun z => by rw [hA4 i (by omega)]; exact w4 z, w5⟩
            have hH4 := hH.ns k11 hN4 hF4 q3
            have eA : ∀ e, entA A4 e = entA A e := fun e => by
              unfold entA
              rw [hA4 16 (by decide), hA4 17 (by decide), hA4 18 (by decide), hA4 19 (by decide), hA4 20 (by decide), hA4 21 (by decide), hA4 22 (by decide)]
            have hR4 : RfR (u2 (u2 I2 524 3 (nI (ccN I2 J2 R2 cs (I2 448 (ti j)) p2))) 521 3 (nI (rlC (u2 I2 524 3 (nI (ccN I2 J2 R2 cs (I2 448 (ti j)) p2))) J2 R2 A B cs (ti j) (pe q) 32).length)) A4 many s := ⟨(hI4 _ 11 (by omega) (by omega)).trans hR.1, by simp only [eA]; exact hR.2.1, hR.2.2.1.congr (hA4 23 (by decide)) (hA4 24 (by decide)), (hI4 _ 11 (by omega) (by omega)).trans hR.2.2.2.1, (hI4 _ 11 (by omega) (by omega)).trans hR.2.2.2.2⟩
            have hT4 : TxJ K2 (u2 (u2 I2 524 3 (nI (ccN I2 J2 R2 cs (I2 448 (ti j)) p2))) 521 3 (nI (rlC (u2 I2 524 3 (nI (ccN I2 J2 R2 cs (I2 448 (ti j)) p2))) J2 R2 A B cs (ti j) (pe q) 32).length)) R2 A4 B Ln n2 la (ti j) j := by
              obtain ⟨c1, c2, c3, c4, c5, c6, c7, c8⟩ := t8 j hj
              have hq11 := q1.1
              refine ⟨c1, ⟨c2.1, by omega⟩, hT2, by rw [hI4 _ _ (by omega) (by omega), hA4 25 (by decide)]; exact c4, by rw [hI4 _ _ (by omega) (by omega), hA4 26 (by decide)]; exact c5, by rw [hA4 26 (by decide)]; exact c6, by rw [hI4 _ _ (by omega) (by omega), hA4 27 (by decide)]; exact c7, fun k hk => ?_⟩
              have hw := c8 k hk
              unfold WrJ at hw ⊢
              rw [hA4 27 (by decide), hA4 28 (by decide), hA4 (ti j + 1) (by omega)]
              rcases hw with w | ⟨w1, w2, r, w3, w4, w5⟩ | w
              · exact Or.inl w
              · have h3 := u8 k hk r w3
                exact Or.inr (Or.inl ⟨w1, w2, r, w3, by omega, fun f hf => by rw [hI4 _ r w4 (fun z => by rw [z.1, hC.m] at h3; omega)]; exact w5 f hf⟩)
              · exact Or.inr (Or.inr w)
            have hrf4 : ∀ k, rfC (u2 (u2 I2 524 3 (nI (ccN I2 J2 R2 cs (I2 448 (ti j)) p2))) 521 3 (nI (rlC (u2 I2 524 3 (nI (ccN I2 J2 R2 cs (I2 448 (ti j)) p2))) J2 R2 A B cs (ti j) (pe q) 32).length)) J2 R2 A4 B cs (ti j) k = rfC I J R A B cs (ti j) k := fun k => rfC_cg (fun e he => ⟨(hcsx e he).1, hI4 4 e (kE e he).2.1 (by have := (kE e he).2.2; omega), (hcsx e he).2.2⟩) (hI4 448 _ (by omega) (by omega)) (hA4 _ (by omega))
            have hrow := fun {k : Nat} (hk : k < 32) => row_for hH4.2.1 hR4 hv hk hT4
            have hI4r : ∀ o, (∀ r, o = some r → K r = 3 ∧ r < n) → rwO (u2 (u2 I2 524 3 (nI (ccN I2 J2 R2 cs (I2 448 (ti j)) p2))) 521 3 (nI (rlC (u2 I2 524 3 (nI (ccN I2 J2 R2 cs (I2 448 (ti j)) p2))) J2 R2 A B cs (ti j) (pe q) 32).length)) o = rwO I o := fun o ho => by
              cases o with
              | none => rfl
              | some r =>
                obtain ⟨w1, w2⟩ := ho r rfl
                funext f
                show u2 (u2 I2 524 3 (nI (ccN I2 J2 R2 cs (I2 448 (ti j)) p2))) 521 3 (nI (rlC (u2 I2 524 3 (nI (ccN I2 J2 R2 cs (I2 448 (ti j)) p2))) J2 R2 A B cs (ti j) (pe q) 32).length) (192 + f) r = I (192 + f) r
                exact hI4 (192 + f) r w2 (fun z => by rw [z.1, hC.m] at w1; omega)
            have hnm4 : ∀ k, k < 32 → ∃ nm, nm < 2147483648 ∧ rfV A4 j k many 2 = nI nm := fun k hk => by
              obtain ⟨nm, n1, n3⟩ := hnames hj hk
              refine ⟨nm, n1, ?_⟩
              rw [← (hrow hk).2 2 (by decide), hrf4 k, hI4r _ (hrK k hk)]
              exact n3
            have eRL : (rlC (u2 I2 524 3 (nI (ccN I2 J2 R2 cs (I2 448 (ti j)) p2))) J2 R2 A B cs (ti j) (pe q) 32) = RLq A4 many j (pe q) 32 := by
              unfold rlC RLq
              refine List.filter_congr (fun k hk => ?_)
              have hk := List.mem_range.mp hk
              obtain ⟨w1, w2⟩ := hrow hk
              unfold hitC hitB
              rw [hrf3 k, ← w1, hrf4 k]
              cases hr : rfC I J R A B cs (ti j) k with
              | none => rfl
              | some r =>
                obtain ⟨v1, v2⟩ := hrK k hk r hr
                show decide (vlE (rwI (u2 I2 524 3 (nI (ccN I2 J2 R2 cs (I2 448 (ti j)) p2))) r) (pe q) = 1) = (true && decide (vlE (rfV A4 j k many) (pe q) = 1))
                rw [Bool.true_and]
                have ev : vlE (rwI (u2 I2 524 3 (nI (ccN I2 J2 R2 cs (I2 448 (ti j)) p2))) r) (pe q) = vlE (rfV A4 j k many) (pe q) := by
                  unfold vlE
                  rw [evE_congr (r := rfV A4 j k many) (r' := rwI (u2 I2 524 3 (nI (ccN I2 J2 R2 cs (I2 448 (ti j)) p2))) r) (fun f hf => ?_)]
                  rw [← w2 f hf, hrf4 k, hr]
                  show u2 I2 524 3 (nI (ccN I2 J2 R2 cs (I2 448 (ti j)) p2)) (192 + f) r = u2 (u2 I2 524 3 (nI (ccN I2 J2 R2 cs (I2 448 (ti j)) p2))) 521 3 (nI (rlC (u2 I2 524 3 (nI (ccN I2 J2 R2 cs (I2 448 (ti j)) p2))) J2 R2 A B cs (ti j) (pe q) 32).length) (192 + f) r
                  rw [hI3r r v1 v2, hI4 (192 + f) r v2 (fun z => by rw [z.1, hC.m] at v1; omega)]
                rw [ev]
            have hcn := cand_S hH4.2.1 hR4 hv hE (j := j) (pp := p2) (fun i hi => by have := PlanR.lt q5 i hi; omega)
            have ecc : ccN (u2 (u2 I2 524 3 (nI (ccN I2 J2 R2 cs (I2 448 (ti j)) p2))) 521 3 (nI (rlC (u2 I2 524 3 (nI (ccN I2 J2 R2 cs (I2 448 (ti j)) p2))) J2 R2 A B cs (ti j) (pe q) 32).length)) J2 R2 cs (A4 26 j) p2 = ccN I2 J2 R2 cs (I2 448 (ti j)) p2 := by
              have e26 : A4 26 j = I2 448 (ti j) := by
                rw [hA4 26 (by decide), hI2 448 _ (by omega) (by omega)]; exact (t8 j hj).2.2.2.2.1.symm
              rw [e26]
              have hcg : ∀ e ∈ cs, J2 3 e = J2 3 e ∧ u2 (u2 I2 524 3 (nI (ccN I2 J2 R2 cs (I2 448 (ti j)) p2))) 521 3 (nI (rlC (u2 I2 524 3 (nI (ccN I2 J2 R2 cs (I2 448 (ti j)) p2))) J2 R2 A B cs (ti j) (pe q) 32).length) 4 e = I2 4 e ∧ R2 5 e = R2 5 e ∧ u2 (u2 I2 524 3 (nI (ccN I2 J2 R2 cs (I2 448 (ti j)) p2))) 521 3 (nI (rlC (u2 I2 524 3 (nI (ccN I2 J2 R2 cs (I2 448 (ti j)) p2))) J2 R2 A B cs (ti j) (pe q) 32).length) 0 e = I2 0 e ∧ u2 (u2 I2 524 3 (nI (ccN I2 J2 R2 cs (I2 448 (ti j)) p2))) 521 3 (nI (rlC (u2 I2 524 3 (nI (ccN I2 J2 R2 cs (I2 448 (ti j)) p2))) J2 R2 A B cs (ti j) (pe q) 32).length) 1 e = I2 1 e := fun e he => by
                have := (kE e he).2.2
                have hz : ∀ f, u2 (u2 I2 524 3 (nI (ccN I2 J2 R2 cs (I2 448 (ti j)) p2))) 521 3 (nI (rlC (u2 I2 524 3 (nI (ccN I2 J2 R2 cs (I2 448 (ti j)) p2))) J2 R2 A B cs (ti j) (pe q) 32).length) f e = I2 f e := fun f => by rw [u2_ne2 (by omega), u2_ne2 (by omega)]
                exact ⟨rfl, hz 4, rfl, hz 0, hz 1⟩
              exact ccN_cg hcg
            have hq576 : u2 (u2 I2 524 3 (nI (ccN I2 J2 R2 cs (I2 448 (ti j)) p2))) 521 3 (nI (rlC (u2 I2 524 3 (nI (ccN I2 J2 R2 cs (I2 448 (ti j)) p2))) J2 R2 A B cs (ti j) (pe q) 32).length) 576 11 = nI (q + 1) := (hI4 _ 11 (by omega) (by omega)).trans pp2
            refine (sp_query (d := d + 56) hM4 ((hI4 _ 11 (by omega) (by omega)).trans t4) t1 hj (by rw [hA4 25 (by decide)]; exact hs) hq576 (by omega) (by rw [hA4 15 (by decide), y4, ht]; decide) hR4.1 (by omega) ((hI4 _ 11 (by omega) (by omega)).trans x4) hlt (ie := ie) (ex := pe q) (by unfold ExA; rw [hA4 12 (by decide), hA4 13 (by decide), hA4 14 (by decide)]; exact y3) y2.tree (fun i hi => ⟨by unfold ExA; rw [hA4 12 (by decide), hA4 13 (by decide), hA4 14 (by decide)]; exact x5 i hi, by obtain ⟨xx, _, w2, _⟩ := hX.2.2 i hi; exact w2.tree⟩) hnm4).mono ?_
            rintro r2 G2 ⟨e1, pq, I5, J5, A5, rfl, e2, e3, e4, e5, e6, e7, e8, e9, e10, e11⟩
            have epq : pq = p2 := plan_un e2 q5
            rw [epq] at e2 e3 e4 e5 e6
            refine ⟨by rw [e1, eRL], ?_⟩
            have hI5 : ∀ f i, i < n → ¬ (i = 3 ∧ (f = 513 ∨ f = 521 ∨ f = 522 ∨ f = 524)) → ¬ (i = 11 ∧ (f = 576 ∨ f = 603 ∨ f = 604 ∨ f = 605 ∨ f = 608)) → I5 f i = I f i := fun f i hi a1 a2 => (e9 f i (fun z => a2 ⟨z.1, by omega⟩)).trans (hI4 f i hi a1)
            have e5f : ∀ f, I5 f 3 = u2 (u2 I2 524 3 (nI (ccN I2 J2 R2 cs (I2 448 (ti j)) p2))) 521 3 (nI (rlC (u2 I2 524 3 (nI (ccN I2 J2 R2 cs (I2 448 (ti j)) p2))) J2 R2 A B cs (ti j) (pe q) 32).length) f 3 := fun f => e9 f 3 (by omega)
            have hA5 : ∀ i, i ≠ 10 → i ≠ 29 → i ≠ 30 → i ≠ 31 → A5 i = A i := fun i a1 a2 a3 a4 => (e11.1 i (by simp; omega)).trans (hA4 i a1)
            have hJ5 : ∀ f i, i ≠ 11 → J5 f i = J2 f i := fun f i hi => e10 f i (fun z => hi z.1)
            have hq11 := q1.1
            refine hP K2 I5 J5 R2 A5 n2 sl2 q (RLq A4 many j (pe q) 32).length p2 (h0.qy hq11 (fun i hi => (q1.2 i hi).1) (fun f i hi h11 => (hJ5 f i h11).trans ((q1.2 i hi).2.1 f)) hI5 (fun f i hi hf => (q1.2 i hi).2.2.2 f hf) hA5 (fun i hi => ?_) q3 ⟨?_, e7, RLq_len, fun i hi => ?_⟩ ⟨⟨?_, ?_⟩, e3, e4, e5, fun z => ?_, ?_⟩ ?_ e8 (by omega)) (by omega) (by omega)
            · obtain ⟨w1, w2, w3, w4, w5⟩ := hF4 i hi
              exact ⟨fun f => by rw [e9 f i (by omega)]; exact w1 f, fun f => by rw [hJ5 f i (by omega)]; exact w2 f, w3, fun z => by rw [e11.1 i (by simp; omega)]; exact w4 z, w5⟩
            · rw [e5f, u2_self, eRL]
            · have hg : (RLq A4 many j (pe q) 32)[i]? = some ((RLq A4 many j (pe q) 32)[i]'hi) := List.getElem?_eq_getElem hi
              rw [e11.2 i _ hg, e11.1 10 (by decide)]
              exact hA10 i _ (by rw [eRL]; exact hg)
            · rw [e5f, u2_ne1 (by decide), u2_ne1 (by decide)]; exact q4.1
            · rcases q4.2 with z | ⟨w1, qq, w2, w3, w4, w5⟩
              · exact Or.inl z
              · have hqq : qq ≠ 11 := fun z => by rw [z, (q1.2 11 (by omega)).1, k11] at w3; omega
                exact Or.inr ⟨w1, qq, w2, w3, (hJ5 _ _ hqq).trans w4, (hJ5 _ _ hqq).trans w5⟩
            · exact plan_z q5 z
            · rw [e5f, u2_ne1 (by decide), u2_self, e6, hcn, ecc]
            · rw [e5f, u2_ne1 (by decide), u2_ne1 (by decide), (q1.2 3 (by omega)).2.2.1 513 (by omega)]; exact u2_self
          have e521 : (u2 (u2 I2 524 3 (nI (ccN I2 J2 R2 cs (I2 448 (ti j)) p2))) 521 3 (nI (rlC (u2 I2 524 3 (nI (ccN I2 J2 R2 cs (I2 448 (ti j)) p2))) J2 R2 A B cs (ti j) (pe q) 32).length)) 521 3 = nI (rlC (u2 I2 524 3 (nI (ccN I2 J2 R2 cs (I2 448 (ti j)) p2))) J2 R2 A B cs (ti j) (pe q) 32).length := u2_self
          refine ev_aload_n dX8_query_43 rfl ?_
          refine ev_aload_n dX8_query_44 rfl ?_
          refine ev_getI dX8_query_45 fX8_121 kt2 ?_
          refine ev_callV dX8_query_48 okX8_countCandidates inX8_countCandidates seX8_countCandidates mlX8_124 hC2.m (by decide) rfl [iV _] rfl rfl (Nat.le_of_ble_eq_true rfl) (Nat.le_of_ble_eq_true rfl) (sc) (fun r_ G_ h_ => ?_)
          obtain ⟨rfl, rfl⟩ := h_
          try dsimp only [Option.toList, List.cons_append, List.nil_append]
          refine ev_aload_n dX8_query_51 rfl ?_
          refine ev_aload_n dX8_query_52 rfl ?_
          refine ev_aload_n dX8_query_53 rfl ?_
          refine ev_callV dX8_query_54 okX8_fillResult inX8_fillResult seX8_fillResult mlX8_127 hC2.m (by decide) rfl [rV _, rV _] rfl rfl (Nat.le_of_ble_eq_true rfl) (Nat.le_of_ble_eq_true rfl) (sr) (fun r_ G_ h_ => ?_)
          obtain ⟨rfl, A4, hA4, hA10, rfl⟩ := h_
          try dsimp only [Option.toList, List.cons_append, List.nil_append]
          refine ev_aload_n dX8_query_57 rfl ?_
          refine ev_getIv dX8_query_58 fX8_131 hC2.m e521 ?_
          refine ev_ireturn dX8_query_61 rfl ?_
          refine ⟨by first | exact hM.1 | exact h_.1 | exact hM1.1 | exact (hq2.2.1 11 (by omega)).1.trans hM1.1 | exact (y2.2.1 11 (by omega)).1.trans hM.1 | exact (q1.2 11 (by omega)).1.trans hM.1 | exact (va_up_ne _ _ (by omega)).trans hM.1 | exact (va_up_ne _ _ (by omega)).trans ((va_up_ne _ _ (by omega)).trans ((va_up_ne _ _ (by omega)).trans hM.1)), ?_⟩
          exact last A4 hA4 hA10
        refine ev_aload_n dX8_query_0 rfl ?_
        refine ev_iload_n dX8_query_1 rfl ?_
        refine ev_callV dX8_query_2 okX8_openOne inX8_openOne seX8_openOne mlX8_88 hC.m (by decide) rfl [iV _] rfl rfl (Nat.le_of_ble_eq_true rfl) (Nat.le_of_ble_eq_true rfl) (so) (fun r_ G_ h_ => ?_)
        obtain ⟨rfl, rfl⟩ := h_
        try dsimp only [Option.toList, List.cons_append, List.nil_append]
        refine ev_astore_nS dX8_query_5 (by decide) rfl ?_
        refine ev_aload_n dX8_query_6 rfl ?_
        refine ev_callV dX8_query_7 okX8_topOfPile inX8_topOfPile seX8_topOfPile mlX8_64 hC.m (by decide) rfl [] rfl rfl (Nat.le_of_ble_eq_true rfl) (Nat.le_of_ble_eq_true rfl) (cs_top1 hC p1 (by omega) y1) (fun r_ G_ h_ => ?_)
        obtain ⟨rfl, rfl⟩ := h_
        try dsimp only [Option.toList, List.cons_append, List.nil_append]
        refine ev_astore_nS dX8_query_10 (by decide) rfl ?_
        refine ev_aload_n dX8_query_11 rfl ?_
        refine ev_ifnull 26 dX8_query_12 (by decide) (fun c12 => by cases c12) (fun x c12 => ?_)
        refine ev_aload_n dX8_query_15 rfl ?_
        refine ev_ifnull 26 dX8_query_16 (by decide) (fun c16 => by cases c16) (fun x c16 => ?_)
        refine ev_aload_n dX8_query_19 rfl ?_
        refine ev_callV dX8_query_20 okX1_isBool inX1_isBool seX1_isBool mlX8_68 o2 (by decide) rfl [] rfl rfl (Nat.le_of_ble_eq_true rfl) (Nat.le_of_ble_eq_true rfl) (sb) (fun r_ G_ h_ => ?_)
        obtain ⟨rfl, rfl⟩ := h_
        try dsimp only [Option.toList, List.cons_append, List.nil_append]
        refine ev_if_ne 28 dX8_query_23 (by decide) (fun c23 => ?_) (fun c23 => absurd c23 (by decide))
        refine ev_aload_n dX8_query_28 rfl ?_
        refine ev_dup dX8_query_29 rfl ?_
        refine ev_getIv dX8_query_30 fX8_47 hC.m p1 ?_
        refine ev_iconstN 1 dX8_query_33 (by decide) ?_
        refine ev_isubN dX8_query_34 (by omega) ?_
        refine ev_putI dX8_query_35 fX8_47 (Or.inl rfl) (Or.inl rfl) hC.m ?_
        refine ev_aload_n dX8_query_38 rfl ?_
        refine ev_aload_n dX8_query_39 rfl ?_
        refine ev_callV dX8_query_40 okX8_choosePlan inX8_choosePlan seX8_choosePlan mlX8_117 hC.m (by decide) rfl [rV _] rfl rfl (Nat.le_of_ble_eq_true rfl) (Nat.le_of_ble_eq_true rfl) (sp) (fun r_ G_ h_ => ?_)
        obtain ⟨rfl, K2, I2, J2, R2, n2, sl2, p2, hq_, rfl⟩ := h_
        try dsimp only [Option.toList, List.cons_append, List.nil_append]
        exact fin K2 I2 J2 R2 n2 sl2 p2 hq_
  · have so := cs_openOne_no (X := X) (d := d + 58) (J := J) (A := A) (n := n) (sl := sl) hC t3 t1 hti (t := x) (fun j hj z => by rw [hsI j hj]; exact hno j hj z)
    have fno2 := fno (Or.inl hno)
    clear fno
    by_cases hz : pn = 0
    · subst hz
      refine ev_aload_n dX8_query_0 rfl ?_
      refine ev_iload_n dX8_query_1 rfl ?_
      refine ev_callV dX8_query_2 okX8_openOne inX8_openOne seX8_openOne mlX8_88 hC.m (by decide) rfl [iV _] rfl rfl (Nat.le_of_ble_eq_true rfl) (Nat.le_of_ble_eq_true rfl) (so) (fun r_ G_ h_ => ?_)
      obtain ⟨rfl, rfl⟩ := h_
      try dsimp only [Option.toList, List.cons_append, List.nil_append]
      refine ev_astore_nS dX8_query_5 (by decide) rfl ?_
      refine ev_aload_n dX8_query_6 rfl ?_
      refine ev_callV dX8_query_7 okX8_topOfPile inX8_topOfPile seX8_topOfPile mlX8_64 hC.m (by decide) rfl [] rfl rfl (Nat.le_of_ble_eq_true rfl) (Nat.le_of_ble_eq_true rfl) (cs_top0 hC p1) (fun r_ G_ h_ => ?_)
      obtain ⟨rfl, rfl⟩ := h_
      try dsimp only [Option.toList, List.cons_append, List.nil_append]
      refine ev_astore_nS dX8_query_10 (by decide) rfl ?_
      refine ev_aload_n dX8_query_11 rfl ?_
      refine ev_ifnull 26 dX8_query_12 (by decide) (fun c12 => ?_) (fun x c12 => by cases c12)
      refine ev_iconst (-1) dX8_query_26 (by decide) ?_
      refine ev_ireturn dX8_query_27 rfl ?_
      refine ⟨by first | exact hM.1 | exact h_.1 | exact hM1.1 | exact (hq2.2.1 11 (by omega)).1.trans hM1.1 | exact (y2.2.1 11 (by omega)).1.trans hM.1 | exact (q1.2 11 (by omega)).1.trans hM.1 | exact (va_up_ne _ _ (by omega)).trans hM.1 | exact (va_up_ne _ _ (by omega)).trans ((va_up_ne _ _ (by omega)).trans ((va_up_ne _ _ (by omega)).trans hM.1)), ?_⟩
      exact fno2
    · obtain ⟨q, rfl⟩ : ∃ q, pn = q + 1 := ⟨pn - 1, by omega⟩
      obtain ⟨y1, y2, y3, y4⟩ := p4 q (by omega)
      have o2 := y2.kind
      refine ev_aload_n dX8_query_0 rfl ?_
      refine ev_iload_n dX8_query_1 rfl ?_
      refine ev_callV dX8_query_2 okX8_openOne inX8_openOne seX8_openOne mlX8_88 hC.m (by decide) rfl [iV _] rfl rfl (Nat.le_of_ble_eq_true rfl) (Nat.le_of_ble_eq_true rfl) (so) (fun r_ G_ h_ => ?_)
      obtain ⟨rfl, rfl⟩ := h_
      try dsimp only [Option.toList, List.cons_append, List.nil_append]
      refine ev_astore_nS dX8_query_5 (by decide) rfl ?_
      refine ev_aload_n dX8_query_6 rfl ?_
      refine ev_callV dX8_query_7 okX8_topOfPile inX8_topOfPile seX8_topOfPile mlX8_64 hC.m (by decide) rfl [] rfl rfl (Nat.le_of_ble_eq_true rfl) (Nat.le_of_ble_eq_true rfl) (cs_top1 hC p1 (by omega) y1) (fun r_ G_ h_ => ?_)
      obtain ⟨rfl, rfl⟩ := h_
      try dsimp only [Option.toList, List.cons_append, List.nil_append]
      refine ev_astore_nS dX8_query_10 (by decide) rfl ?_
      refine ev_aload_n dX8_query_11 rfl ?_
      refine ev_ifnull 26 dX8_query_12 (by decide) (fun c12 => ?_) (fun x c12 => by cases c12)
      refine ev_iconst (-1) dX8_query_26 (by decide) ?_
      refine ev_ireturn dX8_query_27 rfl ?_
      refine ⟨by first | exact hM.1 | exact h_.1 | exact hM1.1 | exact (hq2.2.1 11 (by omega)).1.trans hM1.1 | exact (y2.2.1 11 (by omega)).1.trans hM.1 | exact (q1.2 11 (by omega)).1.trans hM.1 | exact (va_up_ne _ _ (by omega)).trans hM.1 | exact (va_up_ne _ _ (by omega)).trans ((va_up_ne _ _ (by omega)).trans ((va_up_ne _ _ (by omega)).trans hM.1)), ?_⟩
      exact fno2
end C98P
