/-- entries l appended to the file f: their home, its last entry, its size -/
def apR (f : Nat) (R : Nat → Nat → Option Nat) (l : List Nat) : Nat → Nat → Option Nat := l.foldl (fun R e => u2 (u2 R 6 e (some f)) 323 f (some e)) R
def apI (f : Nat) (I : Nat → Nat → Int32) (l : List Nat) : Nat → Nat → Int32 := l.foldl (fun I _ => u2 I 324 f (I 324 f + 1)) I
theorem apR_6 {f : Nat} : ∀ {l : List Nat} {R : Nat → Nat → Option Nat} {e : Nat}, apR f R l 6 e = if e ∈ l then some f else R 6 e
  | [], R, e => by simp [apR]
  | x :: l, R, e => by
    show apR f (u2 (u2 R 6 x (some f)) 323 f (some x)) l 6 e = _
    rw [apR_6, u2_ne1 (by decide)]
    by_cases h1 : e ∈ l
    · rw [if_pos h1, if_pos (List.mem_cons_of_mem _ h1)]
    · rw [if_neg h1]
      by_cases h2 : e = x
      · subst h2; rw [if_pos List.mem_cons_self]; exact u2_self
      · rw [if_neg (fun z => by rcases List.mem_cons.mp z with z | z; exact h2 z; exact h1 z), u2_ne2 h2]
theorem apR_ne {f : Nat} : ∀ {l : List Nat} {R : Nat → Nat → Option Nat} {g i : Nat}, ¬ (g = 6 ∧ i ∈ l) → ¬ (g = 323 ∧ i = f) → apR f R l g i = R g i
  | [], R, g, i, _, _ => rfl
  | x :: l, R, g, i, h1, h2 => by
    show apR f (u2 (u2 R 6 x (some f)) 323 f (some x)) l g i = _
    rw [apR_ne (fun z => h1 ⟨z.1, List.mem_cons_of_mem _ z.2⟩) h2]
    unfold u2
    rw [if_neg h2, if_neg (fun z => h1 ⟨z.1, by rw [z.2]; exact List.mem_cons_self⟩)]
theorem apR_last {f : Nat} : ∀ {l : List Nat} {R : Nat → Nat → Option Nat}, apR f R l 323 f = (l.getLast?).or (R 323 f)
  | [], R => rfl
  | [x], R => by show u2 (u2 R 6 x (some f)) 323 f (some x) 323 f = _; rw [u2_self]; rfl
  | x :: y :: l, R => by
    show apR f (u2 (u2 R 6 x (some f)) 323 f (some x)) (y :: l) 323 f = _
    rw [apR_last, List.getLast?_cons_cons, List.getLast?_cons]
    rfl
theorem apI_at {f : Nat} : ∀ {l : List Nat} {I : Nat → Nat → Int32}, apI f I l 324 f = I 324 f + nI l.length
  | [], I => by show I 324 f = I 324 f + nI 0; rw [show nI 0 = 0 from rfl, Int32.add_zero]
  | x :: l, I => by
    show apI f (u2 I 324 f (I 324 f + 1)) l 324 f = _
    rw [apI_at, u2_self, List.length_cons, Int32.add_assoc, show (1 : Int32) = nI 1 from rfl, nI_add, Nat.add_comm]
theorem apI_ne {f : Nat} : ∀ {l : List Nat} {I : Nat → Nat → Int32} {g i : Nat}, ¬ (g = 324 ∧ i = f) → apI f I l g i = I g i
  | [], I, g, i, _ => rfl
  | x :: l, I, g, i, h => by
    show apI f (u2 I 324 f (I 324 f + 1)) l g i = _
    rw [apI_ne h]
    unfold u2
    rw [if_neg h]
theorem CFix.of {K K' : Nat → Nat} {R R' : Nat → Nat → Option Nat} {Ln Ln' : Nat → Nat} (h : CFix K R Ln) (hK : ∀ i, i ≤ 10 → K' i = K i) (hL : ∀ i, i ≤ 10 → Ln' i = Ln i) (h3 : ∀ f, f = 512 ∨ f = 514 ∨ f = 516 ∨ f = 518 ∨ f = 520 → R' f 3 = R f 3) (h4 : R' 384 7 = R 384 7) (h5 : R' 387 7 = R 387 7) : CFix K' R' Ln' := by
  unfold CFix at h ⊢
  rw [hK 3 (by decide), hK 4 (by decide), hK 5 (by decide), hK 6 (by decide), hK 7 (by decide), hK 8 (by decide), hK 9 (by decide), hK 10 (by decide), hL 4 (by decide), hL 5 (by decide), hL 6 (by decide), hL 8 (by decide), hL 10 (by decide), h3 512 (by omega), h3 514 (by omega), h3 516 (by omega), h3 518 (by omega), h3 520 (by omega), h4, h5]
  exact h
theorem CFix.lo {K : Nat → Nat} {R R' : Nat → Nat → Option Nat} {Ln : Nat → Nat} (h : CFix K R Ln) (hR : ∀ f i, 384 ≤ f → i ≤ 8 → R' f i = R f i) : CFix K R' Ln := h.of (fun _ _ => rfl) (fun _ _ => rfl) (fun f hf => hR f 3 (by omega) (by omega)) (hR 384 7 (by omega) (by omega)) (hR 387 7 (by omega) (by omega))
/-- an entry that lies in memory -/
def memB (R : Nat → Nat → Option Nat) (e : Nat) : Bool := decide (R 6 e = none)
section C76
variable {X : CX} {d : Nat} {K : Nat → Nat} {I : Nat → Nat → Int32} {J : Nat → Nat → Int64} {R : Nat → Nat → Option Nat} {A : Nat → Nat → Int32} {B : Nat → Nat → Option Nat} {Ln : Nat → Nat} {n sl : Nat}
set_option maxRecDepth 100000 in
set_option maxHeartbeats 4000000 in
theorem lp_wa {Q : Option LV → GH → Prop} {w : Int32} {f : Nat} (hf : K f = 5) {cs : List Nat} (hnd : cs.Nodup) : ∀ (l pre : List Nat) (I : Nat → Nat → Int32) (R : Nat → Nat → Option Nat) (w4 : Option LV), CFix K R Ln → EnR K I B cs → cs = pre ++ l → Q (some (iV w)) (K, u2 (apI f I (l.filter (memB R))) 386 7 (nI 0), J, apR f R (l.filter (memB R)), A, B, Ln, n, sl) → Ev X mX6_writeMemoryOut (d + 8) 9 [some (rV (some 7)), some (iV w), some (rV (some f)), some (iV (nI (pre.length))), w4] [] (K, I, J, R, A, B, Ln, n, sl) Q := by
  intro l
  induction l with
  | nil =>
    intro pre I R w4 hC hE hcs hq
    have e2 : pre.length = cs.length := by rw [hcs]; simp
    have h5 : cs.length ≤ 500 := hE.2.1
    refine ev_iload_n dX6_writeMemoryOut_9 rfl ?_
    refine ev_aload_n dX6_writeMemoryOut_10 rfl ?_
    refine ev_getIv dX6_writeMemoryOut_11 fX6_24 hC.K_st hE.1 ?_
    refine ev_icmp_geN 61 dX6_writeMemoryOut_14 (by decide) (by omega) (by omega) (fun c14 => ?_) (fun c14 => absurd c14 (by omega))
    refine ev_aload_n dX6_writeMemoryOut_61 rfl ?_
    refine ev_iconstN 0 dX6_writeMemoryOut_62 (by decide) ?_
    refine ev_putI dX6_writeMemoryOut_63 fX6_43 (Or.inl rfl) (Or.inl rfl) hC.K_st ?_
    refine ev_iload_n dX6_writeMemoryOut_66 rfl ?_
    refine ev_ireturn dX6_writeMemoryOut_67 rfl ?_
    exact hq
  | cons e l ih =>
    intro pre I R w4 hC hE hcs hq
    have h5 : cs.length ≤ 500 := hE.2.1
    have e2 : pre.length < cs.length := by rw [hcs]; simp
    have hat : cs[pre.length]? = some e := by rw [hcs]; exact mid_at
    obtain ⟨hB, hK⟩ := hE.2.2 _ _ hat
    cases hr : R 6 e with
    | some x =>
      have hm : memB R e = false := by unfold memB; rw [hr]; rfl
      rw [List.filter_cons_of_neg (by rw [hm]; decide)] at hq
      have hgo := fun w4 => ih (pre ++ [e]) I R w4 hC hE (by rw [hcs]; simp) hq
      rw [List.length_append] at hgo
      refine ev_iload_n dX6_writeMemoryOut_9 rfl ?_
      refine ev_aload_n dX6_writeMemoryOut_10 rfl ?_
      refine ev_getIv dX6_writeMemoryOut_11 fX6_24 hC.K_st hE.1 ?_
      refine ev_icmp_geN 61 dX6_writeMemoryOut_14 (by decide) (by omega) (by omega) (fun c14 => absurd c14 (by omega)) (fun c14 => ?_)
      refine ev_aload_n dX6_writeMemoryOut_17 rfl ?_
      refine ev_getR dX6_writeMemoryOut_18 fX6_11 hC.K_st hC.R_es ?_
      refine ev_iload_n dX6_writeMemoryOut_21 rfl ?_
      refine ev_aald (q := 5) dX6_writeMemoryOut_22 hC.K_es (by decide) (by decide) hC.L_es (by decide) (by omega) hB ?_
      refine ev_astoreS dX6_writeMemoryOut_23 (by decide) rfl ?_
      refine ev_aload dX6_writeMemoryOut_25 rfl ?_
      refine ev_getR dX6_writeMemoryOut_27 fX6_67 hK hr ?_
      refine ev_ifnonnull 55 dX6_writeMemoryOut_30 (by decide) (fun x c30 => ?_) (fun c30 => by cases c30)
      refine ev_iincNS (b := 1) dX6_writeMemoryOut_55 rfl (by decide) (by decide) rfl ?_
      refine ev_goto 9 dX6_writeMemoryOut_58 (by decide) ?_
      exact hgo _
    | none =>
      have hm : memB R e = true := by unfold memB; rw [hr]; rfl
      rw [List.filter_cons_of_pos hm] at hq
      have hnl : e ∉ l := by
        rw [hcs] at hnd
        exact (List.nodup_cons.mp (List.nodup_append.mp hnd).2.1).1
      have hml : l.filter (memB (u2 (u2 R 6 e (some f)) 323 f (some e))) = l.filter (memB R) := by
        refine List.filter_congr (fun x hx => ?_)
        have hxe : x ≠ e := fun z => hnl (z ▸ hx)
        unfold memB
        rw [u2_ne1 (by decide), u2_ne2 hxe]
      have hgo := fun w4 => ih (pre ++ [e]) (u2 I 324 f (I 324 f + 1)) (u2 (u2 R 6 e (some f)) 323 f (some e)) w4 (hC.lo (fun g i hg hi => by rw [u2_ne1 (by omega), u2_ne1 (by omega)])) ⟨(u2_ne1 (by decide)).trans hE.1, hE.2⟩ (by rw [hcs]; simp) (by rw [hml]; exact hq)
      rw [List.length_append] at hgo
      refine ev_iload_n dX6_writeMemoryOut_9 rfl ?_
      refine ev_aload_n dX6_writeMemoryOut_10 rfl ?_
      refine ev_getIv dX6_writeMemoryOut_11 fX6_24 hC.K_st hE.1 ?_
      refine ev_icmp_geN 61 dX6_writeMemoryOut_14 (by decide) (by omega) (by omega) (fun c14 => absurd c14 (by omega)) (fun c14 => ?_)
      refine ev_aload_n dX6_writeMemoryOut_17 rfl ?_
      refine ev_getR dX6_writeMemoryOut_18 fX6_11 hC.K_st hC.R_es ?_
      refine ev_iload_n dX6_writeMemoryOut_21 rfl ?_
      refine ev_aald (q := 5) dX6_writeMemoryOut_22 hC.K_es (by decide) (by decide) hC.L_es (by decide) (by omega) hB ?_
      refine ev_astoreS dX6_writeMemoryOut_23 (by decide) rfl ?_
      refine ev_aload dX6_writeMemoryOut_25 rfl ?_
      refine ev_getR dX6_writeMemoryOut_27 fX6_67 hK hr ?_
      refine ev_ifnonnull 55 dX6_writeMemoryOut_30 (by decide) (fun x c30 => by cases c30) (fun c30 => ?_)
      refine ev_aload_n dX6_writeMemoryOut_33 rfl ?_
      refine ev_ifnonnull 47 dX6_writeMemoryOut_34 (by decide) (fun x c34 => ?_) (fun c34 => by cases c34)
      refine ev_aload_n dX6_writeMemoryOut_47 rfl ?_
      refine ev_astore_nS dX6_writeMemoryOut_48 (by decide) rfl ?_
      refine ev_aload_n dX6_writeMemoryOut_49 rfl ?_
      refine ev_aload dX6_writeMemoryOut_50 rfl ?_
      refine ev_callV dX6_writeMemoryOut_52 okX5_append inX5_append seX5_append mlX6_75 hf (by decide) rfl [rV _] rfl rfl (Nat.le_of_ble_eq_true rfl) (Nat.le_of_ble_eq_true rfl) (cs_append hf hK) (fun r_ G_ h_ => ?_)
      obtain ⟨rfl, rfl⟩ := h_
      try dsimp only [Option.toList, List.cons_append, List.nil_append]
      refine ev_iincNS (b := 1) dX6_writeMemoryOut_55 rfl (by decide) (by decide) rfl ?_
      refine ev_goto 9 dX6_writeMemoryOut_58 (by decide) ?_
      exact hgo _
set_option maxRecDepth 100000 in
set_option maxHeartbeats 4000000 in
theorem lp_wb {Q : Option LV → GH → Prop} (hC : CFix K R Ln) {cs : List Nat} (hE : EnR K I B cs) {a m : Nat} {fs : List Nat} (h : AlR K I R B Ln n a m fs) {w : Int32} {md : Nat} (hl : fs.length < 520) (hn : 34 ≤ n) (hel : ∀ g ∈ fs, g < n) (hcn : ∀ e ∈ cs, e < n) (hmd : I 388 7 = nI md) (hI : ∀ f, I f n = 0) (hnd : cs.Nodup) (ha8 : B 8 = B 8)
    (hq0 : (cs.filter (memB R)) = [] → Q (some (iV w)) (K, u2 I 386 7 (nI 0), J, R, A, B, Ln, n, sl)) (hq1 : ∀ e l, (cs.filter (memB R)) = e :: l → ∀ K' I' R' B' Ln' n' sl' a' m', AlR K' I' R' B' Ln' n' a' m' (fs ++ [n]) → NfF K I R B Ln n sl a m (nI (md + 1)) (nI 0) e K' I' R' B' Ln' n' sl' a' m' → Q (some (iV w)) (K', u2 (apI n I' (e :: l)) 386 7 (nI 0), J, apR n R' (e :: l), A, B', Ln', n', sl')) : ∀ (l pre : List Nat) (w4 : Option LV), cs = pre ++ l → (pre.filter (memB R)) = [] → Ev X mX6_writeMemoryOut (d + 8) 9 [some (rV (some 7)), some (iV w), some (rV none), some (iV (nI (pre.length))), w4] [] (K, I, J, R, A, B, Ln, n, sl) Q := by
  intro l
  induction l with
  | nil =>
    intro pre w4 hcs hpre
    have e2 : pre.length = cs.length := by rw [hcs]; simp
    have h5 : cs.length ≤ 500 := hE.2.1
    have hq := hq0 (by rw [hcs, List.append_nil]; exact hpre)
    refine ev_iload_n dX6_writeMemoryOut_9 rfl ?_
    refine ev_aload_n dX6_writeMemoryOut_10 rfl ?_
    refine ev_getIv dX6_writeMemoryOut_11 fX6_24 hC.K_st hE.1 ?_
    refine ev_icmp_geN 61 dX6_writeMemoryOut_14 (by decide) (by omega) (by omega) (fun c14 => ?_) (fun c14 => absurd c14 (by omega))
    refine ev_aload_n dX6_writeMemoryOut_61 rfl ?_
    refine ev_iconstN 0 dX6_writeMemoryOut_62 (by decide) ?_
    refine ev_putI dX6_writeMemoryOut_63 fX6_43 (Or.inl rfl) (Or.inl rfl) hC.K_st ?_
    refine ev_iload_n dX6_writeMemoryOut_66 rfl ?_
    refine ev_ireturn dX6_writeMemoryOut_67 rfl ?_
    exact hq
  | cons e l ih =>
    intro pre w4 hcs hpre
    have h5 : cs.length ≤ 500 := hE.2.1
    have e2 : pre.length < cs.length := by rw [hcs]; simp
    have hat : cs[pre.length]? = some e := by rw [hcs]; exact mid_at
    obtain ⟨hB, hK⟩ := hE.2.2 _ _ hat
    have hee : e < n := hcn e (by rw [hcs]; simp)
    cases hr : R 6 e with
    | some x =>
      have hm : memB R e = false := by unfold memB; rw [hr]; rfl
      have hgo := fun w4 => ih (pre ++ [e]) w4 (by rw [hcs]; simp) (by rw [List.filter_append, hpre, List.filter_cons_of_neg (by rw [hm]; decide)]; rfl)
      rw [List.length_append] at hgo
      refine ev_iload_n dX6_writeMemoryOut_9 rfl ?_
      refine ev_aload_n dX6_writeMemoryOut_10 rfl ?_
      refine ev_getIv dX6_writeMemoryOut_11 fX6_24 hC.K_st hE.1 ?_
      refine ev_icmp_geN 61 dX6_writeMemoryOut_14 (by decide) (by omega) (by omega) (fun c14 => absurd c14 (by omega)) (fun c14 => ?_)
      refine ev_aload_n dX6_writeMemoryOut_17 rfl ?_
      refine ev_getR dX6_writeMemoryOut_18 fX6_11 hC.K_st hC.R_es ?_
      refine ev_iload_n dX6_writeMemoryOut_21 rfl ?_
      refine ev_aald (q := 5) dX6_writeMemoryOut_22 hC.K_es (by decide) (by decide) hC.L_es (by decide) (by omega) hB ?_
      refine ev_astoreS dX6_writeMemoryOut_23 (by decide) rfl ?_
      refine ev_aload dX6_writeMemoryOut_25 rfl ?_
      refine ev_getR dX6_writeMemoryOut_27 fX6_67 hK hr ?_
      refine ev_ifnonnull 55 dX6_writeMemoryOut_30 (by decide) (fun x c30 => ?_) (fun c30 => by cases c30)
      refine ev_iincNS (b := 1) dX6_writeMemoryOut_55 rfl (by decide) (by decide) rfl ?_
      refine ev_goto 9 dX6_writeMemoryOut_58 (by decide) ?_
      exact hgo _
    | none =>
      have hm : memB R e = true := by unfold memB; rw [hr]; rfl
      have hfl : (cs.filter (memB R)) = e :: (l.filter (memB R)) := by rw [hcs, List.filter_append, hpre, List.filter_cons_of_pos hm]; rfl
      have hnl : e ∉ l := by
        have hnd2 := hnd
        rw [hcs] at hnd2
        exact (List.nodup_cons.mp (List.nodup_append.mp hnd2).2.1).1
      have sn := cs_newFile (X := X) (d := d) (J := J) (A := A) (sl := sl) (lv := nI 0) (e := e) hC h hl hn hel hmd hI
      have fin : ∀ K' I' R' B' Ln' n' sl' a' m', AlR K' I' R' B' Ln' n' a' m' (fs ++ [n]) → NfF K I R B Ln n sl a m (nI (md + 1)) (nI 0) e K' I' R' B' Ln' n' sl' a' m' → Ev X mX6_writeMemoryOut (d + 8) 49 [some (rV (some 7)), some (iV w), some (rV (some n)), some (iV (nI pre.length)), some (rV (some e))] [] (K', I', J, R', A, B', Ln', n', sl') Q := by
        intro K' I' R' B' Ln' n' sl' a' m' q1 q2
        have hq := hq1 e _ hfl K' I' R' B' Ln' n' sl' a' m' q1 q2
        obtain ⟨r1, ⟨r2, -⟩, r3, r4, r5, r6, r7⟩ := q2
        have hKe : K' e = 0 := by rw [(r3 e (by omega)).1]; exact hK
        have hC' : CFix K' R' Ln' := hC.of (fun i hi => (r3 i (by omega)).1) (fun i hi => (r3 i (by omega)).2) (fun f hf => r6 f 3 (by omega)) (r6 _ _ (by omega)) (r6 _ _ (by omega))
        have ha' : a' ≠ 8 := by
          rcases q1.2.2.1 with ⟨z, -⟩ | ⟨z, -⟩ <;> omega
        have hE' : EnR K' I' B' cs := ⟨by rw [r5 _ _ (by omega)]; exact hE.1, hE.2.1, fun j x hj => by
          obtain ⟨z1, z2⟩ := hE.2.2 j x hj
          obtain ⟨z3, z4⟩ := List.getElem?_eq_some_iff.mp hj
          have := hcn x (z4 ▸ List.getElem_mem z3)
          exact ⟨by rw [r7 8 (fun z => ha' z.symm)]; exact z1, by rw [(r3 x (by omega)).1]; exact z2⟩⟩
        have hml : l.filter (memB (u2 (u2 R' 6 e (some n)) 323 n (some e))) = l.filter (memB R) := by
          refine List.filter_congr (fun x hx => ?_)
          have := hcn x (by rw [hcs]; simp [hx])
          have hxe : x ≠ e := fun z => hnl (z ▸ hx)
          unfold memB
          rw [u2_ne1 (by decide), u2_ne2 hxe, r6 _ _ (by omega)]
        have hgo := fun w4 => lp_wa (X := X) (d := d) (J := J) (A := A) (B := B') (Ln := Ln') (n := n') (sl := sl') (Q := Q) (w := w) r2 hnd l (pre ++ [e]) (u2 I' 324 n (I' 324 n + 1)) (u2 (u2 R' 6 e (some n)) 323 n (some e)) w4 (hC'.lo (fun g i hg hi => by rw [u2_ne1 (by omega), u2_ne1 (by omega)])) ⟨(u2_ne1 (by decide)).trans hE'.1, hE'.2⟩ (by rw [hcs]; simp) (by rw [hml]; exact hq)
        rw [List.length_append] at hgo
        refine ev_aload_n dX6_writeMemoryOut_49 rfl ?_
        refine ev_aload dX6_writeMemoryOut_50 rfl ?_
        refine ev_callV dX6_writeMemoryOut_52 okX5_append inX5_append seX5_append mlX6_75 r2 (by decide) rfl [rV _] rfl rfl (Nat.le_of_ble_eq_true rfl) (Nat.le_of_ble_eq_true rfl) (cs_append r2 hKe) (fun r_ G_ h_ => ?_)
        obtain ⟨rfl, rfl⟩ := h_
        try dsimp only [Option.toList, List.cons_append, List.nil_append]
        refine ev_iincNS (b := 1) dX6_writeMemoryOut_55 rfl (by decide) (by decide) rfl ?_
        refine ev_goto 9 dX6_writeMemoryOut_58 (by decide) ?_
        exact hgo _
      refine ev_iload_n dX6_writeMemoryOut_9 rfl ?_
      refine ev_aload_n dX6_writeMemoryOut_10 rfl ?_
      refine ev_getIv dX6_writeMemoryOut_11 fX6_24 hC.K_st hE.1 ?_
      refine ev_icmp_geN 61 dX6_writeMemoryOut_14 (by decide) (by omega) (by omega) (fun c14 => absurd c14 (by omega)) (fun c14 => ?_)
      refine ev_aload_n dX6_writeMemoryOut_17 rfl ?_
      refine ev_getR dX6_writeMemoryOut_18 fX6_11 hC.K_st hC.R_es ?_
      refine ev_iload_n dX6_writeMemoryOut_21 rfl ?_
      refine ev_aald (q := 5) dX6_writeMemoryOut_22 hC.K_es (by decide) (by decide) hC.L_es (by decide) (by omega) hB ?_
      refine ev_astoreS dX6_writeMemoryOut_23 (by decide) rfl ?_
      refine ev_aload dX6_writeMemoryOut_25 rfl ?_
      refine ev_getR dX6_writeMemoryOut_27 fX6_67 hK hr ?_
      refine ev_ifnonnull 55 dX6_writeMemoryOut_30 (by decide) (fun x c30 => by cases c30) (fun c30 => ?_)
      refine ev_aload_n dX6_writeMemoryOut_33 rfl ?_
      refine ev_ifnonnull 47 dX6_writeMemoryOut_34 (by decide) (fun x c34 => by cases c34) (fun c34 => ?_)
      refine ev_aload_n dX6_writeMemoryOut_37 rfl ?_
      refine ev_iconstN 0 dX6_writeMemoryOut_38 (by decide) ?_
      refine ev_aload dX6_writeMemoryOut_39 rfl ?_
      refine ev_callV dX6_writeMemoryOut_41 okX6_newFile inX6_newFile seX6_newFile mlX6_71 hC.K_st (by decide) rfl [iV _, rV _] rfl rfl (Nat.le_of_ble_eq_true rfl) (Nat.le_of_ble_eq_true rfl) (sn) (fun r_ G_ h_ => ?_)
      obtain ⟨rfl, K', I', R', B', Ln', n', sl', a', m', q1, q2, rfl⟩ := h_
      try dsimp only [Option.toList, List.cons_append, List.nil_append]
      refine ev_goto 48 dX6_writeMemoryOut_44 (by decide) ?_
      refine ev_astore_nS dX6_writeMemoryOut_48 (by decide) rfl ?_
      exact fin K' I' R' B' Ln' n' sl' a' m' q1 q2
theorem cs_writeMem (hC : CFix K R Ln) {cs : List Nat} (hE : EnR K I B cs) {a m : Nat} {fs : List Nat} (h : AlR K I R B Ln n a m fs) {md : Nat} (hl : fs.length < 520) (hn : 34 ≤ n) (hel : ∀ g ∈ fs, g < n) (hcn : ∀ e ∈ cs, e < n) (hmd : I 388 7 = nI md) (hI : ∀ f, I f n = 0) (hnd : cs.Nodup) : EvM X mX6_writeMemoryOut (d + 8) [rV (some 7)] (K, I, J, R, A, B, Ln, n, sl) (fun r G' => r = some (iV (I 386 7)) ∧ (((cs.filter (memB R)) = [] ∧ G' = (K, u2 I 386 7 (nI 0), J, R, A, B, Ln, n, sl)) ∨ ∃ e l, (cs.filter (memB R)) = e :: l ∧ ∃ K' I' R' B' Ln' n' sl' a' m', AlR K' I' R' B' Ln' n' a' m' (fs ++ [n]) ∧ NfF K I R B Ln n sl a m (nI (md + 1)) (nI 0) e K' I' R' B' Ln' n' sl' a' m' ∧ G' = (K', u2 (apI n I' (e :: l)) 386 7 (nI 0), J, apR n R' (e :: l), A, B', Ln', n', sl'))) := by
  show Ev X mX6_writeMemoryOut (d + 8) 0 [some (rV (some 7)), none, none, none, none] [] (K, I, J, R, A, B, Ln, n, sl) _
  refine ev_aload_n dX6_writeMemoryOut_0 rfl ?_
  refine ev_getI dX6_writeMemoryOut_1 fX6_43 hC.K_st ?_
  refine ev_istore_nS dX6_writeMemoryOut_4 (by decide) rfl ?_
  refine ev_null dX6_writeMemoryOut_5 ?_
  refine ev_astore_nS dX6_writeMemoryOut_6 (by decide) rfl ?_
  refine ev_iconstN 0 dX6_writeMemoryOut_7 (by decide) ?_
  refine ev_istore_nS dX6_writeMemoryOut_8 (by decide) rfl ?_
  exact lp_wb hC hE h hl hn hel hcn hmd hI hnd rfl (fun z => ⟨rfl, Or.inl ⟨z, rfl⟩⟩) (fun e l hfl K' I' R' B' Ln' n' sl' a' m' q1 q2 => ⟨rfl, Or.inr ⟨e, l, hfl, K', I', R', B', Ln', n', sl', a', m', q1, q2, rfl⟩⟩) cs [] _ rfl rfl
end C76
