/-- which entries of the new stamp may be there -/
def NbP (k s : Nat) (a _b c : Int32) : Prop := ∃ kk ss, c = nI kk ∧ a = nI ss ∧ kk < 32 ∧ ss < 4 ∧ (kk < k ∨ (kk = k ∧ ss < s))
/-- the taking in of a batch in its midst: em taken so far -/
def BtI (K0 : Nat → Nat) (I0 : Nat → Nat → Int32) (J0 : Nat → Nat → Int64) (R0 B0 : Nat → Nat → Option Nat) (Ln : Nat → Nat) (n0 sl0 a m : Nat) (cs0 fs : List Nat) (md la : Nat) (A : Nat → Nat → Int32) (em : List EE) (P : Int32 → Int32 → Int32 → Prop) (K : Nat → Nat) (I : Nat → Nat → Int32) (J : Nat → Nat → Int64) (R B : Nat → Nat → Option Nat) (n sl : Nat) (cs : List Nat) : Prop :=
  BsR K I J R B Ln n a m cs fs md ∧ BtF K0 I0 J0 R0 B0 Ln n0 K I J R B Ln n ∧ FrH I J R A B n ∧ FrK K n ∧ (cs.map (entC I R)).Perm (cs0.map (entC I0 R0) ++ em) ∧ (∀ q, rsC I J cs q (nI la) = rsC I0 J0 cs0 q (nI la)) ∧ (∀ x ∈ cs, I 4 x = nI (la + 1) → P (I 0 x) (I 1 x) (I 2 x)) ∧ n = n0 + em.length ∧ sl = sl0 + 7 * em.length
section BTI
variable {K0 : Nat → Nat} {I0 : Nat → Nat → Int32} {J0 : Nat → Nat → Int64} {R0 B0 : Nat → Nat → Option Nat} {Ln : Nat → Nat} {n0 sl0 a m : Nat} {cs0 fs : List Nat} {md la : Nat} {A : Nat → Nat → Int32} {em : List EE} {P : Int32 → Int32 → Int32 → Prop} {K : Nat → Nat} {I : Nat → Nat → Int32} {J : Nat → Nat → Int64} {R B : Nat → Nat → Option Nat} {n sl : Nat} {cs : List Nat}
theorem BtI.len (h : BtI K0 I0 J0 R0 B0 Ln n0 sl0 a m cs0 fs md la A em P K I J R B n sl cs) : cs.length = cs0.length + em.length := by
  have := h.2.2.2.2.1.length_eq
  rw [List.length_map, List.length_append, List.length_map] at this
  exact this
theorem BtI.weak {P' : Int32 → Int32 → Int32 → Prop} {em' : List EE} (h : BtI K0 I0 J0 R0 B0 Ln n0 sl0 a m cs0 fs md la A em P K I J R B n sl cs) (hp : ∀ a b c, P a b c → P' a b c) (he : em.Perm em') : BtI K0 I0 J0 R0 B0 Ln n0 sl0 a m cs0 fs md la A em' P' K I J R B n sl cs := by
  obtain ⟨h1, h2, h3, h4, h5, h6, h7, h8, h9⟩ := h
  exact ⟨h1, h2, h3, h4, h5.trans (he.append_left _), h6, fun x hx z => hp _ _ _ (h7 x hx z), by rw [← he.length_eq]; exact h8, by rw [← he.length_eq]; exact h9⟩
theorem BtI.add (h : BtI K0 I0 J0 R0 B0 Ln n0 sl0 a m cs0 fs md la A em P K I J R B n sl cs) (h7 : K0 7 = 6) (hla : la + 1 < 2147483648) {s v k : Int32} {o : Option Nat} (ho : ∀ r, o = some r → K0 r = 3 ∧ r < n0) {I' : Nat → Nat → Int32} {B' : Nat → Nat → Option Nat} {cs' : List Nat} (q1 : cs'.Perm (n :: cs)) (q2 : BsR (va_up K n 0) I' (u2 J 3 n (plcL s v k)) (u2 R 5 n o) B' Ln (n + 1) a m cs' fs md) (q3 : (cs'.map (entC I' (u2 R 5 n o))).Perm (enN I s v k (nI (la + 1)) o :: cs.map (entC I R))) (q4 : BtF K I J R B Ln n (va_up K n 0) I' (u2 J 3 n (plcL s v k)) (u2 R 5 n o) B' Ln (n + 1)) (q5 : FrH I' (u2 J 3 n (plcL s v k)) (u2 R 5 n o) A B' (n + 1)) (q6 : FrK (va_up K n 0) (n + 1)) (q7 : ∀ u, ¬ nI (la + 1) ≤ u → ∀ q, rsC I' (u2 J 3 n (plcL s v k)) cs' q u = rsC I J cs q u) (q8 : I' 0 n = s ∧ I' 1 n = v ∧ I' 2 n = k ∧ I' 4 n = nI (la + 1)) (q9 : ∀ x ∈ cs, I' 0 x = I 0 x ∧ I' 1 x = I 1 x ∧ I' 2 x = I 2 x ∧ I' 4 x = I 4 x) : BtI K0 I0 J0 R0 B0 Ln n0 sl0 a m cs0 fs md la A (em ++ [enN I0 s v k (nI (la + 1)) o]) (fun a b c => P a b c ∨ (a = s ∧ b = v ∧ c = k)) (va_up K n 0) I' (u2 J 3 n (plcL s v k)) (u2 R 5 n o) B' (n + 1) (sl + 7) cs' := by
  obtain ⟨h1, h2, h3, h4, h5, h6, h7', h8, h9⟩ := h
  have hen : enN I s v k (nI (la + 1)) o = enN I0 s v k (nI (la + 1)) o := by
    unfold enN
    rw [h2.rw (fun r hr => ⟨(ho r hr).2, (ho r hr).1⟩) h7]
  rw [hen] at q3
  refine ⟨q2, h2.trans q4, q5, q6, ?_, fun q => ?_, fun x hx hz => ?_, by rw [List.length_append, h8]; rfl, by rw [List.length_append, h9]; simp only [List.length_singleton]; omega⟩
  · refine q3.trans ((List.Perm.cons _ h5).trans ?_)
    rw [← List.append_assoc]
    exact (List.perm_append_singleton _ _).symm
  · rw [q7 (nI la) (by rw [nle (by omega) (by omega)]; omega) q]; exact h6 q
  · rcases List.mem_cons.mp (q1.mem_iff.mp hx) with rfl | hx
    · exact Or.inr ⟨q8.1, q8.2.1, q8.2.2.1⟩
    · obtain ⟨z0, z1, z2, z4⟩ := q9 x hx
      rw [z4] at hz
      rw [z0, z1, z2]
      exact Or.inl (h7' x hx hz)
theorem BtF.new : BtF K I J R B Ln n (va_up K n 0) I J R B Ln (n + 1) := ⟨by omega, fun i hi => ⟨va_up_ne _ _ (by omega), rfl, fun _ => rfl, fun _ => rfl, fun _ _ => rfl, fun _ => rfl⟩⟩
end BTI
theorem rg_nI {s k : Nat} (hs : s < 4) (hk : k < 32) : RgE (nI s) (nI k) := by
  unfold RgE
  rw [nI_toInt (by omega), nI_toInt (by omega)]
  omega
theorem nbp_no {k s : Nat} {v : Int32} (hs : s < 4) (hk : k < 32) : ¬ NbP k s (nI s) v (nI k) := by
  rintro ⟨kk, ss, h1, h2, h3, h4, h5⟩
  have := (neq (by omega) (by omega)).mp h1
  have := (neq (by omega) (by omega)).mp h2
  omega
section C88
variable {X : CX} {d : Nat} {A : Nat → Nat → Int32} {Ln : Nat → Nat}
set_option maxRecDepth 100000 in
set_option maxHeartbeats 4000000 in
theorem ai_a {Q : Option LV → GH → Prop} {K0 : Nat → Nat} {I0 : Nat → Nat → Int32} {J0 : Nat → Nat → Int64} {R0 B0 : Nat → Nat → Option Nat} {n0 sl0 a m : Nat} {cs0 fs : List Nat} {md la ixn k : Nat} {ie : Nat → EX} (hC0 : CFix K0 R0 Ln) (hn0 : 34 ≤ n0) (hK0 : FrK K0 n0) (hX0 : IxR K0 I0 R0 B0 ixn ie) (hla : la + 1 < 2147483648) (hk : k < 32) {old now : Option Nat} (h1 : ∀ r, old = some r → K0 r = 3 ∧ r < n0) (h2 : ∀ r, now = some r → K0 r = 3 ∧ r < n0) {i : Nat} (hi : i < ixn) {em : List EE} {K : Nat → Nat} {I : Nat → Nat → Int32} {J : Nat → Nat → Int64} {R B : Nat → Nat → Option Nat} {n sl : Nat} {cs : List Nat} (hB : BtI K0 I0 J0 R0 B0 Ln n0 sl0 a m cs0 fs md la A em (NbP k (i + 1)) K I J R B n sl cs) (hcap : cs0.length + em.length < 500)
    (kont : ∀ (K : Nat → Nat) (I : Nat → Nat → Int32) (J : Nat → Nat → Int64) (R B : Nat → Nat → Option Nat) (n sl : Nat) (cs : List Nat) (em' : List EE), em' = em ++ (if goneB old.isSome now.isSome (vlE (rwO I0 old) (ie i)) (vlE (rwO I0 now) (ie i)) = true then [enN I0 (nI (i + 1)) (vlE (rwO I0 old) (ie i)) (nI k) (nI (la + 1)) none] else []) → BtI K0 I0 J0 R0 B0 Ln n0 sl0 a m cs0 fs md la A em' (fun a b c => NbP k (i + 1) a b c ∨ (goneB old.isSome now.isSome (vlE (rwO I0 old) (ie i)) (vlE (rwO I0 now) (ie i)) = true ∧ a = nI (i + 1) ∧ b = vlE (rwO I0 old) (ie i) ∧ c = nI k)) K I J R B n sl cs → Ev X mX8_addIndexEntries (d + 19) 52 [some (rV (some 3)), some (iV (nI k)), some (iV (nI (la + 1))), some (rV old), some (rV now), some (iV (nI (i)))] [] (K, I, J, R, A, B, Ln, n, sl) Q) : Ev X mX8_addIndexEntries (d + 19) 12 [some (rV (some 3)), some (iV (nI k)), some (iV (nI (la + 1))), some (rV old), some (rV now), some (iV (nI (i)))] [] (K, I, J, R, A, B, Ln, n, sl) Q := by
  have h7 := hC0.K_st
  have hC := hB.2.1.cfix hn0 hC0
  have hX := hB.2.1.ixr hn0 hK0 h7 hX0
  have hC' := (BtF.new (K := K) (I := I) (J := J) (R := R) (B := B) (Ln := Ln) (n := n)).cfix (by have := hB.2.1.1; omega) hC
  have hX' := (BtF.new (K := K) (I := I) (J := J) (R := R) (B := B) (Ln := Ln) (n := n)).ixr (by have := hB.2.1.1; omega) hB.2.2.2.1 hC.K_st hX
  have kn : va_up K n 0 n = 0 := va_up_self _ _ _
  have hnn := hB.2.1.1
  have hi3 : i < 3 := by have := hX0.2.1; omega
  have kk : ∀ {o : Option Nat}, (∀ r, o = some r → K0 r = 3 ∧ r < n0) → (∀ r, o = some r → K r = 3 ∧ r < n) := fun h r hr => by
    obtain ⟨z1, z2⟩ := h r hr
    exact ⟨by rw [(hB.2.1.2 r z2).1]; exact z1, by omega⟩
  have kk' : ∀ {o : Option Nat}, (∀ r, o = some r → K0 r = 3 ∧ r < n0) → (∀ r, o = some r → va_up K n 0 r = 3) := fun h r hr => by
    obtain ⟨z1, z2⟩ := kk h r hr
    rw [va_up_ne _ _ (by omega)]; exact z1
  have e1 := hB.2.1.rw (fun r hr => ⟨(h1 r hr).2, (h1 r hr).1⟩) h7
  have e2 := hB.2.1.rw (fun r hr => ⟨(h2 r hr).2, (h2 r hr).1⟩) h7
  have vI : ∀ {r : Nat} {o : Option Nat}, o = some r → rwI I r = rwO I o := fun h => by rw [h]; rfl
  have s1 := cs_hasOwn (X := X) (d := d) (J := J) (A := A) (n := n) (sl := sl) hC hX hi (fun r hr => (kk h1 r hr).1) (fun r hr => (kk h2 r hr).1)
  rw [e1, e2] at s1
  cases b1 : goneB old.isSome now.isSome (vlE (rwO I0 old) (ie i)) (vlE (rwO I0 now) (ie i)) with
  | false =>
    rw [b1] at s1
    have kont := kont K I J R B n sl cs em (by rw [b1, if_neg (by decide), List.append_nil]) (hB.weak (fun a b c h => Or.inl h) (List.Perm.refl _))
    refine ev_aload_n dX8_addIndexEntries_12 rfl ?_
    refine ev_iload dX8_addIndexEntries_13 rfl ?_
    refine ev_aload_n dX8_addIndexEntries_15 rfl ?_
    refine ev_aload dX8_addIndexEntries_16 rfl ?_
    refine ev_callV dX8_addIndexEntries_18 okX8_hasOwnValue inX8_hasOwnValue seX8_hasOwnValue mlX8_244 hC.m (by decide) rfl [iV _, rV _, rV _] rfl rfl (Nat.le_of_ble_eq_true rfl) (Nat.le_of_ble_eq_true rfl) (s1) (fun r_ G_ h_ => ?_)
    obtain ⟨rfl, rfl⟩ := h_
    try dsimp only [Option.toList, List.cons_append, List.nil_append]
    refine ev_if_eq 52 dX8_addIndexEntries_21 (by decide) (fun c21 => ?_) (fun c21 => absurd c21 (fun z => z rfl))
    exact kont
  | true =>
    rw [b1] at s1
    obtain ⟨r, hr⟩ : ∃ r, old = some r := by
      cases old with
      | none => cases b1
      | some r => exact ⟨r, rfl⟩
    subst hr
    have sv := cs_valueIn (X := X) (d := d + 1) (J := J) (A := A) (n := n + 1) (sl := sl + 7) hC' hX' hi (kk' h1 r rfl)
    rw [vI (o := some r) rfl, e1] at sv
    have kr := (kk h1 r rfl).1
    have sa := cs_addE (X := X) (d := d + 16) (sl := sl) (s := nI (i + 1)) (v := vlE (rwO I0 (some r)) (ie i)) (k := nI k) (t := nI (la + 1)) (o := none) hC hB.1 (by omega) hB.2.2.1 hB.2.2.2.1 (by rw [hB.len]; exact hcap) (rg_nI (by omega) hk) (fun r hr => by cases hr) (fun x hx z1 z2 z3 z4 => by have := hB.2.2.2.2.2.2.1 x hx z1; rw [z2, z3, z4] at this; exact nbp_no (by omega) hk this)
    refine ev_aload_n dX8_addIndexEntries_12 rfl ?_
    refine ev_iload dX8_addIndexEntries_13 rfl ?_
    refine ev_aload_n dX8_addIndexEntries_15 rfl ?_
    refine ev_aload dX8_addIndexEntries_16 rfl ?_
    refine ev_callV dX8_addIndexEntries_18 okX8_hasOwnValue inX8_hasOwnValue seX8_hasOwnValue mlX8_244 hC.m (by decide) rfl [iV _, rV _, rV _] rfl rfl (Nat.le_of_ble_eq_true rfl) (Nat.le_of_ble_eq_true rfl) (s1) (fun r_ G_ h_ => ?_)
    obtain ⟨rfl, rfl⟩ := h_
    try dsimp only [Option.toList, List.cons_append, List.nil_append]
    refine ev_if_eq 52 dX8_addIndexEntries_21 (by decide) (fun c21 => absurd c21 (by decide)) (fun c21 => ?_)
    refine ev_aload_n dX8_addIndexEntries_24 rfl ?_
    refine ev_getR dX8_addIndexEntries_25 fX8_27 hC.m hC.R_st ?_
    refine ev_new dX8_addIndexEntries_28 nwX8_256 ?_
    refine ev_dup dX8_addIndexEntries_31 rfl ?_
    refine ev_iload dX8_addIndexEntries_32 rfl ?_
    refine ev_iconstN 1 dX8_addIndexEntries_34 (by decide) ?_
    refine ev_iaddN dX8_addIndexEntries_35 ?_
    refine ev_aload_n dX8_addIndexEntries_36 rfl ?_
    refine ev_iload dX8_addIndexEntries_37 rfl ?_
    refine ev_aload_n dX8_addIndexEntries_39 rfl ?_
    refine ev_callV dX8_addIndexEntries_40 okX8_valueIn inX8_valueIn seX8_valueIn mlX8_248 hC'.m (by decide) rfl [iV _, rV _] rfl rfl (Nat.le_of_ble_eq_true rfl) (Nat.le_of_ble_eq_true rfl) (sv) (fun r_ G_ h_ => ?_)
    obtain ⟨rfl, rfl⟩ := h_
    try dsimp only [Option.toList, List.cons_append, List.nil_append]
    refine ev_iload_n dX8_addIndexEntries_43 rfl ?_
    refine ev_iload_n dX8_addIndexEntries_44 rfl ?_
    refine ev_null dX8_addIndexEntries_45 ?_
    refine ev_callI dX8_addIndexEntries_46 okX0_init inX0_init rfl rfl mlX8_258 [iV _, iV _, iV _, iV _, rV _] rfl rfl (Nat.le_of_ble_eq_true rfl) (Nat.le_of_ble_eq_true rfl) (cs_newEntry kn) (fun r_ G_ h_ => ?_)
    obtain ⟨rfl, rfl⟩ := h_
    try dsimp only [Option.toList, List.cons_append, List.nil_append]
    refine ev_callV dX8_addIndexEntries_49 okX6_add inX6_add seX6_add mlX8_261 hC'.K_st (by decide) rfl [rV _] rfl rfl (Nat.le_of_ble_eq_true rfl) (Nat.le_of_ble_eq_true rfl) (sa) (fun r_ G_ h_ => ?_)
    obtain ⟨rfl, I', B', cs', q1, q2, q3, q4, q5, q6, q7, q8, q9, rfl⟩ := h_
    try dsimp only [Option.toList, List.cons_append, List.nil_append]
    have hB' := hB.add h7 hla (o := none) (fun r hr => by cases hr) q1 q2 q3 q4 q5 q6 q7 q8 q9
    exact kont _ I' _ _ B' _ _ cs' _ (by rw [b1, if_pos rfl]) (hB'.weak (fun a b c h => h.imp id (fun z => ⟨b1, z⟩)) (List.Perm.refl _))
theorem ai_b {Q : Option LV → GH → Prop} {K0 : Nat → Nat} {I0 : Nat → Nat → Int32} {J0 : Nat → Nat → Int64} {R0 B0 : Nat → Nat → Option Nat} {n0 sl0 a m : Nat} {cs0 fs : List Nat} {md la ixn k : Nat} {ie : Nat → EX} (hC0 : CFix K0 R0 Ln) (hn0 : 34 ≤ n0) (hK0 : FrK K0 n0) (hX0 : IxR K0 I0 R0 B0 ixn ie) (hla : la + 1 < 2147483648) (hk : k < 32) {old now : Option Nat} (h1 : ∀ r, old = some r → K0 r = 3 ∧ r < n0) (h2 : ∀ r, now = some r → K0 r = 3 ∧ r < n0) {i : Nat} (hi : i < ixn) {em : List EE} {K : Nat → Nat} {I : Nat → Nat → Int32} {J : Nat → Nat → Int64} {R B : Nat → Nat → Option Nat} {n sl : Nat} {cs : List Nat} (hB : BtI K0 I0 J0 R0 B0 Ln n0 sl0 a m cs0 fs md la A em (fun a b c => NbP k (i + 1) a b c ∨ (goneB old.isSome now.isSome (vlE (rwO I0 old) (ie i)) (vlE (rwO I0 now) (ie i)) = true ∧ a = nI (i + 1) ∧ b = vlE (rwO I0 old) (ie i) ∧ c = nI k)) K I J R B n sl cs) (hcap : cs0.length + em.length < 500 ∨ goneB now.isSome old.isSome (vlE (rwO I0 old) (ie i)) (vlE (rwO I0 now) (ie i)) = false)
    (kont : ∀ (K : Nat → Nat) (I : Nat → Nat → Int32) (J : Nat → Nat → Int64) (R B : Nat → Nat → Option Nat) (n sl : Nat) (cs : List Nat) (em' : List EE), em' = em ++ (if goneB now.isSome old.isSome (vlE (rwO I0 old) (ie i)) (vlE (rwO I0 now) (ie i)) = true then [enN I0 (nI (i + 1)) (vlE (rwO I0 now) (ie i)) (nI k) (nI (la + 1)) now] else []) → BtI K0 I0 J0 R0 B0 Ln n0 sl0 a m cs0 fs md la A em' (NbP k (i + 2)) K I J R B n sl cs → Ev X mX8_addIndexEntries (d + 19) 3 [some (rV (some 3)), some (iV (nI k)), some (iV (nI (la + 1))), some (rV old), some (rV now), some (iV (nI (i + 1)))] [] (K, I, J, R, A, B, Ln, n, sl) Q) : Ev X mX8_addIndexEntries (d + 19) 52 [some (rV (some 3)), some (iV (nI k)), some (iV (nI (la + 1))), some (rV old), some (rV now), some (iV (nI (i)))] [] (K, I, J, R, A, B, Ln, n, sl) Q := by
  have h7 := hC0.K_st
  have hC := hB.2.1.cfix hn0 hC0
  have hX := hB.2.1.ixr hn0 hK0 h7 hX0
  have hC' := (BtF.new (K := K) (I := I) (J := J) (R := R) (B := B) (Ln := Ln) (n := n)).cfix (by have := hB.2.1.1; omega) hC
  have hX' := (BtF.new (K := K) (I := I) (J := J) (R := R) (B := B) (Ln := Ln) (n := n)).ixr (by have := hB.2.1.1; omega) hB.2.2.2.1 hC.K_st hX
  have kn : va_up K n 0 n = 0 := va_up_self _ _ _
  have hnn := hB.2.1.1
  have hi3 : i < 3 := by have := hX0.2.1; omega
  have kk : ∀ {o : Option Nat}, (∀ r, o = some r → K0 r = 3 ∧ r < n0) → (∀ r, o = some r → K r = 3 ∧ r < n) := fun h r hr => by
    obtain ⟨z1, z2⟩ := h r hr
    exact ⟨by rw [(hB.2.1.2 r z2).1]; exact z1, by omega⟩
  have kk' : ∀ {o : Option Nat}, (∀ r, o = some r → K0 r = 3 ∧ r < n0) → (∀ r, o = some r → va_up K n 0 r = 3) := fun h r hr => by
    obtain ⟨z1, z2⟩ := kk h r hr
    rw [va_up_ne _ _ (by omega)]; exact z1
  have e1 := hB.2.1.rw (fun r hr => ⟨(h1 r hr).2, (h1 r hr).1⟩) h7
  have e2 := hB.2.1.rw (fun r hr => ⟨(h2 r hr).2, (h2 r hr).1⟩) h7
  have vI : ∀ {r : Nat} {o : Option Nat}, o = some r → rwI I r = rwO I o := fun h => by rw [h]; rfl
  have s1 := cs_hasOwn (X := X) (d := d) (J := J) (A := A) (n := n) (sl := sl) hC hX hi (fun r hr => (kk h2 r hr).1) (fun r hr => (kk h1 r hr).1)
  rw [e1, e2, goneB_sw] at s1
  have hw : ∀ a b c, (NbP k (i + 1) a b c ∨ (goneB old.isSome now.isSome (vlE (rwO I0 old) (ie i)) (vlE (rwO I0 now) (ie i)) = true ∧ a = nI (i + 1) ∧ b = vlE (rwO I0 old) (ie i) ∧ c = nI k)) ∨ (a = nI (i + 1) ∧ b = vlE (rwO I0 now) (ie i) ∧ c = nI k) → NbP k (i + 2) a b c := by
    rintro a b c ((⟨kk, ss, z1, z2, z3, z4, z5⟩ | ⟨-, z1, z2, z3⟩) | ⟨z1, z2, z3⟩)
    · exact ⟨kk, ss, z1, z2, z3, z4, by omega⟩
    · exact ⟨k, i + 1, z3, z1, hk, by omega, by omega⟩
    · exact ⟨k, i + 1, z3, z1, hk, by omega, by omega⟩
  cases b1 : goneB now.isSome old.isSome (vlE (rwO I0 old) (ie i)) (vlE (rwO I0 now) (ie i)) with
  | false =>
    rw [b1] at s1
    have kont := kont K I J R B n sl cs em (by rw [b1, if_neg (by decide), List.append_nil]) (hB.weak (fun a b c h => hw a b c (Or.inl h)) (List.Perm.refl _))
    refine ev_aload_n dX8_addIndexEntries_52 rfl ?_
    refine ev_iload dX8_addIndexEntries_53 rfl ?_
    refine ev_aload dX8_addIndexEntries_55 rfl ?_
    refine ev_aload_n dX8_addIndexEntries_57 rfl ?_
    refine ev_callV dX8_addIndexEntries_58 okX8_hasOwnValue inX8_hasOwnValue seX8_hasOwnValue mlX8_244 hC.m (by decide) rfl [iV _, rV _, rV _] rfl rfl (Nat.le_of_ble_eq_true rfl) (Nat.le_of_ble_eq_true rfl) (s1) (fun r_ G_ h_ => ?_)
    obtain ⟨rfl, rfl⟩ := h_
    try dsimp only [Option.toList, List.cons_append, List.nil_append]
    refine ev_if_eq 94 dX8_addIndexEntries_61 (by decide) (fun c61 => ?_) (fun c61 => absurd c61 (fun z => z rfl))
    refine ev_iincNS (b := 1) dX8_addIndexEntries_94 rfl (by decide) (by decide) rfl ?_
    refine ev_goto 3 dX8_addIndexEntries_97 (by decide) ?_
    exact kont
  | true =>
    rw [b1] at s1 hcap
    obtain ⟨r, hr⟩ : ∃ r, now = some r := by
      cases now with
      | none => cases b1
      | some r => exact ⟨r, rfl⟩
    subst hr
    have hcap := hcap.resolve_right (by decide)
    have hvv : goneB old.isSome true (vlE (rwO I0 old) (ie i)) (vlE (rwO I0 (some r)) (ie i)) = true → ¬ vlE (rwO I0 (some r)) (ie i) = vlE (rwO I0 old) (ie i) := fun z => by
      unfold goneB at z
      rw [Bool.and_eq_true] at z
      exact of_decide_eq_true z.2
    have sv := cs_valueIn (X := X) (d := d + 1) (J := J) (A := A) (n := n + 1) (sl := sl + 7) hC' hX' hi (kk' h2 r rfl)
    rw [vI (o := some r) rfl, e2] at sv
    have kr := (kk h2 r rfl).1
    have sa := cs_addE (X := X) (d := d + 16) (sl := sl) (s := nI (i + 1)) (v := vlE (rwO I0 (some r)) (ie i)) (k := nI k) (t := nI (la + 1)) (o := some r) hC hB.1 (by omega) hB.2.2.1 hB.2.2.2.1 (by rw [hB.len]; exact hcap) (rg_nI (by omega) hk) (kk h2) (fun x hx z1 z2 z3 z4 => by
      have := hB.2.2.2.2.2.2.1 x hx z1
      rw [z2, z3, z4] at this
      rcases this with z | ⟨z, -, y, -⟩
      · exact nbp_no (by omega) hk z
      · exact hvv z y)
    refine ev_aload_n dX8_addIndexEntries_52 rfl ?_
    refine ev_iload dX8_addIndexEntries_53 rfl ?_
    refine ev_aload dX8_addIndexEntries_55 rfl ?_
    refine ev_aload_n dX8_addIndexEntries_57 rfl ?_
    refine ev_callV dX8_addIndexEntries_58 okX8_hasOwnValue inX8_hasOwnValue seX8_hasOwnValue mlX8_244 hC.m (by decide) rfl [iV _, rV _, rV _] rfl rfl (Nat.le_of_ble_eq_true rfl) (Nat.le_of_ble_eq_true rfl) (s1) (fun r_ G_ h_ => ?_)
    obtain ⟨rfl, rfl⟩ := h_
    try dsimp only [Option.toList, List.cons_append, List.nil_append]
    refine ev_if_eq 94 dX8_addIndexEntries_61 (by decide) (fun c61 => absurd c61 (by decide)) (fun c61 => ?_)
    refine ev_aload_n dX8_addIndexEntries_64 rfl ?_
    refine ev_getR dX8_addIndexEntries_65 fX8_27 hC.m hC.R_st ?_
    refine ev_new dX8_addIndexEntries_68 nwX8_256 ?_
    refine ev_dup dX8_addIndexEntries_71 rfl ?_
    refine ev_iload dX8_addIndexEntries_72 rfl ?_
    refine ev_iconstN 1 dX8_addIndexEntries_74 (by decide) ?_
    refine ev_iaddN dX8_addIndexEntries_75 ?_
    refine ev_aload_n dX8_addIndexEntries_76 rfl ?_
    refine ev_iload dX8_addIndexEntries_77 rfl ?_
    refine ev_aload dX8_addIndexEntries_79 rfl ?_
    refine ev_callV dX8_addIndexEntries_81 okX8_valueIn inX8_valueIn seX8_valueIn mlX8_248 hC'.m (by decide) rfl [iV _, rV _] rfl rfl (Nat.le_of_ble_eq_true rfl) (Nat.le_of_ble_eq_true rfl) (sv) (fun r_ G_ h_ => ?_)
    obtain ⟨rfl, rfl⟩ := h_
    try dsimp only [Option.toList, List.cons_append, List.nil_append]
    refine ev_iload_n dX8_addIndexEntries_84 rfl ?_
    refine ev_iload_n dX8_addIndexEntries_85 rfl ?_
    refine ev_aload dX8_addIndexEntries_86 rfl ?_
    refine ev_callI dX8_addIndexEntries_88 okX0_init inX0_init rfl rfl mlX8_258 [iV _, iV _, iV _, iV _, rV _] rfl rfl (Nat.le_of_ble_eq_true rfl) (Nat.le_of_ble_eq_true rfl) (cs_newEntry kn) (fun r_ G_ h_ => ?_)
    obtain ⟨rfl, rfl⟩ := h_
    try dsimp only [Option.toList, List.cons_append, List.nil_append]
    refine ev_callV dX8_addIndexEntries_91 okX6_add inX6_add seX6_add mlX8_261 hC'.K_st (by decide) rfl [rV _] rfl rfl (Nat.le_of_ble_eq_true rfl) (Nat.le_of_ble_eq_true rfl) (sa) (fun r_ G_ h_ => ?_)
    obtain ⟨rfl, I', B', cs', q1, q2, q3, q4, q5, q6, q7, q8, q9, rfl⟩ := h_
    try dsimp only [Option.toList, List.cons_append, List.nil_append]
    refine ev_iincNS (b := 1) dX8_addIndexEntries_94 rfl (by decide) (by decide) rfl ?_
    refine ev_goto 3 dX8_addIndexEntries_97 (by decide) ?_
    have hB' := hB.add h7 hla (o := some r) h2 q1 q2 q3 q4 q5 q6 q7 q8 q9
    exact kont _ I' _ _ B' _ _ cs' _ (by rw [b1, if_pos rfl]) (hB'.weak hw (List.Perm.refl _))
end C88
