def eS (x : EE) : Int32 := x.1
def eV (x : EE) : Int32 := x.2.1
def eK (x : EE) : Int32 := x.2.2.1
def eT (x : EE) : Int32 := x.2.2.2.1
def eL (x : EE) : Int32 := x.2.2.2.2.1
def eF (x : EE) : Int32 := x.2.2.2.2.2.1
def wF (x : EE) (v : Int32) : EE := (x.1, x.2.1, x.2.2.1, x.2.2.2.1, x.2.2.2.2.1, v, x.2.2.2.2.2.2)
/-- an entry, without the fields that a dead one has no use of -/
def nrmE (x : EE) : EE := if eL x = 0 then (x.1, x.2.1, x.2.2.1, x.2.2.2.1, 0, x.2.2.2.2.2.1, 0, 0, 0) else x
/-- an entry object -/
def entC (I : Nat → Nat → Int32) (R : Nat → Nat → Option Nat) (e : Nat) : EE := (I 0 e, I 1 e, I 2 e, I 4 e, lvR R e, nuF I R e, rwO I (R 5 e) 0, rwO I (R 5 e) 1, rwO I (R 5 e) 2)
def enN (I : Nat → Nat → Int32) (s v k t : Int32) (o : Option Nat) : EE := (s, v, k, t, (if o = none then 0 else 1), 0, rwO I o 0, rwO I o 1, rwO I o 2)
/-- the store with places, order and rows -/
def BsR (K : Nat → Nat) (I : Nat → Nat → Int32) (J : Nat → Nat → Int64) (R B : Nat → Nat → Option Nat) (Ln : Nat → Nat) (n a m : Nat) (cs fs : List Nat) (md : Nat) : Prop := StR K I R B Ln n a m cs fs md ∧ (∀ e ∈ cs, J 3 e = plcL (I 0 e) (I 1 e) (I 2 e) ∧ RgE (I 0 e) (I 2 e)) ∧ SrtR I J cs ∧ ∀ e ∈ cs, ∀ r, R 5 e = some r → K r = 3 ∧ r < n
/-- what taking entries in leaves -/
def BtF (K0 : Nat → Nat) (I0 : Nat → Nat → Int32) (J0 : Nat → Nat → Int64) (R0 B0 : Nat → Nat → Option Nat) (Ln0 : Nat → Nat) (n0 : Nat) (K : Nat → Nat) (I : Nat → Nat → Int32) (J : Nat → Nat → Int64) (R B : Nat → Nat → Option Nat) (Ln : Nat → Nat) (n : Nat) : Prop := n0 ≤ n ∧ ∀ i, i < n0 → K i = K0 i ∧ Ln i = Ln0 i ∧ (∀ f, J f i = J0 f i) ∧ (∀ f, R f i = R0 f i) ∧ (∀ f, ¬ (i = 7 ∧ (f = 385 ∨ f = 386)) → I f i = I0 f i) ∧ (i ≠ 8 → B i = B0 i)
def FrK (K : Nat → Nat) (n : Nat) : Prop := ∀ i, n ≤ i → 900 ≤ K i
section BTF
variable {K0 K K' : Nat → Nat} {I0 I I' : Nat → Nat → Int32} {J0 J J' : Nat → Nat → Int64} {R0 R R' B0 B B' : Nat → Nat → Option Nat} {Ln0 Ln Ln' : Nat → Nat} {n0 n n' : Nat}
theorem BtF.refl : BtF K I J R B Ln n K I J R B Ln n := ⟨Nat.le_refl _, fun _ _ => ⟨rfl, rfl, fun _ => rfl, fun _ => rfl, fun _ _ => rfl, fun _ => rfl⟩⟩
theorem BtF.trans (h : BtF K0 I0 J0 R0 B0 Ln0 n0 K I J R B Ln n) (g : BtF K I J R B Ln n K' I' J' R' B' Ln' n') : BtF K0 I0 J0 R0 B0 Ln0 n0 K' I' J' R' B' Ln' n' := by
  refine ⟨Nat.le_trans h.1 g.1, fun i hi => ?_⟩
  obtain ⟨a1, a2, a3, a4, a5, a6⟩ := h.2 i hi
  obtain ⟨b1, b2, b3, b4, b5, b6⟩ := g.2 i (Nat.lt_of_lt_of_le hi h.1)
  exact ⟨b1.trans a1, b2.trans a2, fun f => (b3 f).trans (a3 f), fun f => (b4 f).trans (a4 f), fun f hf => (b5 f hf).trans (a5 f hf), fun h8 => (b6 h8).trans (a6 h8)⟩
theorem BtF.cfix (h : BtF K0 I0 J0 R0 B0 Ln0 n0 K I J R B Ln n) (hn : 34 ≤ n0) (hC : CFix K0 R0 Ln0) : CFix K R Ln := hC.of (fun i hi => (h.2 i (by omega)).1) (fun i hi => (h.2 i (by omega)).2.1) (fun f _ => (h.2 3 (by omega)).2.2.2.1 f) ((h.2 7 (by omega)).2.2.2.1 _) ((h.2 7 (by omega)).2.2.2.1 _)
theorem BtF.expr (h : BtF K0 I0 J0 R0 B0 Ln0 n0 K I J R B Ln n) (hK : FrK K0 n0) (h7 : K0 7 = 6) {f i : Nat} {e : EX} (he : ExpR K0 I0 R0 f i e) : ExpR K I R f i e := he.congr (fun i hi => by
  have hin : i < n0 := by
    by_cases z : i < n0
    · exact z
    · have := hK i (by omega); omega
  obtain ⟨a1, a2, a3, a4, a5, a6⟩ := h.2 i hin
  exact ⟨a1.trans hi, fun f => a5 f (fun z => by rw [z.1, h7] at hi; omega), a4⟩)
theorem BtF.ixr (h : BtF K0 I0 J0 R0 B0 Ln0 n0 K I J R B Ln n) (hn : 34 ≤ n0) (hK : FrK K0 n0) (h7 : K0 7 = 6) {ixn : Nat} {ie : Nat → EX} (hX : IxR K0 I0 R0 B0 ixn ie) : IxR K I R B ixn ie := by
  obtain ⟨x1, x2, x3⟩ := hX
  refine ⟨((h.2 3 (by omega)).2.2.2.2.1 _ (by omega)).trans x1, x2, fun i hi => ?_⟩
  obtain ⟨x, y1, y2, y3⟩ := x3 i hi
  exact ⟨x, by rw [(h.2 5 (by omega)).2.2.2.2.2 (by decide)]; exact y1, h.expr hK h7 y2, y3⟩
theorem BtF.txo (h : BtF K0 I0 J0 R0 B0 Ln0 n0 K I J R B Ln n) (hn : 34 ≤ n0) {t : Nat} (ht : 34 ≤ t) (hT : TxO K0 R0 B0 Ln0 t) (hr : ∀ k, k < 32 → ∀ r, B0 (t + 2) k = some r → r < n0) (htn : t + 2 < n0) : TxO K R B Ln t := by
  obtain ⟨t1, t2, t3, t4, t5, t6, t7, t8⟩ := hT
  obtain ⟨a1, a2, a3, a4, a5, a6⟩ := h.2 t (by omega)
  obtain ⟨b1, b2, b3, b4, b5, b6⟩ := h.2 (t + 1) (by omega)
  obtain ⟨c1, c2, c3, c4, c5, c6⟩ := h.2 (t + 2) (by omega)
  refine ⟨a1.trans t1, (a4 _).trans t2, b1.trans t3, b2.trans t4, (a4 _).trans t5, c1.trans t6, c2.trans t7, fun k hk r hr' => ?_⟩
  rw [c6 (by omega)] at hr'
  exact ((h.2 r (hr k hk r hr')).1).trans (t8 k hk r hr')
theorem BtF.rw (h : BtF K0 I0 J0 R0 B0 Ln0 n0 K I J R B Ln n) {o : Option Nat} (ho : ∀ r, o = some r → r < n0 ∧ K0 r = 3) (h7 : K0 7 = 6) : rwO I o = rwO I0 o := by
  cases o with
  | none => rfl
  | some r =>
    obtain ⟨h1, h2⟩ := ho r rfl
    funext f
    show I (192 + f) r = I0 (192 + f) r
    exact (h.2 r h1).2.2.2.2.1 (192 + f) (fun z => by rw [z.1, h7] at h2; omega)
end BTF
theorem find_ins {p p' : Nat → Bool} {cs : List Nat} {c e : Nat} (h : ∀ x ∈ cs, p' x = p x) (he : p' e = false) : (insA cs c e).find? p' = cs.find? p := by
  have hp : ∀ l : List Nat, (∀ x ∈ l, x ∈ cs) → l.find? p' = l.find? p := fun l hl => by
    induction l with
    | nil => rfl
    | cons x l ih =>
      have ih := ih (fun y hy => hl y (List.mem_cons_of_mem _ hy))
      have hx := h x (hl x List.mem_cons_self)
      cases hb : p x with
      | true => rw [List.find?_cons_of_pos (by rw [hx, hb]), List.find?_cons_of_pos hb]
      | false => rw [List.find?_cons_of_neg (by rw [hx, hb]; decide), List.find?_cons_of_neg (by rw [hb]; decide)]; exact ih
  unfold insA
  rw [List.find?_append, List.find?_cons_of_neg (by rw [he]; decide), hp _ (fun x hx => List.mem_of_mem_take hx), hp _ (fun x hx => List.mem_of_mem_drop hx), ← List.find?_append, List.take_append_drop]
theorem rsC_ins {I I' : Nat → Nat → Int32} {J J' : Nat → Nat → Int64} {cs : List Nat} {c e : Nat} {q : Int64} {u : Int32} (h : ∀ x ∈ cs, J' 3 x = J 3 x ∧ I' 4 x = I 4 x) (he : ¬ I' 4 e ≤ u) : rsC I' J' (insA cs c e) q u = rsC I J cs q u := by
  unfold rsC
  refine find_ins (fun x hx => ?_) ?_
  · obtain ⟨h1, h2⟩ := h x hx
    rw [h1, h2]
  · rw [decide_eq_false he, Bool.and_false]
section C87
variable {X : CX} {d : Nat} {K : Nat → Nat} {I : Nat → Nat → Int32} {J : Nat → Nat → Int64} {R : Nat → Nat → Option Nat} {A : Nat → Nat → Int32} {B : Nat → Nat → Option Nat} {Ln : Nat → Nat} {n sl : Nat}
set_option maxRecDepth 100000 in
set_option maxHeartbeats 4000000 in
theorem cs_addE (hC : CFix K R Ln) {a m : Nat} {cs fs : List Nat} {md : Nat} (hS : BsR K I J R B Ln n a m cs fs md) (hn : 34 ≤ n) (hF : FrH I J R A B n) (hK : FrK K n) (hl : cs.length < 500) {s v k t : Int32} {o : Option Nat} (hr : RgE s k) (ho : ∀ r, o = some r → K r = 3 ∧ r < n) (hne : ∀ x ∈ cs, I 4 x = t → I 0 x = s → I 1 x = v → I 2 x = k → False) : EvM X mX6_add (d + 2) [rV (some 7), rV (some n)] ((va_up K n 0), (u2 (u2 (u2 (u2 I 0 n s) 1 n v) 2 n k) 4 n t), (u2 J 3 n (plcL s v k)), (u2 R 5 n o), A, B, Ln, (n + 1), (sl + 7)) (fun r_ G' => r_ = none ∧ ∃ I' B' cs', cs'.Perm (n :: cs) ∧ BsR (va_up K n 0) I' (u2 J 3 n (plcL s v k)) (u2 R 5 n o) B' Ln (n + 1) a m cs' fs md ∧ (cs'.map (entC I' (u2 R 5 n o))).Perm (enN I s v k t o :: cs.map (entC I R)) ∧ BtF K I J R B Ln n (va_up K n 0) I' (u2 J 3 n (plcL s v k)) (u2 R 5 n o) B' Ln (n + 1) ∧ FrH I' (u2 J 3 n (plcL s v k)) (u2 R 5 n o) A B' (n + 1) ∧ FrK (va_up K n 0) (n + 1) ∧ (∀ u, ¬ t ≤ u → ∀ q, rsC I' (u2 J 3 n (plcL s v k)) cs' q u = rsC I J cs q u) ∧ (I' 0 n = s ∧ I' 1 n = v ∧ I' 2 n = k ∧ I' 4 n = t) ∧ (∀ x ∈ cs, I' 0 x = I 0 x ∧ I' 1 x = I 1 x ∧ I' 2 x = I 2 x ∧ I' 4 x = I 4 x) ∧ G' = ((va_up K n 0), I', (u2 J 3 n (plcL s v k)), (u2 R 5 n o), A, B', Ln, (n + 1), (sl + 7))) := by
  obtain ⟨⟨⟨e1, e2, e3⟩, sA, ⟨sN1, sN2⟩, s4, s5, s6, s7, s8, s9, s10⟩, hpl, hO, hrw⟩ := hS
  have hIo : ∀ f i, i ≠ n → (u2 (u2 (u2 (u2 I 0 n s) 1 n v) 2 n k) 4 n t) f i = I f i := fun f i hi => by rw [u2_ne2 hi, u2_ne2 hi, u2_ne2 hi, u2_ne2 hi]
  have hJo : ∀ f i, i ≠ n → (u2 J 3 n (plcL s v k)) f i = J f i := fun f i hi => u2_ne2 hi
  have hRo : ∀ f i, i ≠ n → (u2 R 5 n o) f i = R f i := fun f i hi => u2_ne2 hi
  have hRo' : ∀ f, f ≠ 5 → u2 R 5 n o f n = R f n := fun f hf => u2_ne1 hf
  have hcn : ∀ x ∈ cs, x ≠ n := fun x hx => by have := (s4 x hx).2; omega
  have hfn : ∀ f ∈ fs, f ≠ n := fun f hf => by have := (s5 f hf).2; omega
  have hK1 : ∀ i, i ≠ n → (va_up K n 0) i = K i := fun i hi => va_up_ne _ _ hi
  have hC1 : CFix (va_up K n 0) (u2 R 5 n o) Ln := hC.of (fun i hi => hK1 i (by omega)) (fun _ _ => rfl) (fun f _ => hRo f 3 (by omega)) (hRo _ 7 (by omega)) (hRo _ 7 (by omega))
  have f0 : (u2 (u2 (u2 (u2 I 0 n s) 1 n v) 2 n k) 4 n t) 0 n = s := by rw [u2_ne1 (by decide), u2_ne1 (by decide), u2_ne1 (by decide)]; exact u2_self
  have f1 : (u2 (u2 (u2 (u2 I 0 n s) 1 n v) 2 n k) 4 n t) 1 n = v := by rw [u2_ne1 (by decide), u2_ne1 (by decide)]; exact u2_self
  have f2 : (u2 (u2 (u2 (u2 I 0 n s) 1 n v) 2 n k) 4 n t) 2 n = k := by rw [u2_ne1 (by decide)]; exact u2_self
  have f4 : (u2 (u2 (u2 (u2 I 0 n s) 1 n v) 2 n k) 4 n t) 4 n = t := u2_self
  have hE1 : EnR (va_up K n 0) (u2 (u2 (u2 (u2 I 0 n s) 1 n v) 2 n k) 4 n t) B cs := ⟨by rw [hIo _ _ (by omega)]; exact e1, e2, fun j x hj => by
    obtain ⟨z1, z2⟩ := e3 j x hj
    exact ⟨z1, by rw [hK1 x (hcn x (List.mem_of_getElem? hj))]; exact z2⟩⟩
  have hO1 : SrtR (u2 (u2 (u2 (u2 I 0 n s) 1 n v) 2 n k) 4 n t) (u2 J 3 n (plcL s v k)) cs := by
    refine List.Pairwise.imp_of_mem (fun {x y} hx hy h => ?_) hO
    rw [hIo _ _ (hcn x hx), hIo _ _ (hcn y hy), hJo _ _ (hcn x hx), hJo _ _ (hcn y hy)]
    exact h
  obtain ⟨c, hc, hb⟩ := srt_cb ((u2 J 3 n (plcL s v k)) 3 n) ((u2 (u2 (u2 (u2 I 0 n s) 1 n v) 2 n k) 4 n t) 4 n) hO1
  have sa := cs_add (X := X) (d := d) (A := A) (n := n + 1) (sl := sl + 7) hC1 hE1 hl (va_up_self _ _ _) hc hb
  refine sa.mono ?_
  rintro r_ G' ⟨rfl, B', b1, b2, rfl⟩
  let I' := u2 (u2 (u2 (u2 (u2 (u2 I 0 n s) 1 n v) 2 n k) 4 n t) 385 7 (nI (cs.length + 1))) 386 7 ((u2 (u2 (u2 (u2 I 0 n s) 1 n v) 2 n k) 4 n t) 386 7 + nI 1)
  have hI' : ∀ f i, ¬ (i = 7 ∧ (f = 385 ∨ f = 386)) → I' f i = (u2 (u2 (u2 (u2 I 0 n s) 1 n v) 2 n k) 4 n t) f i := fun f i hi => by
    show u2 (u2 _ 385 7 _) 386 7 _ f i = _
    unfold u2
    rw [if_neg (fun z => hi ⟨z.2, Or.inr z.1⟩), if_neg (fun z => hi ⟨z.2, Or.inl z.1⟩)]
  have hI'n : ∀ f, I' f n = (u2 (u2 (u2 (u2 I 0 n s) 1 n v) 2 n k) 4 n t) f n := fun f => hI' f n (by omega)
  have hI'o : ∀ f i, i ≠ n → ¬ (i = 7 ∧ (f = 385 ∨ f = 386)) → I' f i = I f i := fun f i h1 h2 => (hI' f i h2).trans (hIo f i h1)
  have hpm : (insA cs c n).Perm (n :: cs) := ins_perm
  have hmem : ∀ x, x ∈ insA cs c n ↔ x = n ∨ x ∈ cs := fun x => by rw [hpm.mem_iff, List.mem_cons]
  have hRn6 : R 6 n = none := (hF n (Nat.le_refl _)).2.2.1 6
  have hcx : ∀ x ∈ cs, I' 0 x = I 0 x ∧ I' 1 x = I 1 x ∧ I' 2 x = I 2 x ∧ I' 4 x = I 4 x := fun x hx => ⟨hI'o _ _ (hcn x hx) (by omega), hI'o _ _ (hcn x hx) (by omega), hI'o _ _ (hcn x hx) (by omega), hI'o _ _ (hcn x hx) (by omega)⟩
  have hrr : ∀ r, K r = 3 → r < n → ∀ f, I' f r = I f r := fun r h1 h2 f => hI'o f r (by omega) (fun z => by rw [z.1, hC.K_st] at h1; omega)
  have hff : ∀ f ∈ fs, ∀ g, I' g f = I g f := fun f hf g => hI'o g f (hfn f hf) (fun z => by have := (s5 f hf).1; omega)
  have hrwO : ∀ o', (∀ r, o' = some r → K r = 3 ∧ r < n) → rwO I' o' = rwO I o' := fun o' h => by
    cases o' with
    | none => rfl
    | some r => funext f; exact hrr r (h r rfl).1 (h r rfl).2 _
  have hent : ∀ x ∈ cs, entC I' (u2 R 5 n o) x = entC I R x := fun x hx => by
    unfold entC lvR nuF
    obtain ⟨z0, z1, z2, z4⟩ := hcx x hx
    rw [z0, z1, z2, z4, hRo 5 x (hcn x hx), hRo 6 x (hcn x hx), hrwO (R 5 x) (hrw x hx)]
    have : nmO I' (R 6 x) = nmO I (R 6 x) := nmO_congr (fun f hf => hff f (s8 x hx f hf) 320)
    rw [this]
  have hentn : entC I' (u2 R 5 n o) n = enN I s v k t o := by
    unfold entC lvR nuF enN
    rw [hI'n, hI'n, hI'n, hI'n, f0, f1, f2, f4, hRo' 6 (by decide), hRn6, show (u2 R 5 n o) 5 n = o from u2_self, hrwO o ho]
    rfl
  have hseg : ∀ f, segL (u2 R 5 n o) (insA cs c n) f = segL R cs f := fun f => by
    unfold segL insA
    rw [List.filter_append, List.filter_cons_of_neg (by rw [hRo' 6 (by decide), hRn6]; intro z; cases of_decide_eq_true z), ← List.filter_append, List.take_append_drop]
    exact List.filter_congr (fun x hx => by rw [hRo 6 x (hcn x hx)])
  refine ⟨rfl, I', B', insA cs c n, hpm, ⟨⟨b2 I' (by show u2 (u2 _ 385 7 _) 386 7 _ 385 7 = _; rw [u2_ne1 (by decide)]; exact u2_self), ?_, ⟨?_, sN2⟩, fun x hx => ?_, fun f hf => ?_, ?_, ?_, fun x hx f hf => ?_, fun f hf => ?_, fun f hf g hg hfg => ?_⟩, fun x hx => ?_, ?_, fun x hx r hr' => ?_⟩, ?_, ⟨by omega, fun i hi => ⟨hK1 i (by omega), rfl, fun f => hJo f i (by omega), fun f => hRo f i (by omega), fun f hf => hI'o f i (by omega) hf, fun h8 => b1 i h8⟩⟩, fun i hi => ?_, fun i hi => ?_, fun u hu q => ?_, ⟨(hI'n 0).trans f0, (hI'n 1).trans f1, (hI'n 2).trans f2, (hI'n 4).trans f4⟩, hcx, rfl⟩
  · obtain ⟨q1, q2, q3, q4, q5, q6⟩ := sA
    have ha8 : a ≠ 8 := by rcases q3 with ⟨z, -⟩ | ⟨z, -⟩ <;> omega
    refine ⟨by rw [hI'o _ _ (by omega) (by omega)]; exact q1, by rw [hRo _ _ (by omega)]; exact q2, ?_, q4, q5, fun j f hj => ?_⟩
    · rcases q3 with z | ⟨z1, z2, z3, z4⟩
      · exact Or.inl z
      · exact Or.inr ⟨z1, by omega, by rw [hK1 a (by omega)]; exact z3, z4⟩
    · obtain ⟨z1, z2⟩ := q6 j f hj
      exact ⟨by rw [b1 a ha8]; exact z1, by rw [hK1 f (hfn f (List.mem_of_getElem? hj))]; exact z2⟩
  · exact hpm.nodup_iff.mpr (List.nodup_cons.mpr ⟨fun z => hcn n z rfl, sN1⟩)
  · rcases (hmem x).mp hx with rfl | hx
    · omega
    · have := s4 x hx; omega
  · have := s5 f hf; omega
  · rw [hI'o _ _ (by omega) (by omega)]; exact s6
  · show u2 (u2 _ 385 7 _) 386 7 _ 386 7 = _
    rw [u2_self, hIo _ _ (by omega), s7, nI_add, hpm.countP_eq, List.countP_cons_of_pos (by unfold memB; exact decide_eq_true (by rw [hRo' 6 (by decide)]; exact hRn6)), List.countP_congr (p := memB (u2 R 5 n o)) (q := memB R) (fun x hx => by unfold memB; rw [hRo 6 x (hcn x hx)])]
  · rcases (hmem x).mp hx with rfl | hx
    · rw [hRo' 6 (by decide), hRn6] at hf; cases hf
    · rw [hRo 6 x (hcn x hx)] at hf; exact s8 x hx f hf
  · obtain ⟨z1, ⟨y1, y2, y3, y4⟩, kk, k1, k2, k3⟩ := s9 f hf
    refine ⟨by rw [hff f hf]; exact z1, ⟨?_, ?_, ?_, ?_⟩, kk, k1, k2, by rw [hff f hf]; exact k3⟩
    · rw [hseg]; exact y1
    · rw [hseg, hff f hf]; exact y2
    · rw [hseg, hRo _ _ (hfn f hf)]; exact y3
    · rw [hseg, hRo _ _ (hfn f hf)]; exact y4
  · rw [hff f hf, hff g hg] at hfg; exact s10 f hf g hg hfg
  · rcases (hmem x).mp hx with rfl | hx
    · rw [hI'n, hI'n, hI'n, f0, f1, f2]; exact ⟨u2_self, hr⟩
    · obtain ⟨z0, z1, z2, z4⟩ := hcx x hx
      rw [z0, z1, z2, hJo _ _ (hcn x hx)]; exact hpl x hx
  · have hs := ins_srt hO1 hc hb (fun x hx z => ?_)
    · refine List.Pairwise.imp (fun {x y} h => ?_) hs
      rw [hI' 4 x (by omega), hI' 4 y (by omega)]
      exact h
    · obtain ⟨z1, z2⟩ := z
      rw [hJo _ _ (hcn x hx), (hpl x hx).1, show (u2 J 3 n (plcL s v k)) 3 n = plcL s v k from u2_self] at z1
      rw [hIo _ _ (hcn x hx), f4] at z2
      obtain ⟨y1, y2, y3⟩ := (plc_eq (hpl x hx).2 hr).mp z1
      exact hne x hx z2 y1 y2 y3
  · rcases (hmem x).mp hx with rfl | hx
    · rw [show u2 R 5 x o 5 x = o from u2_self] at hr'
      obtain ⟨z1, z2⟩ := ho r hr'
      exact ⟨by rw [hK1 r (by omega)]; exact z1, by omega⟩
    · rw [hRo 5 x (hcn x hx)] at hr'
      obtain ⟨z1, z2⟩ := hrw x hx r hr'
      exact ⟨by rw [hK1 r (by omega)]; exact z1, by omega⟩
  · refine (hpm.map (entC I' (u2 R 5 n o))).trans ?_
    rw [List.map_cons, hentn]
    exact List.Perm.cons _ (by rw [List.map_congr_left hent])
  · obtain ⟨z1, z2, z3, z4, z5⟩ := hF i (by omega)
    exact ⟨fun f => by rw [hI'o f i (by omega) (by omega)]; exact z1 f, fun f => by rw [hJo f i (by omega)]; exact z2 f, fun f => by rw [hRo f i (by omega)]; exact z3 f, z4, fun j => by rw [b1 i (by omega)]; exact z5 j⟩
  · rw [hK1 i (by omega)]; exact hK i (by omega)
  · exact rsC_ins (fun x hx => ⟨hJo _ _ (hcn x hx), (hcx x hx).2.2.2⟩) (by rw [hI'n, f4]; exact hu)
end C87
