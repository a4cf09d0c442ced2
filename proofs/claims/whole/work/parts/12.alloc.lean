def NewL (own : String) (idx q : Nat) : Prop := Cond.classLink own idx (gRn q) ∈ lw_g ∧ Cond.instantiable (gRn q) (gnf q) ∈ lw_g ∧ Cond.initialized (gRn q) ∈ lw_g ∧ q < 11
theorem acI_in : Cond.arrayClass (newarray.typeOf .int) ∈ lw_g := lw_g_in (t1_in (List.mem_of_getElem? (i := 124) (by decide +kernel))) rfl
theorem acZ_in : Cond.arrayClass (newarray.typeOf .boolean) ∈ lw_g := lw_g_in (t1_in (List.mem_of_getElem? (i := 225) (by decide +kernel))) rfl
section ALLOC
variable {X : CX} {M : MD} {d pc : Nat} {L : List (Option LV)} {S : List LV} {Q : Option LV → GH → Prop} {K : Nat → Nat} {I : Nat → Nat → Int32} {J : Nat → Nat → Int64} {R : Nat → Nat → Option Nat} {A : Nat → Nat → Int32} {B : Nat → Nat → Option Nat} {Ln : Nat → Nat} {n sl : Nat}
theorem Rel.push {H H1 : Heap} {q N : Nat} {Ln1 : Nat → Nat} (hR : Rel X (K, I, J, R, A, B, Ln, n, sl) H) (hz : H1.size = H.size + 1) (ho : ∀ z : Nat, z < H.size → H1[z]? = H[z]?) (hq : q < 900) (hL : ∀ j, j ≠ n → Ln1 j = Ln j) (h1 : va_at X.2.1 gcl (cx_ad X n, cellE X (va_up K n q, I, J, R, A, B, Ln1, n + 1, sl + N) n) H1) : Rel X (va_up K n q, I, J, R, A, B, Ln1, n + 1, sl + N) H1 := by
  obtain ⟨⟨r1, r2⟩, r3, r4⟩ := hR
  refine ⟨⟨?_, ?_⟩, fun j hj => ?_, fun j hj => ?_⟩
  · show n + 1 + cx_b X = H1.size + 3
    have : n + cx_b X = H.size + 3 := r1
    omega
  · show 3 ≤ n + 1
    have : 3 ≤ n := r2
    omega
  · by_cases e : j = n
    · subst e
      exact ⟨r2, Nat.lt_succ_self _, h1⟩
    · have hj' : K j < 900 := by
        have : va_up K n q j < 900 := hj
        rwa [va_up_ne _ _ e] at this
      obtain ⟨a1, a2, a3⟩ := r3 j hj'
      refine ⟨a1, Nat.lt_succ_of_lt a2, ?_⟩
      rw [cellE_same (j := j) (G1 := (va_up K n q, I, J, R, A, B, Ln1, n + 1, sl + N)) (G := (K, I, J, R, A, B, Ln, n, sl)) (va_up_ne _ _ e) ⟨fun _ => rfl, fun _ => rfl, fun _ => rfl, rfl, rfl, hL j e⟩]
      exact a3.kept (ho _ a3.lt)
  · have hj' : n + 1 ≤ j := hj
    have e : j ≠ n := by omega
    exact Fresh.same (G1 := (va_up K n q, I, J, R, A, B, Ln1, n + 1, sl + N)) (G := (K, I, J, R, A, B, Ln, n, sl)) (va_up_ne _ _ e) ⟨fun _ => rfl, fun _ => rfl, fun _ => rfl, rfl, rfl, hL j e⟩ (r4 j (show n ≤ j by omega))
theorem Rel.top {H : Heap} (hR : Rel X (K, I, J, R, A, B, Ln, n, sl) H) : cx_ad X n = H.size := by
  have h1 : n + cx_b X = H.size + 3 := hR.1.1
  have h2 : 3 ≤ n := hR.1.2
  rw [cx_ad3 h2]
  omega
theorem va_S.grow {P : Nat → Prop} {H0 H H1 : Heap} {locs : List Loc} (h : va_S P H0 H locs) (hz : H1.size = H.size + 1) (ho : ∀ z : Nat, z < H.size → H1[z]? = H[z]?) : va_S P H0 H1 locs :=
  ⟨Nat.le_trans h.1 (by omega), fun z h1 h2 => (ho z (Nat.lt_of_lt_of_le h1 h.1)).trans (h.2.1 z h1 h2), h.2.2⟩
theorem gty_def : ∀ q, q < 11 → ∀ k, k < gnf q → (gty q k = .int ∨ gty q k = .boolean ∨ gty q k = .long ∨ (∃ c, gty q k = .object c) ∨ ∃ t, gty q k = .array t) := by
  intro q hq k hk
  have key : ∀ t : FieldType, (match t with | .int => true | .boolean => true | .long => true | .object _ => true | .array _ => true | _ => false) = true → (t = .int ∨ t = .boolean ∨ t = .long ∨ (∃ c, t = .object c) ∨ ∃ t', t = .array t') := by
    intro t h
    cases t <;> simp at h ⊢
  apply key
  have all : ∀ q, q < 11 → ∀ k, k < gnf q → (match gty q k with | .int => true | .boolean => true | .long => true | .object _ => true | .array _ => true | _ => false) = true := by decide +kernel
  exact all q hq k hk
theorem ev_new {idx q : Nat} (hd : decode M.2.1 pc = .ok (.new idx, 3)) (hl : NewL M.1.cls idx q) (k : Ev X M d (pc + 3) L (rV (some n) :: S) (va_up K n q, I, J, R, A, B, Ln, n + 1, sl + gnf q) Q) : Ev X M d pc L S (K, I, J, R, A, B, Ln, n, sl) Q := by
  refine Ev.al (N := gnf q) (G1 := (va_up K n q, I, J, R, A, B, Ln, n + 1, sl + gnf q)) rfl rfl ?_ k
  intro p e R' s m args below meth c C H locs cells slots ls Z hR hS hl' hc1 hc2 kk
  obtain ⟨hx, hb, hr, hml, hown, hts, hlk, hin, hK, -⟩ := C
  obtain ⟨h1, h2, h3, hq⟩ := hl
  have hKn := hK.1.1 q _ (gcl_at q hq)
  refine W.newcK hx hb hown (hts _ h1) (hts _ h2) (hts _ h3) rfl hd hc1 hc2 hKn.2.1 rfl fun H1 kC hkC e1 z1 o1 => ?_
  have hk1 : (va_up K n q) n = q := va_up_self _ _ _
  have hfr := hR.2.2 n (Nat.le_refl _)
  have hRel : Rel X (va_up K n q, I, J, R, A, B, Ln, n + 1, sl + gnf q) H1 := by
    refine hR.push z1 o1 (by omega) (fun _ _ => rfl) ?_
    rw [cellE_obj hk1 hq]
    refine ⟨_, gcl_at q hq, ?_⟩
    have hb2 := (u_born (gty q) hts (gin q hq) hKn hkC e1 (gty_ok q hq))
    rw [hR.top]
    refine hb2.to (fun j hj => ?_)
    show defaultValue (gty q j) = (fvs X (va_up K n q, I, J, R, A, B, Ln, n + 1, sl + gnf q) q n).getD j .null
    rw [List.getD_eq_getElem?_getD, fvs_at hj]
    obtain ⟨f1, f2, f3, -⟩ := hfr
    have g1 : I (64 * q + j) n = 0 := f1 _
    have g2 : J (64 * q + j) n = 0 := f2 _
    have g3 : R (64 * q + j) n = none := f3 _
    rcases gty_def q hq j hj with h | h | h | ⟨_, h⟩ | ⟨_, h⟩ <;> rw [h]
    · show Value.int 0 = Value.int (I (64 * q + j) n)
      rw [g1]
    · show Value.int 0 = Value.int (I (64 * q + j) n)
      rw [g1]
    · show Value.long 0 = Value.long (J (64 * q + j) n)
      rw [g2]
    · show Value.null = va_rf ((R (64 * q + j) n).map (cx_ad X))
      rw [g3]; rfl
    · show Value.null = va_rf ((R (64 * q + j) n).map (cx_ad X))
      rw [g3]; rfl
  have hk := kk H1 hRel (hS.grow z1 o1)
  have et : cx_v X (rV (some n)) = .ref H.size := by
    show Value.ref (cx_ad X n) = _
    rw [hR.top]
  simp only [List.map_cons, et] at hk
  exact hk
theorem ev_newI {j : Nat} (hd : decode M.2.1 pc = .ok (.newarray .int, 2)) (hj : j ≤ 65536) (k : Ev X M d (pc + 2) L (rV (some n) :: S) (va_up K n 100, I, J, R, A, B, va_up Ln n j, n + 1, sl + j) Q) : Ev X M d pc L (iV (nI j) :: S) (K, I, J, R, A, B, Ln, n, sl) Q := by
  refine Ev.al (N := j) (G1 := (va_up K n 100, I, J, R, A, B, va_up Ln n j, n + 1, sl + j)) rfl rfl ?_ k
  intro p e R' s m args below meth c C H locs cells slots ls Z hR hS hl' hc1 hc2 kk
  obtain ⟨hx, hb, hr, hml, hown, hts, hlk, hin, hK, -⟩ := C
  refine va_newaK hx hb (hts _ acI_in) rfl hd rfl (nI_pos (by omega)) (nI_clamp (by omega)) (by show j * 4 ≤ _; omega) hc1 hc2 rfl fun H1 cA e1 z1 o1 hAr hNm => ?_
  have hcA : cA = X.2.2.1 0 := Option.some.inj (hNm.symm.trans (hK.1.2 0 _ rfl).2)
  have hk1 : (va_up K n 100) n = 100 + 0 := va_up_self _ _ _
  obtain ⟨-, -, -, f4, -, -⟩ := hR.2.2 n (Nat.le_refl _)
  have hRel : Rel X (va_up K n 100, I, J, R, A, B, va_up Ln n j, n + 1, sl + j) H1 := by
    refine hR.push z1 o1 (by omega) (fun _ h => va_up_ne _ _ h) ?_
    rw [cellE_ia (q := 0) hk1 (by omega), hR.top]
    show H1[H.size]? = some (arrV _ (va_up Ln n j n) (fun t => .int (A n t)))
    rw [e1, hcA, va_up_self]
    exact congrArg (fun g => some (arrV (X.2.2.1 0) j g)) (funext fun t => by
      have : A n t = 0 := f4 t
      rw [this]; rfl)
  have hk := kk H1 hRel (hS.grow z1 o1)
  have et : cx_v X (rV (some n)) = .ref H.size := by
    show Value.ref (cx_ad X n) = _
    rw [hR.top]
  simp only [List.map_cons, et] at hk
  exact hk
theorem ev_newZ {j : Nat} (hd : decode M.2.1 pc = .ok (.newarray .boolean, 2)) (hj : j ≤ 65536) (k : Ev X M d (pc + 2) L (rV (some n) :: S) (va_up K n 101, I, J, R, A, B, va_up Ln n j, n + 1, sl + j) Q) : Ev X M d pc L (iV (nI j) :: S) (K, I, J, R, A, B, Ln, n, sl) Q := by
  refine Ev.al (N := j) (G1 := (va_up K n 101, I, J, R, A, B, va_up Ln n j, n + 1, sl + j)) rfl rfl ?_ k
  intro p e R' s m args below meth c C H locs cells slots ls Z hR hS hl' hc1 hc2 kk
  obtain ⟨hx, hb, hr, hml, hown, hts, hlk, hin, hK, -⟩ := C
  refine va_newaK hx hb (hts _ acZ_in) rfl hd rfl (nI_pos (by omega)) (nI_clamp (by omega)) (by show j * 1 ≤ _; omega) hc1 hc2 rfl fun H1 cA e1 z1 o1 hAr hNm => ?_
  have hcA : cA = X.2.2.1 1 := Option.some.inj (hNm.symm.trans (hK.1.2 1 _ rfl).2)
  have hk1 : (va_up K n 101) n = 100 + 1 := va_up_self _ _ _
  obtain ⟨-, -, -, f4, -, -⟩ := hR.2.2 n (Nat.le_refl _)
  have hRel : Rel X (va_up K n 101, I, J, R, A, B, va_up Ln n j, n + 1, sl + j) H1 := by
    refine hR.push z1 o1 (by omega) (fun _ h => va_up_ne _ _ h) ?_
    rw [cellE_ia (q := 1) hk1 (by omega), hR.top]
    show H1[H.size]? = some (arrV _ (va_up Ln n j n) (fun t => .int (A n t)))
    rw [e1, hcA, va_up_self]
    exact congrArg (fun g => some (arrV (X.2.2.1 1) j g)) (funext fun t => by
      have : A n t = 0 := f4 t
      rw [this]; rfl)
  have hk := kk H1 hRel (hS.grow z1 o1)
  have et : cx_v X (rV (some n)) = .ref H.size := by
    show Value.ref (cx_ad X n) = _
    rw [hR.top]
  simp only [List.map_cons, et] at hk
  exact hk
theorem AOs.at {U : State} (h : AOs U) : ∀ q, 2 ≤ q → q < 7 → va_AO (acn q) U
  | 2, _, _ => h.1 | 3, _, _ => h.2.1 | 4, _, _ => h.2.2.1 | 5, _, _ => h.2.2.2.1 | 6, _, _ => h.2.2.2.2
  | 0, h, _ => absurd h (by omega) | 1, h, _ => absurd h (by omega) | n + 7, _, h => absurd h (by omega)
theorem ev_newR {j q idx : Nat} (hd : decode M.2.1 pc = .ok (.anewarray idx, 3)) (hl : Cond.classLink M.1.cls idx (acn q) ∈ lw_g) (h2 : 2 ≤ q) (h7 : q < 7) (hj : j ≤ 65536) (k : Ev X M d (pc + 3) L (rV (some n) :: S) (va_up K n (100 + q), I, J, R, A, B, va_up Ln n j, n + 1, sl + j) Q) : Ev X M d pc L (iV (nI j) :: S) (K, I, J, R, A, B, Ln, n, sl) Q := by
  refine Ev.al (N := j) (G1 := (va_up K n (100 + q), I, J, R, A, B, va_up Ln n j, n + 1, sl + j)) rfl rfl ?_ k
  intro p e R' s m args below meth c C H locs cells slots ls Z hR hS hl' hc1 hc2 kk
  obtain ⟨hx, hb, hr, hml, hown, hts, hlk, hin, hK, -⟩ := C
  have hcl : (nI j).toNatClampNeg = j := nI_clamp (by omega)
  refine W.anew hx hb hown (hts _ hl) (va_AO.use (hK.2.2.1.at q h2 h7)) rfl hd rfl (nI_pos (by omega)) (by rw [hcl]; omega) hc1 (by rw [hcl]; exact hc2) fun cA kA comp f1 f2 f3 f4 => ?_
  rw [hcl]
  have hcA : cA = X.2.2.1 q := by
    obtain ⟨_, _, _, _, _, h9⟩ := (hK.1.2 q _ (cx_ty_at q h2 h7)).2
    exact Option.some.inj (f1.symm.trans h9)
  generalize hH1 : H.push ({ cls := cA, slots := Array.replicate j .null, vm := .none } : Cell) = H1
  have z1 : H1.size = H.size + 1 := by rw [← hH1, Array.size_push]
  have e1 : H1[H.size]? = some (arrV cA j (fun _ => .null)) := by rw [← hH1, Array.getElem?_push_size, ← arrV_new]
  have o1 : ∀ z : Nat, z < H.size → H1[z]? = H[z]? := fun z hz => by rw [← hH1, Array.getElem?_push, if_neg (Nat.ne_of_lt hz)]
  have hk1 : (va_up K n (100 + q)) n = 100 + q := va_up_self _ _ _
  obtain ⟨-, -, -, -, f5, -⟩ := hR.2.2 n (Nat.le_refl _)
  have hRel : Rel X (va_up K n (100 + q), I, J, R, A, B, va_up Ln n j, n + 1, sl + j) H1 := by
    refine hR.push z1 o1 (by omega) (fun _ h => va_up_ne _ _ h) ?_
    rw [cellE_ra (q := q) hk1 h2, hR.top]
    show H1[H.size]? = some (arrV _ (va_up Ln n j n) (fun t => va_rf ((B n t).map (cx_ad X))))
    rw [e1, hcA, va_up_self]
    exact congrArg (fun g => some (arrV (X.2.2.1 q) j g)) (funext fun t => by
      have : B n t = none := f5 t
      rw [this]; rfl)
  have hk := kk H1 hRel (hS.grow z1 o1)
  have et : cx_v X (rV (some n)) = .ref H.size := by
    show Value.ref (cx_ad X n) = _
    rw [hR.top]
  simp only [List.map_cons, et] at hk
  exact hk
end ALLOC
