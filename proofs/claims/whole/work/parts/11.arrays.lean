section ARR
variable {X : CX} {M : MD} {d pc : Nat} {L : List (Option LV)} {S : List LV} {Q : Option LV → GH → Prop} {K : Nat → Nat} {I : Nat → Nat → Int32} {J : Nat → Nat → Int64} {R : Nat → Nat → Option Nat} {A : Nat → Nat → Int32} {B : Nat → Nat → Option Nat} {Ln : Nat → Nat} {n sl : Nat}
theorem cellE_ia {i q : Nat} {G : GH} (hk : G.1 i = 100 + q) (hq : q < 2) : cellE X G i = .inl (X.2.2.1 q, G.2.2.2.2.2.2.1 i, .inl (G.2.2.2.2.1 i)) := by
  unfold cellE
  rw [hk, if_neg (by omega), if_pos (by omega), Nat.add_sub_cancel_left]
theorem cellE_ra {i q : Nat} {G : GH} (hk : G.1 i = 100 + q) (hq : 2 ≤ q) : cellE X G i = .inl (X.2.2.1 q, G.2.2.2.2.2.2.1 i, .inr (.inr (.inr (.inr (fun j => (G.2.2.2.2.2.1 i j).map (cx_ad X)))))) := by
  unfold cellE
  rw [hk, if_neg (by omega), if_neg (by omega), Nat.add_sub_cancel_left]
theorem ev_iald {i j m : Nat} (hd : decode M.2.1 pc = .ok (.iaload, 1)) (hk : K i = 100) (hm : Ln i = m) (hb : m < 2147483648) (hj : j < m) (k : Ev X M d (pc + 1) L (iV (A i j) :: S) (K, I, J, R, A, B, Ln, n, sl) Q) : Ev X M d pc L (iV (nI j) :: rV (some i) :: S) (K, I, J, R, A, B, Ln, n, sl) Q := by
  have hvp : vp_in (nI j) (Ln i) := by rw [hm]; exact vp_in_nI hj hb
  refine Ev.rd ?_ k
  intro p e R s m args below meth c C H locs cells slots ls Z hR hS hl kk
  have hP := hR.P (i := i) (by show K i < 900; rw [hk]; omega)
  rw [cellE_ia (q := 0) hk (by omega)] at hP
  refine va_iald C.1 C.2.1 C.2.2.2.2.2.2.2.2.1.1 hP 0 0 rfl rfl hvp hd ?_
  rw [nI_clamp (by omega)]
  exact kk
theorem ev_zald {i j m : Nat} (hd : decode M.2.1 pc = .ok (.baload, 1)) (hk : K i = 101) (hm : Ln i = m) (hb : m < 2147483648) (hj : j < m) (k : Ev X M d (pc + 1) L (iV (A i j) :: S) (K, I, J, R, A, B, Ln, n, sl) Q) : Ev X M d pc L (iV (nI j) :: rV (some i) :: S) (K, I, J, R, A, B, Ln, n, sl) Q := by
  have hvp : vp_in (nI j) (Ln i) := by rw [hm]; exact vp_in_nI hj hb
  refine Ev.rd ?_ k
  intro p e R s m args below meth c C H locs cells slots ls Z hR hS hl kk
  have hP := hR.P (i := i) (by show K i < 900; rw [hk]; omega)
  rw [cellE_ia (q := 1) hk (by omega)] at hP
  refine va_zald C.1 C.2.1 C.2.2.2.2.2.2.2.2.1.1 hP 0 1 rfl rfl hvp hd ?_
  rw [nI_clamp (by omega)]
  exact kk
/-- the component class of an array kind: its name -/
def acn : Nat → String
  | 2 => RX1 | 3 => RX7 | 4 => RX3 | 5 => RX0 | _ => "java/lang/Object"
theorem cx_ty_at : ∀ q, 2 ≤ q → q < 7 → (cx_ty X)[q]? = some (X.2.2.1 q, .object (acn q))
  | 2, _, _ => rfl | 3, _, _ => rfl | 4, _, _ => rfl | 5, _, _ => rfl | 6, _, _ => rfl
  | 0, h, _ => absurd h (by omega) | 1, h, _ => absurd h (by omega) | n + 7, _, h => absurd h (by omega)
theorem ev_aald {i j m q : Nat} {r : Option Nat} (hd : decode M.2.1 pc = .ok (.aaload, 1)) (hk : K i = 100 + q) (h2 : 2 ≤ q) (h7 : q < 7) (hm : Ln i = m) (hb : m < 2147483648) (hj : j < m) (hr : B i j = r) (k : Ev X M d (pc + 1) L (rV r :: S) (K, I, J, R, A, B, Ln, n, sl) Q) : Ev X M d pc L (iV (nI j) :: rV (some i) :: S) (K, I, J, R, A, B, Ln, n, sl) Q := by
  subst hr
  have hvp : vp_in (nI j) (Ln i) := by rw [hm]; exact vp_in_nI hj hb
  refine Ev.rd ?_ k
  intro p e R s m args below meth c C H locs cells slots ls Z hR hS hl kk
  have hP := hR.P (i := i) (by show K i < 900; rw [hk]; omega)
  rw [cellE_ra (q := q) hk h2] at hP
  refine va_aldq C.1 C.2.1 C.2.2.2.2.2.2.2.2.1.1 hP 0 q rfl (cx_ty_at q h2 h7) hvp hd ?_
  rw [nI_clamp (by omega)]
  exact kk
theorem ev_alen {i q m : Nat} (hd : decode M.2.1 pc = .ok (.arraylength, 1)) (hk : K i = 100 + q) (h7 : q < 7) (hm : Ln i = m) (k : Ev X M d (pc + 1) L (iV (nI m) :: S) (K, I, J, R, A, B, Ln, n, sl) Q) : Ev X M d pc L (rV (some i) :: S) (K, I, J, R, A, B, Ln, n, sl) Q := by
  subst hm
  refine Ev.rd ?_ k
  intro p e R s m args below meth c C H locs cells slots ls Z hR hS hl kk
  have hP := hR.P (i := i) (by show K i < 900; rw [hk]; omega)
  by_cases h2 : 2 ≤ q
  · rw [cellE_ra (q := q) hk h2] at hP
    exact va_alen C.1 C.2.1 C.2.2.2.2.2.2.2.2.1.1 hP 0 q rfl (cx_ty_at q h2 h7) rfl hd kk
  · rw [cellE_ia (q := q) hk (by omega)] at hP
    rcases (show q = 0 ∨ q = 1 by omega) with rfl | rfl
    · exact va_alen C.1 C.2.1 C.2.2.2.2.2.2.2.2.1.1 hP 0 0 rfl (ty := .int) rfl rfl hd kk
    · exact va_alen C.1 C.2.1 C.2.2.2.2.2.2.2.2.1.1 hP 0 1 rfl (ty := .boolean) rfl rfl hd kk
theorem u2_row {α : Type} {g : Nat → Nat → α} {a b : Nat} {v : α} : u2 g a b v a = va_up (g a) b v := by
  funext j
  unfold u2 va_up
  by_cases h : j = b <;> simp [h]
theorem u2_row' {α : Type} {g : Nat → Nat → α} {a b c : Nat} {v : α} (h : c ≠ a) : u2 g a b v c = g c := by
  funext j
  exact u2_ne1 h
theorem arrV_st {cI : ClassId} {N k : Nat} {α : Type} {g : Nat → α} {F : α → Value} {x : α} : (arrV cI N (fun j => F (g j))).setSlot k (F x) = arrV cI N (fun j => F (va_up g k x j)) := by
  rw [arrV_store]
  congr 1
  funext j
  unfold updV va_up
  by_cases h : j = k <;> simp [h]
theorem ev_iast {i j m : Nat} {v : Int32} (hd : decode M.2.1 pc = .ok (.iastore, 1)) (hk : K i = 100) (hm : Ln i = m) (hb : m < 2147483648) (hj : j < m) (k : Ev X M d (pc + 1) L S (K, I, J, R, u2 A i j v, B, Ln, n, sl) Q) : Ev X M d pc L (iV v :: iV (nI j) :: rV (some i) :: S) (K, I, J, R, A, B, Ln, n, sl) Q := by
  have hvp : vp_in (nI j) (Ln i) := by rw [hm]; exact vp_in_nI hj hb
  refine Ev.wr (G1 := (K, I, J, R, u2 A i j v, B, Ln, n, sl)) rfl rfl ?_ k
  intro p e R s m args below meth c C H locs cells slots ls Z hR hS hl kk
  have h9 : K i < 900 := by rw [hk]; omega
  have hP := (hR.2.1 i h9).2.2
  rw [cellE_ia (q := 0) hk (by omega)] at hP
  refine W.iast C.1 C.2.1 (j := nI j) hP ((C.2.2.2.2.2.2.2.2.1.1.2 0 _ rfl).1 _ _) (fun q => by cases q) (by show ¬ (nI j < 0 ∨ (arrV _ _ _).slots.size ≤ _); rw [arrV_size]; exact hvp) rfl rfl hd fun H1 e1 z1 o1 => ?_
  refine kk H1 _ (hR.upd rfl rfl h9 z1 o1 (fun j' hj' => ⟨fun _ => rfl, fun _ => rfl, fun _ => rfl, u2_row' hj', rfl, rfl⟩) ?_) (hS.put z1 o1 (hR.base h9))
  rw [cellE_ia (q := 0) hk (by omega)]
  show H1[cx_ad X i]? = some (vp_cell _ (_, .inl (u2 A i j v i)))
  rw [e1, nI_clamp (by omega), u2_row]
  exact congrArg some (arrV_st (F := Value.int))
theorem ev_zast {i j m : Nat} {v : Int32} (hd : decode M.2.1 pc = .ok (.bastore, 1)) (hk : K i = 101) (hm : Ln i = m) (hb : m < 2147483648) (hj : j < m) (hv : v = 0 ∨ v = 1) (k : Ev X M d (pc + 1) L S (K, I, J, R, u2 A i j v, B, Ln, n, sl) Q) : Ev X M d pc L (iV v :: iV (nI j) :: rV (some i) :: S) (K, I, J, R, A, B, Ln, n, sl) Q := by
  have hvp : vp_in (nI j) (Ln i) := by rw [hm]; exact vp_in_nI hj hb
  refine Ev.wr (G1 := (K, I, J, R, u2 A i j v, B, Ln, n, sl)) rfl rfl ?_ k
  intro p e R s m args below meth c C H locs cells slots ls Z hR hS hl kk
  have h9 : K i < 900 := by rw [hk]; omega
  have hP := (hR.2.1 i h9).2.2
  rw [cellE_ia (q := 1) hk (by omega)] at hP
  refine W.zast C.1 C.2.1 (j := nI j) hP ((C.2.2.2.2.2.2.2.2.1.1.2 1 _ rfl).1 _ _) (fun q => by cases q) (by show ¬ (nI j < 0 ∨ (arrV _ _ _).slots.size ≤ _); rw [arrV_size]; exact hvp) rfl rfl hd fun H1 e1 z1 o1 => ?_
  refine kk H1 _ (hR.upd rfl rfl h9 z1 o1 (fun j' hj' => ⟨fun _ => rfl, fun _ => rfl, fun _ => rfl, u2_row' hj', rfl, rfl⟩) ?_) (hS.put z1 o1 (hR.base h9))
  rw [cellE_ia (q := 1) hk (by omega)]
  show H1[cx_ad X i]? = some (vp_cell _ (_, .inl (u2 A i j v i)))
  have hnv : narrow .boolean (.int v) = .int v := by rcases hv with rfl | rfl <;> rfl
  rw [e1, nI_clamp (by omega), u2_row, hnv]
  exact congrArg some (arrV_st (F := Value.int))
theorem ev_aastN {i j m q : Nat} (hd : decode M.2.1 pc = .ok (.aastore, 1)) (hk : K i = 100 + q) (h2 : 2 ≤ q) (h7 : q < 7) (hm : Ln i = m) (hb : m < 2147483648) (hj : j < m) (k : Ev X M d (pc + 1) L S (K, I, J, R, A, u2 B i j none, Ln, n, sl) Q) : Ev X M d pc L (rV none :: iV (nI j) :: rV (some i) :: S) (K, I, J, R, A, B, Ln, n, sl) Q := by
  have hvp : vp_in (nI j) (Ln i) := by rw [hm]; exact vp_in_nI hj hb
  refine Ev.wr (G1 := (K, I, J, R, A, u2 B i j none, Ln, n, sl)) rfl rfl ?_ k
  intro p e R s m args below meth c C H locs cells slots ls Z hR hS hl kk
  have h9 : K i < 900 := by rw [hk]; omega
  have hP := (hR.2.1 i h9).2.2
  rw [cellE_ra (q := q) hk h2] at hP
  refine va_WaastN C.1 C.2.1 (j := nI j) hP ((C.2.2.2.2.2.2.2.2.1.1.2 q _ (cx_ty_at q h2 h7)).1 _ _) (fun q => by cases q) (by show ¬ (nI j < 0 ∨ (arrV _ _ _).slots.size ≤ _); rw [arrV_size]; exact hvp) rfl rfl hd fun H1 e1 z1 o1 => ?_
  refine kk H1 _ (hR.upd rfl rfl h9 z1 o1 (fun j' hj' => ⟨fun _ => rfl, fun _ => rfl, fun _ => rfl, rfl, u2_row' hj', rfl⟩) ?_) (hS.put z1 o1 (hR.base h9))
  rw [cellE_ra (q := q) hk h2]
  show H1[cx_ad X i]? = some (vp_cell _ (_, .inr (.inr (.inr (.inr (fun j' => (u2 B i j none i j').map (cx_ad X)))))))
  rw [e1, nI_clamp (by omega), u2_row]
  exact congrArg some (arrV_st (F := fun z : Option Nat => va_rf (z.map (cx_ad X))) (x := none))
theorem ev_aast {i j m q v cv : Nat} (hd : decode M.2.1 pc = .ok (.aastore, 1)) (hk : K i = 100 + q) (h2 : 2 ≤ q) (h7 : q < 7) (hm : Ln i = m) (hb : m < 2147483648) (hj : j < m) (hv : K v = cv) (hcv : cv < 11) (hq : gRn cv = acn q ∨ (cv = 5 ∧ q = 6)) (k : Ev X M d (pc + 1) L S (K, I, J, R, A, u2 B i j (some v), Ln, n, sl) Q) : Ev X M d pc L (rV (some v) :: iV (nI j) :: rV (some i) :: S) (K, I, J, R, A, B, Ln, n, sl) Q := by
  have hvp : vp_in (nI j) (Ln i) := by rw [hm]; exact vp_in_nI hj hb
  refine Ev.wr (G1 := (K, I, J, R, A, u2 B i j (some v), Ln, n, sl)) rfl rfl ?_ k
  intro p e R s m args below meth c C H locs cells slots ls Z hR hS hl kk
  have h9 : K i < 900 := by rw [hk]; omega
  have hP := (hR.2.1 i h9).2.2
  rw [cellE_ra (q := q) hk h2] at hP
  have h9v : K v < 900 := by rw [hv]; omega
  have hPv := (hR.2.1 v h9v).2.2
  rw [cellE_obj hv hcv] at hPv
  obtain ⟨r', hr', cellV, g1, g2, g3, -⟩ := hPv
  have hK := C.2.2.2.2.2.2.2.2.1
  have hcls := (hK.1.1 cv _ (gcl_at cv hcv)).2
  obtain ⟨kA, comp, k1, k2, k3, -⟩ := (hK.1.2 q _ (cx_ty_at q h2 h7)).2
  obtain ⟨kC, hkC, -⟩ := hcls.2
  have hasg : s.vm.assignable (X.2.1.1 cv) comp = true := by
    rcases hq with hq | ⟨rfl, rfl⟩
    · rw [← hq] at k3
      have hcomp : comp = X.2.1.1 cv := Option.some.inj (k3.symm.trans hcls.1)
      rw [hcomp]
      exact va_assign hcls
    · exact vb_asgC hK.2.2.2.1 comp _ k3 hcls.1
  obtain ⟨kE, hkE, -⟩ := Vm.findClass_spec k3
  refine W.aast C.1 C.2.1 (j := nI j) hP (fun q h => by cases h) (fun h => by cases h) k1 k2 rfl hkE ⟨nI_pos (by omega), by show _ < (arrV _ _ _).slots.size; rw [arrV_size, nI_clamp (by omega)]; show j < Ln i; omega⟩ g1 (fun q h => by rw [g3] at h; cases h) (by rw [g2]; exact hkC) (by rw [g2]; exact hasg) rfl rfl hd fun H1 e1 z1 o1 => ?_
  refine kk H1 _ (hR.upd rfl rfl h9 z1 o1 (fun j' hj' => ⟨fun _ => rfl, fun _ => rfl, fun _ => rfl, rfl, u2_row' hj', rfl⟩) ?_) (hS.put z1 o1 (hR.base h9))
  rw [cellE_ra (q := q) hk h2]
  show H1[cx_ad X i]? = some (vp_cell _ (_, .inr (.inr (.inr (.inr (fun j' => (u2 B i j (some v) i j').map (cx_ad X)))))))
  rw [e1, nI_clamp (by omega), u2_row]
  exact congrArg some (arrV_st (F := fun z : Option Nat => va_rf (z.map (cx_ad X))) (x := some v))
end ARR
