section PURE2
variable {X : CX} {M : MD} {d pc : Nat} {L : List (Option LV)} {S : List LV} {G : GH} {Q : Option LV → GH → Prop}
def stL2 (L : List (Option LV)) (i : Nat) (v : LV) : List (Option LV) := (stL L i v).set (i + 1) none
theorem stL2_ok {X : CX} {ls' : Array Slot} {nL i : Nat} {L : List (Option LV)} {v : LV} (h : lv_has ls' nL ((i, cx_v X v) :: (lvl X L).filter (fun q => !(q.1 == i) && (!(q.1 == i + 1) && !(q.1 + 1 == i && q.2.category == 2))))) : lvOK X ls' nL (stL2 L i v) := by
  refine ⟨h.1, h.2.1, fun j w hj => ?_⟩
  have hne : j ≠ i + 1 := fun e => by
    subst e
    unfold stL2 at hj
    rw [List.getElem?_set] at hj
    simp at hj
  unfold stL2 at hj
  rw [List.getElem?_set_ne (fun e => hne e.symm)] at hj
  have key : ∀ (P : L[j]? = some (some w)) (hji : j ≠ i) (hn : ¬ (j + 1 = i ∧ ∃ y, w = lV y)), ls'[j]? = some (.val (cx_v X w)) := by
    intro P hji hn
    refine h.2.2 (j, cx_v X w) (List.mem_cons_of_mem _ (List.mem_filter.mpr ⟨lvl_mem.mpr ⟨w, P, rfl⟩, ?_⟩))
    simp only [Bool.and_eq_true, Bool.not_eq_true', beq_eq_false_iff_ne, ne_eq, Bool.and_eq_false_iff]
    refine ⟨hji, hne, ?_⟩
    by_cases a : j + 1 = i
    · exact Or.inr (fun c => hn ⟨a, cx_cat2 c⟩)
    · exact Or.inl a
  have self : ∀ w', some w' = some v → ls'[i]? = some (.val (cx_v X w')) := fun w' e => by
    cases e
    exact h.2.2 (i, cx_v X v) List.mem_cons_self
  cases i with
  | zero =>
    simp only [stL] at hj
    by_cases a : j = 0
    · subst a
      rw [List.getElem?_set] at hj
      simp at hj
      exact self w (by rw [hj.2])
    · rw [List.getElem?_set_ne (fun e => a e.symm)] at hj
      exact key hj a (by omega)
  | succ n =>
    simp only [stL] at hj
    split at hj
    · next y hy =>
      by_cases a : j = n + 1
      · subst a
        rw [List.getElem?_set] at hj
        simp at hj
        exact self w (by rw [hj.2])
      · rw [List.getElem?_set_ne (fun e => a e.symm)] at hj
        by_cases b : j = n
        · subst b
          rw [List.getElem?_set] at hj
          simp at hj
        · rw [List.getElem?_set_ne (fun e => b e.symm)] at hj
          exact key hj a (by omega)
    · next hy =>
      by_cases a : j = n + 1
      · subst a
        rw [List.getElem?_set] at hj
        simp at hj
        exact self w (by rw [hj.2])
      · rw [List.getElem?_set_ne (fun e => a e.symm)] at hj
        refine key hj a ?_
        rintro ⟨e, y, rfl⟩
        have : j = n := by omega
        subst this
        exact hy _ hj
theorem ev_lstore_n {j : Fin 4} {x : Int64} (L' : List (Option LV)) (hd : decode M.2.1 pc = .ok (.lstore_n j, 1)) (hn : (j : Nat) + 1 < M.2.2.1) (hL : stL2 L (j : Nat) (lV x) = L') (k : Ev X M d (pc + 1) L' S G Q) : Ev X M d pc L (lV x :: S) G Q := by
  subst hL
  exact k.ps (fun _ _ _ _ _ _ _ _ _ C _ _ _ _ ls _ hS hl kk => lv_lstore_n C.1 C.2.1 hd rfl hl.has hn rfl (fun ls' h => kk ls' (stL2_ok h)))
theorem ev_lstore {j : Nat} {x : Int64} (L' : List (Option LV)) (hd : decode M.2.1 pc = .ok (.lstore j, 2)) (hn : j + 1 < M.2.2.1) (hL : stL2 L j (lV x) = L') (k : Ev X M d (pc + 2) L' S G Q) : Ev X M d pc L (lV x :: S) G Q := by
  subst hL
  exact k.ps (fun _ _ _ _ _ _ _ _ _ C _ _ _ _ ls _ hS hl kk => lv_lstore C.1 C.2.1 hd hl.has hn rfl (fun ls' h => kk ls' (stL2_ok h)))
theorem ev_iinc {j : Nat} {n : Int} {x : Int32} (v : Int32) (L' : List (Option LV)) (hd : decode M.2.1 pc = .ok (.iinc j n, 3)) (hx : L[j]? = some (some (iV x))) (hv : x + Int32.ofInt n = v) (hn : j < M.2.2.1) (hL : stL L j (iV v) = L') (k : Ev X M d (pc + 3) L' S G Q) : Ev X M d pc L S G Q := by
  subst hL
  have hm : (j, Value.int x) ∈ lvl X L := lvl_mem.mpr ⟨iV x, hx, rfl⟩
  obtain ⟨q, hq⟩ := List.getElem?_of_mem hm
  exact k.ps (fun _ _ _ _ _ _ _ _ _ C _ _ _ _ ls _ hS hl kk => lv_iinc C.1 C.2.1 hd hl.has hq hv hn rfl (fun ls' h => kk ls' (stL_ok (v := iV v) h)))
end PURE2
