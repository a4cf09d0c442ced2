/-- the number of a home -/
def nmO (I : Nat → Nat → Int32) : Option Nat → Int32
  | none => 0
  | some f => I 320 f
theorem nmO_congr {I I' : Nat → Nat → Int32} {o : Option Nat} (h : ∀ f, o = some f → I' 320 f = I 320 f) : nmO I' o = nmO I o := by
  cases o with
  | none => rfl
  | some f => exact h f rfl
/-- the entries of a file -/
def segL (R : Nat → Nat → Option Nat) (l : List Nat) (f : Nat) : List Nat := l.filter (fun e => decide (R 6 e = some f))
def SegR (I : Nat → Nat → Int32) (R : Nat → Nat → Option Nat) (l : List Nat) (f : Nat) : Prop := segL R l f ≠ [] ∧ I 324 f = nI (segL R l f).length ∧ R 322 f = (segL R l f).head? ∧ R 323 f = (segL R l f).getLast?
theorem segL_congr {R R' : Nat → Nat → Option Nat} {l : List Nat} {f : Nat} (h : ∀ e ∈ l, (R' 6 e = some f ↔ R 6 e = some f)) : segL R' l f = segL R l f := by
  unfold segL
  exact List.filter_congr (fun e he => by rw [decide_eq_decide]; exact h e he)
theorem SegR.congr {I I' : Nat → Nat → Int32} {R R' : Nat → Nat → Option Nat} {l : List Nat} {f : Nat} (h : SegR I R l f) (h6 : ∀ e ∈ l, (R' 6 e = some f ↔ R 6 e = some f)) (h1 : I' 324 f = I 324 f) (h2 : R' 322 f = R 322 f) (h3 : R' 323 f = R 323 f) : SegR I' R' l f := by
  unfold SegR
  rw [segL_congr h6, h1, h2, h3]
  exact h
/-- numbers after assignments -/
def upF (num0 : Nat → Int32) (ap : List (Nat × Int32)) : Nat → Int32 := ap.foldl (fun f p => va_up f p.1 p.2) num0
theorem upF_snoc {num0 : Nat → Int32} {ap : List (Nat × Int32)} {e : Nat} {v : Int32} : upF num0 (ap ++ [(e, v)]) = va_up (upF num0 ap) e v := by
  unfold upF
  rw [List.foldl_append]
  rfl
theorem upF_out {x : Nat} : ∀ {ap : List (Nat × Int32)} {num0 : Nat → Int32}, (∀ p ∈ ap, p.1 ≠ x) → upF num0 ap x = num0 x
  | [], _, _ => rfl
  | p :: ap, num0, h => by
    show upF (va_up num0 p.1 p.2) ap x = _
    rw [upF_out (fun q hq => h q (List.mem_cons_of_mem _ hq)), va_up_ne _ _ (Ne.symm (h p List.mem_cons_self))]
/-- a merge in its midst: pre gone over, of it kp kept, rest to come, nf the new files, ap the numbers given; the class's side -/
def MvL (ret : Nat → Bool) (R0 : Nat → Nat → Option Nat) (num0 : Nat → Int32) (fs0 : List Nat) (md : Nat) (lv : Int32) (pre rest kp nf : List Nat) (ap : List (Nat × Int32)) (P : Nat → Prop) (I : Nat → Nat → Int32) (R : Nat → Nat → Option Nat) : Prop :=
  (∀ e ∈ rest, R 6 e = R0 6 e) ∧ (∀ e ∈ rest, ret e = false → nmO I (R0 6 e) = num0 e ∧ ¬ num0 e < 0 ∧ ∀ f, R0 6 e = some f → f ∈ fs0) ∧ (∀ e ∈ rest, ret e = true → ∃ g, R0 6 e = some g ∧ g ∉ fs0 ++ nf) ∧ kp = pre.filter (fun e => decide (¬ upF num0 ap e < 0)) ∧ (∀ e ∈ kp, nmO I (R 6 e) = upF num0 ap e ∧ (∀ f, R 6 e = some f → f ∈ fs0 ++ nf) ∧ (R 6 e = none ↔ R0 6 e = none)) ∧ (∀ f ∈ fs0 ++ nf, P f → SegR I R (kp ++ rest) f) ∧ (∀ j f, nf[j]? = some f → I 320 f = nI (md + 1 + j) ∧ I 321 f = lv ∧ I 325 f = 0) ∧ ∀ p ∈ ap, p.1 ∈ pre ∧ ret p.1 = true
section MVL
variable {ret : Nat → Bool} {R0 : Nat → Nat → Option Nat} {num0 : Nat → Int32} {fs0 : List Nat} {md : Nat} {lv : Int32} {pre rest kp nf : List Nat} {ap : List (Nat × Int32)} {P : Nat → Prop} {I : Nat → Nat → Int32} {R : Nat → Nat → Option Nat} {e : Nat}
theorem MvL.congr {I' : Nat → Nat → Int32} {R' : Nat → Nat → Option Nat} (h : MvL ret R0 num0 fs0 md lv pre rest kp nf ap P I R) (hI : ∀ f i, f = 320 ∨ f = 321 ∨ f = 324 ∨ f = 325 → I' f i = I f i) (hR : ∀ f i, f = 6 ∨ f = 322 ∨ f = 323 → R' f i = R f i) : MvL ret R0 num0 fs0 md lv pre rest kp nf ap P I' R' := by
  obtain ⟨h1, h2, h3, h4, h5, h6, h7, h8⟩ := h
  have hn : ∀ o, nmO I' o = nmO I o := fun o => nmO_congr (fun f _ => hI 320 f (by omega))
  refine ⟨fun e he => by rw [hR 6 e (by omega)]; exact h1 e he, fun e he hr => by rw [hn]; exact h2 e he hr, h3, h4, fun e he => by rw [hn, hR 6 e (by omega)]; exact h5 e he, fun f hf hp => (h6 f hf hp).congr (fun e _ => by rw [hR 6 e (by omega)]) (hI _ _ (by omega)) (hR _ _ (by omega)) (hR _ _ (by omega)), fun j f hj => by rw [hI 320 f (by omega), hI 321 f (by omega), hI 325 f (by omega)]; exact h7 j f hj, h8⟩
theorem mid_nodup {a b : List Nat} {e : Nat} (h : (a ++ e :: b).Nodup) : e ∉ a ∧ e ∉ b := by
  rw [List.nodup_append] at h
  exact ⟨fun z => h.2.2 e z e List.mem_cons_self rfl, (List.nodup_cons.mp h.2.1).1⟩
theorem kp_pre {N : Nat → Int32} {x : Nat} (h4 : kp = pre.filter (fun e => decide (¬ N e < 0))) (hx : x ∈ kp) : x ∈ pre := by
  rw [h4] at hx
  exact (List.mem_filter.mp hx).1
theorem MvL.skip (h : MvL ret R0 num0 fs0 md lv pre (e :: rest) kp nf ap P I R) (hnd : (pre ++ e :: rest).Nodup) (hr : ret e = false) : MvL ret R0 num0 fs0 md lv (pre ++ [e]) rest (kp ++ [e]) nf ap P I R := by
  obtain ⟨h1, h2, h3, h4, h5, h6, h7, h8⟩ := h
  obtain ⟨n1, n2⟩ := mid_nodup hnd
  obtain ⟨z1, z2, z3⟩ := h2 e List.mem_cons_self hr
  have hu : upF num0 ap e = num0 e := upF_out (fun p hp z => n1 (z ▸ (h8 p hp).1))
  have h1e := h1 e List.mem_cons_self
  refine ⟨fun x hx => h1 x (List.mem_cons_of_mem _ hx), fun x hx => h2 x (List.mem_cons_of_mem _ hx), fun x hx => h3 x (List.mem_cons_of_mem _ hx), ?_, fun x hx => ?_, fun f hf hp => ?_, h7, fun p hp => ⟨List.mem_append_left _ (h8 p hp).1, (h8 p hp).2⟩⟩
  · rw [List.filter_append, ← h4, List.filter_cons_of_pos (by rw [hu]; exact decide_eq_true z2)]; rfl
  · rcases List.mem_append.mp hx with hx | hx
    · exact h5 x hx
    · rw [List.mem_singleton.mp hx, h1e, hu]
      exact ⟨z1, fun f hf => List.mem_append_left _ (z3 f hf), Iff.rfl⟩
  · rw [List.append_assoc]; exact h6 f hf hp
theorem MvL.drop (h : MvL ret R0 num0 fs0 md lv pre (e :: rest) kp nf ap P I R) (hnd : (pre ++ e :: rest).Nodup) (hr : ret e = true) : MvL ret R0 num0 fs0 md lv (pre ++ [e]) rest kp nf (ap ++ [(e, -1)]) P I R := by
  obtain ⟨h1, h2, h3, h4, h5, h6, h7, h8⟩ := h
  obtain ⟨n1, n2⟩ := mid_nodup hnd
  obtain ⟨g, hg, hgn⟩ := h3 e List.mem_cons_self hr
  have h1e := h1 e List.mem_cons_self
  have hne : ∀ x ∈ pre, x ≠ e := fun x hx z => n1 (z ▸ hx)
  refine ⟨fun x hx => h1 x (List.mem_cons_of_mem _ hx), fun x hx => h2 x (List.mem_cons_of_mem _ hx), fun x hx => h3 x (List.mem_cons_of_mem _ hx), ?_, fun x hx => ?_, fun f hf hp => ?_, h7, fun p hp => ?_⟩
  · rw [upF_snoc, List.filter_append, List.filter_cons_of_neg (by rw [va_up_self]; decide), List.filter_nil, List.append_nil, h4]
    exact List.filter_congr (fun x hx => by rw [va_up_ne _ _ (hne x hx)])
  · rw [upF_snoc, va_up_ne _ _ (hne x (kp_pre h4 hx))]; exact h5 x hx
  · obtain ⟨s1, s2, s3, s4⟩ := h6 f hf hp
    have : segL R (kp ++ e :: rest) f = segL R (kp ++ rest) f := by
      unfold segL
      rw [List.filter_append, List.filter_append, List.filter_cons_of_neg]
      rw [h1e, hg]
      intro z
      exact hgn (Option.some.inj (of_decide_eq_true z) ▸ hf)
    rw [this] at s1 s2 s3 s4
    exact ⟨s1, s2, s3, s4⟩
  · rcases List.mem_append.mp hp with hp | hp
    · exact ⟨List.mem_append_left _ (h8 p hp).1, (h8 p hp).2⟩
    · rw [List.mem_singleton.mp hp]; exact ⟨by simp, hr⟩
theorem MvL.app {f : Nat} {v : Int32} (h : MvL ret R0 num0 fs0 md lv pre (e :: rest) kp nf ap (fun g => g ≠ f) I R) (hnd : (pre ++ e :: rest).Nodup) (hr : ret e = true) (hf : f ∈ nf) (hff : f ∉ fs0) (hv : I 320 f = v) (hv0 : ¬ v < 0) (hsz : I 324 f = nI (segL R (kp ++ e :: rest) f).length) (h322 : R 322 f = (segL R (kp ++ e :: rest) f ++ [e]).head?) : MvL ret R0 num0 fs0 md lv (pre ++ [e]) rest (kp ++ [e]) nf (ap ++ [(e, v)]) (fun _ => True) (u2 I 324 f (I 324 f + 1)) (u2 (u2 R 6 e (some f)) 323 f (some e)) := by
  obtain ⟨h1, h2, h3, h4, h5, h6, h7, h8⟩ := h
  obtain ⟨n1, n2⟩ := mid_nodup hnd
  obtain ⟨g0, hg, hgn⟩ := h3 e List.mem_cons_self hr
  have h1e := h1 e List.mem_cons_self
  have hne : ∀ x ∈ pre, x ≠ e := fun x hx z => n1 (z ▸ hx)
  have hne2 : ∀ x ∈ rest, x ≠ e := fun x hx z => n2 (z ▸ hx)
  have hR6 : ∀ x, x ≠ e → u2 (u2 R 6 e (some f)) 323 f (some e) 6 x = R 6 x := fun x hx => by rw [u2_ne1 (by decide), u2_ne2 hx]
  have hR6e : u2 (u2 R 6 e (some f)) 323 f (some e) 6 e = some f := by rw [u2_ne1 (by decide)]; exact u2_self
  have hn : ∀ o, nmO (u2 I 324 f (I 324 f + 1)) o = nmO I o := fun o => nmO_congr (fun f _ => u2_ne1 (by decide))
  have hfn : f ∈ fs0 ++ nf := List.mem_append_right _ hf
  refine ⟨fun x hx => by rw [hR6 x (hne2 x hx)]; exact h1 x (List.mem_cons_of_mem _ hx), fun x hx hq => by rw [hn]; exact h2 x (List.mem_cons_of_mem _ hx) hq, fun x hx => h3 x (List.mem_cons_of_mem _ hx), ?_, fun x hx => ?_, fun g hgm _ => ?_, fun j g hj => by rw [u2_ne1 (by decide), u2_ne1 (by decide), u2_ne1 (by decide)]; exact h7 j g hj, fun p hp => ?_⟩
  · rw [upF_snoc, List.filter_append, List.filter_cons_of_pos (by rw [va_up_self]; exact decide_eq_true hv0), List.filter_nil, h4]
    congr 1
    exact List.filter_congr (fun x hx => by rw [va_up_ne _ _ (hne x hx)])
  · rcases List.mem_append.mp hx with hx | hx
    · have hxe := hne x (kp_pre h4 hx)
      rw [upF_snoc, va_up_ne _ _ hxe, hR6 x hxe, hn]; exact h5 x hx
    · rw [List.mem_singleton.mp hx, upF_snoc, va_up_self, hR6e, hn]
      exact ⟨hv, fun g hgg => by cases hgg; exact hfn, by rw [hg]; exact ⟨fun z => (by cases z), fun z => (by cases z)⟩⟩
  · rw [List.append_assoc, List.singleton_append]
    by_cases hgf : g = f
    · subst hgf
      have key : segL (u2 (u2 R 6 e (some g)) 323 g (some e)) (kp ++ e :: rest) g = segL R (kp ++ e :: rest) g ++ [e] := by
        unfold segL
        rw [List.filter_append, List.filter_append, List.filter_cons_of_pos (by rw [hR6e]; exact decide_eq_true rfl), List.filter_cons_of_neg (by rw [h1e, hg]; intro z; exact hgn (Option.some.inj (of_decide_eq_true z) ▸ hfn))]
        have e1 : kp.filter (fun x => decide (u2 (u2 R 6 e (some g)) 323 g (some e) 6 x = some g)) = kp.filter (fun x => decide (R 6 x = some g)) := List.filter_congr (fun x hx => by rw [hR6 x (hne x (kp_pre h4 hx))])
        have e2 : ∀ Rx : Nat → Nat → Option Nat, (∀ x ∈ rest, Rx 6 x = R0 6 x) → rest.filter (fun x => decide (Rx 6 x = some g)) = [] := fun Rx hRx => by
          refine List.filter_eq_nil_iff.mpr (fun x hx z => ?_)
          have z := of_decide_eq_true z
          rw [hRx x hx] at z
          cases hrx : ret x with
          | true =>
            obtain ⟨y, hy, hyn⟩ := h3 x (List.mem_cons_of_mem _ hx) hrx
            rw [z] at hy
            cases hy
            exact hyn hfn
          | false => exact hff ((h2 x (List.mem_cons_of_mem _ hx) hrx).2.2 g z)
        rw [e1, e2 _ (fun x hx => (hR6 x (hne2 x hx)).trans (h1 x (List.mem_cons_of_mem _ hx))), e2 R (fun x hx => h1 x (List.mem_cons_of_mem _ hx)), List.append_nil]
      refine ⟨?_, ?_, ?_, ?_⟩
      · rw [key]; simp
      · rw [key, u2_self, hsz, List.length_append, show (1 : Int32) = nI 1 from rfl, nI_add]; rfl
      · rw [key, u2_ne1 (by decide), u2_ne1 (by decide)]; exact h322
      · rw [key, u2_self]; simp
    · refine (h6 g hgm hgf).congr (fun x hx => ?_) (u2_ne2 hgf) (by rw [u2_ne1 (by decide), u2_ne1 (by decide)]) (by rw [u2_ne2 hgf, u2_ne1 (by decide)])
      by_cases hxe : x = e
      · subst hxe
        rw [hR6e, h1e, hg]
        exact ⟨fun z => absurd (Option.some.inj z).symm hgf, fun z => absurd (Option.some.inj z ▸ hgm) hgn⟩
      · rw [hR6 x hxe]
  · rcases List.mem_append.mp hp with hp | hp
    · exact ⟨List.mem_append_left _ (h8 p hp).1, (h8 p hp).2⟩
    · rw [List.mem_singleton.mp hp]; exact ⟨by simp, hr⟩
theorem MvL.weak {P' : Nat → Prop} (h : MvL ret R0 num0 fs0 md lv pre rest kp nf ap P I R) (hp : ∀ f, P' f → P f) : MvL ret R0 num0 fs0 md lv pre rest kp nf ap P' I R := by
  obtain ⟨h1, h2, h3, h4, h5, h6, h7, h8⟩ := h
  exact ⟨h1, h2, h3, h4, h5, fun f hf h => h6 f hf (hp f h), h7, h8⟩
theorem MvL.file {I' : Nat → Nat → Int32} {R' : Nat → Nat → Option Nat} {f : Nat} (h : MvL ret R0 num0 fs0 md lv pre rest kp nf ap (fun _ => True) I R) (hI : ∀ g i, i ≠ f → g = 320 ∨ g = 321 ∨ g = 324 ∨ g = 325 → I' g i = I g i) (hR : ∀ g i, i ≠ f → g = 6 ∨ g = 322 ∨ g = 323 → R' g i = R g i) (hk : ∀ x ∈ kp ++ rest, x ≠ f) (hf0 : f ∉ fs0 ++ nf) (hrf : ∀ x ∈ rest, R0 6 x ≠ some f) (h320 : I' 320 f = nI (md + (nf.length + 1))) (h321 : I' 321 f = lv) (h325 : I' 325 f = 0) : MvL ret R0 num0 fs0 md lv pre rest kp (nf ++ [f]) ap (fun g => g ≠ f) I' R' := by
  obtain ⟨h1, h2, h3, h4, h5, h6, h7, h8⟩ := h
  have hkk : ∀ x ∈ kp, x ≠ f := fun x hx => hk x (List.mem_append_left _ hx)
  have hkr : ∀ x ∈ rest, x ≠ f := fun x hx => hk x (List.mem_append_right _ hx)
  have hfs : f ∉ fs0 := fun z => hf0 (List.mem_append_left _ z)
  refine ⟨fun x hx => by rw [hR 6 x (hkr x hx) (by omega)]; exact h1 x hx, fun x hx hq => ?_, fun x hx hq => ?_, h4, fun x hx => ?_, fun g hg hgf => ?_, fun j g hj => ?_, h8⟩
  · obtain ⟨z1, z2, z3⟩ := h2 x hx hq
    exact ⟨by rw [nmO_congr (fun y hy => hI 320 y (fun z => hfs (z ▸ z3 y hy)) (by omega))]; exact z1, z2, z3⟩
  · obtain ⟨g, hg, hgn⟩ := h3 x hx hq
    refine ⟨g, hg, fun z => ?_⟩
    rw [← List.append_assoc] at z
    rcases List.mem_append.mp z with z | z
    · exact hgn z
    · exact hrf x hx (by rw [hg, List.mem_singleton.mp z])
  · obtain ⟨z1, z2, z4⟩ := h5 x hx
    rw [hR 6 x (hkk x hx) (by omega), nmO_congr (I := I) (fun y hy => hI 320 y (fun z => hf0 (z ▸ z2 y hy)) (by omega))]
    exact ⟨z1, fun g hg => by rw [← List.append_assoc]; exact List.mem_append_left _ (z2 g hg), z4⟩
  · rw [← List.append_assoc] at hg
    rcases List.mem_append.mp hg with hg | hg
    · exact (h6 g hg trivial).congr (fun x hx => by rw [hR 6 x (hk x hx) (by omega)]) (hI _ _ hgf (by omega)) (hR _ _ hgf (by omega)) (hR _ _ hgf (by omega))
    · exact absurd (List.mem_singleton.mp hg) hgf
  · by_cases hjl : j < nf.length
    · rw [List.getElem?_append_left hjl] at hj
      have hgf : g ≠ f := fun z => by
        obtain ⟨q1, q2⟩ := List.getElem?_eq_some_iff.mp hj
        exact hf0 (List.mem_append_right _ (z ▸ q2 ▸ List.getElem_mem q1))
      rw [hI 320 g hgf (by omega), hI 321 g hgf (by omega), hI 325 g hgf (by omega)]
      exact h7 j g hj
    · rw [List.getElem?_append_right (by omega)] at hj
      have hj0 : j - nf.length = 0 := by
        obtain ⟨q1, -⟩ := List.getElem?_eq_some_iff.mp hj
        simpa using q1
      rw [hj0] at hj
      cases hj
      have : j = nf.length := by omega
      subst this
      exact ⟨by rw [h320]; congr 1; omega, h321, h325⟩
end MVL
/-- what the store's own doings leave as it was: older cells but for homes, ends, sizes, the store, its arrays and the list; cells beyond the newest -/
def StF (K0 : Nat → Nat) (I0 : Nat → Nat → Int32) (R0 B0 : Nat → Nat → Option Nat) (Ln0 : Nat → Nat) (n0 : Nat) (K : Nat → Nat) (I : Nat → Nat → Int32) (R B : Nat → Nat → Option Nat) (Ln : Nat → Nat) (n : Nat) : Prop := n0 ≤ n ∧ (∀ i, i < n0 → K i = K0 i ∧ Ln i = Ln0 i) ∧ (∀ i, n ≤ i → K i = K0 i ∧ (∀ f, I f i = I0 f i) ∧ (∀ f, R f i = R0 f i) ∧ B i = B0 i) ∧ (∀ f i, i < n0 → ¬ (K0 i = 4 ∨ (K0 i = 5 ∧ (f = 324 ∨ f = 325)) ∨ (i = 7 ∧ (f = 385 ∨ f = 386 ∨ f = 388)) ∨ (i = 9 ∧ (f = 640 ∨ f = 642))) → I f i = I0 f i) ∧ (∀ f i, i < n0 → ¬ (K0 i = 4 ∨ (K0 i = 0 ∧ f = 6) ∨ (K0 i = 5 ∧ f = 323) ∨ (i = 9 ∧ f = 641)) → R f i = R0 f i) ∧ ∀ i, i < n0 → ¬ (i = 8 ∨ K0 i = 106) → B i = B0 i
section STF
variable {K0 K K' : Nat → Nat} {I0 I I' : Nat → Nat → Int32} {R0 R R' B0 B B' : Nat → Nat → Option Nat} {Ln0 Ln Ln' : Nat → Nat} {n0 n n' : Nat}
theorem StF.refl : StF K I R B Ln n K I R B Ln n := ⟨Nat.le_refl _, fun _ _ => ⟨rfl, rfl⟩, fun _ _ => ⟨rfl, fun _ => rfl, fun _ => rfl, rfl⟩, fun _ _ _ _ => rfl, fun _ _ _ _ => rfl, fun _ _ _ => rfl⟩
theorem StF.trans (h : StF K0 I0 R0 B0 Ln0 n0 K I R B Ln n) (g : StF K I R B Ln n K' I' R' B' Ln' n') : StF K0 I0 R0 B0 Ln0 n0 K' I' R' B' Ln' n' := by
  obtain ⟨h1, h2, h3, h4, h5, h6⟩ := h
  obtain ⟨g1, g2, g3, g4, g5, g6⟩ := g
  refine ⟨by omega, fun i hi => ⟨(g2 i (by omega)).1.trans (h2 i hi).1, (g2 i (by omega)).2.trans (h2 i hi).2⟩, fun i hi => ?_, fun f i hi hx => ?_, fun f i hi hx => ?_, fun i hi hx => ?_⟩
  · obtain ⟨a1, a2, a3, a4⟩ := g3 i hi
    obtain ⟨b1, b2, b3, b4⟩ := h3 i (by omega)
    exact ⟨a1.trans b1, fun f => (a2 f).trans (b2 f), fun f => (a3 f).trans (b3 f), a4.trans b4⟩
  · rw [g4 f i (by omega) (by rw [(h2 i hi).1]; exact hx)]; exact h4 f i hi hx
  · rw [g5 f i (by omega) (by rw [(h2 i hi).1]; exact hx)]; exact h5 f i hi hx
  · rw [g6 i (by omega) (by rw [(h2 i hi).1]; exact hx)]; exact h6 i hi hx
theorem StF.append {e f : Nat} {v : Int32} {x y : Option Nat} (hf : K f = 5) (he : K e = 0) (hfn : f < n) (hen : e < n) : StF K I R B Ln n K (u2 I 324 f v) (u2 (u2 R 6 e x) 323 f y) B Ln n := by
  refine ⟨Nat.le_refl _, fun _ _ => ⟨rfl, rfl⟩, fun i hi => ⟨rfl, fun g => u2_ne2 (by omega), fun g => by rw [u2_ne2 (by omega), u2_ne2 (by omega)], rfl⟩, fun g i hi hx => ?_, fun g i hi hx => ?_, fun _ _ _ => rfl⟩
  · unfold u2
    rw [if_neg (fun z => hx (Or.inr (Or.inl ⟨by rw [z.2]; exact hf, Or.inl z.1⟩)))]
  · unfold u2
    rw [if_neg (fun z => hx (Or.inr (Or.inr (Or.inl ⟨by rw [z.2]; exact hf, z.1⟩)))), if_neg (fun z => hx (Or.inr (Or.inl ⟨by rw [z.2]; exact he, z.1⟩)))]
theorem StF.sieve {s : Nat} {v : Int32} {x : Option Nat} (hs : K s = 4) (hsn : s < n) : StF K I R B Ln n K (u2 I 259 s v) (u2 R 258 s x) B Ln n := by
  refine ⟨Nat.le_refl _, fun _ _ => ⟨rfl, rfl⟩, fun i hi => ⟨rfl, fun g => u2_ne2 (by omega), fun g => u2_ne2 (by omega), rfl⟩, fun g i hi hx => ?_, fun g i hi hx => ?_, fun _ _ _ => rfl⟩
  · exact u2_ne2 (fun z => hx (Or.inl (by rw [z]; exact hs)))
  · exact u2_ne2 (fun z => hx (Or.inl (by rw [z]; exact hs)))
theorem StF.store {j : Nat} {x : Option Nat} (hn : 8 < n) : StF K I R B Ln n K I R (u2 B 8 j x) Ln n :=
  ⟨Nat.le_refl _, fun _ _ => ⟨rfl, rfl⟩, fun i hi => ⟨rfl, fun _ => rfl, fun _ => rfl, u2_row' (by omega)⟩, fun _ _ _ _ => rfl, fun _ _ _ _ => rfl, fun i _ hx => u2_row' (fun z => hx (Or.inl z))⟩
theorem StF.count {f : Nat} {v : Int32} (hf : f = 385 ∨ f = 386 ∨ f = 388) (hn : 7 < n) : StF K I R B Ln n K (u2 I f 7 v) R B Ln n :=
  ⟨Nat.le_refl _, fun _ _ => ⟨rfl, rfl⟩, fun i hi => ⟨rfl, fun _ => u2_ne2 (by omega), fun _ => rfl, rfl⟩, fun g i _ hx => by unfold u2; rw [if_neg (fun z => hx (Or.inr (Or.inr (Or.inl ⟨z.2, by omega⟩))))], fun _ _ _ _ => rfl, fun _ _ _ => rfl⟩
theorem StF.file {sl sl' a m a' m' : Nat} {num lv : Int32} {e : Nat} {fs : List Nat} (hq : NfF K I R B Ln n sl a m num lv e K' I' R' B' Ln' n' sl' a' m') (hA : AlR K' I' R' B' Ln' n' a' m' (fs ++ [n])) (hn : 34 ≤ n) : StF K I R B Ln n K' I' R' B' Ln' n' := by
  have hka := (hA.arr (j := fs.length) (by simp)).1
  obtain ⟨q1, -, q3, q4, q5, q6, q7⟩ := hq
  have ha' : a' < n' := by
    rcases hA.2.2.1 with ⟨-, z⟩ | ⟨-, z, -⟩
    · have := hA.2.2.2.1; rw [List.length_append] at this; simp at this; omega
    · exact z
  refine ⟨by omega, fun i hi => q3 i (by omega), fun i hi => ⟨(q4 i hi).1, fun f => q5 f i (by omega), fun f => q6 f i (by omega), q7 i (by omega)⟩, fun f i hi hx => q5 f i (by omega), fun f i hi hx => q6 f i (by omega), fun i hi hx => q7 i (fun z => hx (Or.inr ?_))⟩
  rw [← (q3 i (by omega)).1, z]
  exact hka
end STF
