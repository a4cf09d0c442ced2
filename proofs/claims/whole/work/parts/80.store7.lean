/-- cells that are not made yet read as nothing -/
def FrH (I : Nat → Nat → Int32) (J : Nat → Nat → Int64) (R : Nat → Nat → Option Nat) (A : Nat → Nat → Int32) (B : Nat → Nat → Option Nat) (n : Nat) : Prop := ∀ i, n ≤ i → (∀ f, I f i = 0) ∧ (∀ f, J f i = 0) ∧ (∀ f, R f i = none) ∧ (∀ j, A i j = 0) ∧ ∀ j, B i j = none
theorem FrH.st {K0 K : Nat → Nat} {I0 I : Nat → Nat → Int32} {J : Nat → Nat → Int64} {R0 R B0 B : Nat → Nat → Option Nat} {A : Nat → Nat → Int32} {Ln0 Ln : Nat → Nat} {n0 n : Nat} (h : FrH I0 J R0 A B0 n0) (s : StF K0 I0 R0 B0 Ln0 n0 K I R B Ln n) : FrH I J R A B n := fun i hi => by
  obtain ⟨s1, -, s3, -⟩ := s
  obtain ⟨h1, h2, h3, h4, h5⟩ := h i (by omega)
  obtain ⟨a1, a2, a3, a4⟩ := s3 i hi
  exact ⟨fun f => (a2 f).trans (h1 f), h2, fun f => (a3 f).trans (h3 f), h4, fun j => by rw [a4]; exact h5 j⟩
/-- the store: its entries cs, its files fs, md files made so far -/
def StR (K : Nat → Nat) (I : Nat → Nat → Int32) (R B : Nat → Nat → Option Nat) (Ln : Nat → Nat) (n a m : Nat) (cs fs : List Nat) (md : Nat) : Prop :=
  EnR K I B cs ∧ AlR K I R B Ln n a m fs ∧ (cs.Nodup ∧ fs.Nodup) ∧ (∀ e ∈ cs, 34 ≤ e ∧ e < n) ∧ (∀ f ∈ fs, 34 ≤ f ∧ f < n) ∧ I 388 7 = nI md ∧ I 386 7 = nI (cs.countP (memB R)) ∧ (∀ e ∈ cs, ∀ f, R 6 e = some f → f ∈ fs) ∧ (∀ f ∈ fs, I 325 f = 0 ∧ SegR I R cs f ∧ ∃ k, 0 < k ∧ k ≤ md ∧ I 320 f = nI k) ∧ ∀ f ∈ fs, ∀ g ∈ fs, I 320 f = I 320 g → f = g
def fiR (R : Nat → Nat → Option Nat) (cs : List Nat) (g : Nat) : Nat := ((segL R cs g).head?).getD 0
def laR (R : Nat → Nat → Option Nat) (cs : List Nat) (g : Nat) : Nat := ((segL R cs g).getLast?).getD 0
/-- the files that the merge of o takes in, and their entries -/
def selC (I : Nat → Nat → Int32) (J : Nat → Nat → Int64) (R : Nat → Nat → Option Nat) (cs : List Nat) (o g : Nat) : Bool := selB I J (fiR R cs) (laR R cs) o g
def retB (I : Nat → Nat → Int32) (J : Nat → Nat → Int64) (R : Nat → Nat → Option Nat) (cs : List Nat) (o e : Nat) : Bool := match R 6 e with
  | none => false
  | some g => selC I J R cs o g
def nuF (I : Nat → Nat → Int32) (R : Nat → Nat → Option Nat) (e : Nat) : Int32 := nmO I (R 6 e)
theorem seg_ends {R : Nat → Nat → Option Nat} {cs : List Nat} {g : Nat} (h : segL R cs g ≠ []) : (segL R cs g).head? = some (fiR R cs g) ∧ (segL R cs g).getLast? = some (laR R cs g) ∧ fiR R cs g ∈ cs ∧ laR R cs g ∈ cs := by
  unfold fiR laR
  have hs : ∀ x ∈ segL R cs g, x ∈ cs := fun x hx => (List.mem_filter.mp hx).1
  cases hh : (segL R cs g).head? with
  | none => exact absurd (List.head?_eq_none_iff.mp hh) h
  | some x =>
    cases hl : (segL R cs g).getLast? with
    | none => exact absurd (List.getLast?_eq_none_iff.mp hl) h
    | some y => exact ⟨rfl, rfl, hs x (List.mem_of_mem_head? hh), hs y (List.mem_of_getLast? hl)⟩
theorem nodup_len : ∀ {F l : List Nat}, F.Nodup → (∀ x ∈ F, x ∈ l) → F.length ≤ l.length
  | [], l, _, _ => Nat.zero_le _
  | x :: F, l, h, hs => by
    obtain ⟨h1, h2⟩ := List.nodup_cons.mp h
    have hx := hs x List.mem_cons_self
    have := nodup_len (F := F) (l := l.erase x) h2 (fun y hy => by
      have hne : y ≠ x := fun z => h1 (z ▸ hy)
      exact (List.mem_erase_of_ne hne).mpr (hs y (List.mem_cons_of_mem _ hy)))
    rw [List.length_erase_of_mem hx] at this
    have hp := List.length_pos_of_mem hx
    rw [List.length_cons]
    omega
theorem fON_mem {I : Nat → Nat → Int32} {lv k : Int32} {o : Nat} : ∀ {l : List Nat} {p : Nat}, fON I lv k l p = some o → o ∈ l ∧ I 321 o = lv
  | [], p, h => by cases h
  | f :: l, p, h => by
    unfold fON at h
    by_cases h1 : I 321 f = lv
    · rw [if_pos h1] at h
      by_cases h2 : nI p = k
      · rw [if_pos h2] at h; cases h; exact ⟨List.mem_cons_self, h1⟩
      · rw [if_neg h2] at h; exact ⟨List.mem_cons_of_mem _ (fON_mem h).1, (fON_mem h).2⟩
    · rw [if_neg h1] at h; exact ⟨List.mem_cons_of_mem _ (fON_mem h).1, (fON_mem h).2⟩
section STR
variable {K : Nat → Nat} {I : Nat → Nat → Int32} {J : Nat → Nat → Int64} {R B : Nat → Nat → Option Nat} {Ln : Nat → Nat} {n a m : Nat} {cs fs : List Nat} {md : Nat}
theorem StR.ed (h : StR K I R B Ln n a m cs fs md) : EdR K R (fiR R cs) (laR R cs) fs := fun g hg => by
  obtain ⟨⟨-, -, e3⟩, -, -, -, s5, -, -, -, s9, -⟩ := h
  obtain ⟨-, ⟨z1, -, z3, z4⟩, -⟩ := s9 g hg
  obtain ⟨y1, y2, y3, y4⟩ := seg_ends z1
  have hk : ∀ x ∈ cs, K x = 0 := fun x hx => by
    obtain ⟨j, hj, rfl⟩ := List.getElem_of_mem hx
    exact (e3 j _ (List.getElem?_eq_getElem hj)).2
  exact ⟨z3.trans y1, z4.trans y2, hk _ y3, hk _ y4, (s5 g hg).1⟩
theorem StR.cap (h : StR K I R B Ln n a m cs fs md) (ret sel : Nat → Bool) (hr : ∀ e ∈ cs, ∀ g, R 6 e = some g → ret e = sel g) : (fs.filter (fun g => !sel g)).length + (cs.filter ret).length ≤ 500 := by
  obtain ⟨⟨-, e2, -⟩, -, ⟨-, s3⟩, -, -, -, -, s8, s9, -⟩ := h
  have h1 : (fs.filter (fun g => !sel g)).length ≤ ((cs.filter (fun e => !ret e)).filterMap (R 6)).length := by
    refine nodup_len (List.Pairwise.filter _ s3) (fun g hg => ?_)
    obtain ⟨hg1, hg2⟩ := List.mem_filter.mp hg
    obtain ⟨-, ⟨z1, -⟩, -⟩ := s9 g hg1
    obtain ⟨x, hx⟩ := List.exists_mem_of_ne_nil _ z1
    obtain ⟨x1, x2⟩ := List.mem_filter.mp hx
    have x2 := of_decide_eq_true x2
    exact List.mem_filterMap.mpr ⟨x, List.mem_filter.mpr ⟨x1, by rw [hr x x1 g x2]; exact hg2⟩, x2⟩
  have h2 : ((cs.filter (fun e => !ret e)).filterMap (R 6)).length ≤ (cs.filter (fun e => !ret e)).length := List.length_filterMap_le _ _
  have h3 : (cs.filter ret).length + (cs.filter (fun e => !ret e)).length = cs.length := by
    rw [← List.countP_eq_length_filter, ← List.countP_eq_length_filter]
    have := List.length_eq_countP_add_countP (l := cs) (fun e => ret e = true)
    simp only [Bool.decide_eq_true] at this
    rw [this]
    congr 1
    refine List.countP_congr (fun x _ => ?_)
    cases ret x <;> simp
  omega
end STR
theorem mgF_sp {pl : Nat → Nat → Int32} {sp sp' lv : Nat → Int32} {h : Int32} {two : Bool} {md : Nat} : ∀ {l : List Nat} {pv fm : Option Nat} {ps : Bool} {ins c : Nat}, (∀ e ∈ l, sp' e = sp e) → mgF pl sp' lv h two md l pv ps fm ins c = mgF pl sp lv h two md l pv ps fm ins c
  | [], _, _, _, _, _, _ => rfl
  | e :: r, pv, fm, ps, ins, c, hs => by
    have h1 := hs e List.mem_cons_self
    have h2 : ∀ x ∈ r, sp' x = sp x := fun x hx => hs x (List.mem_cons_of_mem _ hx)
    rw [mgF, mgF, h1, mgF_sp h2, mgF_sp h2, mgF_sp h2]
theorem mgF_c {pl : Nat → Nat → Int32} {sp lv : Nat → Int32} {h : Int32} {two : Bool} {md : Nat} : ∀ (l : List Nat) (pv fm : Option Nat) (ps : Bool) (ins c : Nat), (mgF pl sp lv h two md l pv ps fm ins c).2.1 ≤ c + l.length
  | [], _, _, _, _, _ => by rw [mgF]; exact Nat.le_add_right _ _
  | e :: r, pv, fm, ps, ins, c => by
    rw [mgF, List.length_cons]
    split
    · have := mgF_c (pl := pl) (sp := sp) (lv := lv) (h := h) (two := two) (md := md) r (some e) fm ((pv.any (fun a => decide (pl a e = 0)) && ps) || decide (sp e ≤ h)) ins c
      simp only
      omega
    · split
      · have := mgF_c (pl := pl) (sp := sp) (lv := lv) (h := h) (two := two) (md := md) r (some e) (some e) ((pv.any (fun a => decide (pl a e = 0)) && ps) || decide (sp e ≤ h)) 1 (c + 1)
        simp only
        omega
      · have := mgF_c (pl := pl) (sp := sp) (lv := lv) (h := h) (two := two) (md := md) r (some e) (some e) ((pv.any (fun a => decide (pl a e = 0)) && ps) || decide (sp e ≤ h)) (ins + 1) c
        simp only
        omega
section C80
variable {X : CX} {d : Nat} {K : Nat → Nat} {I : Nat → Nat → Int32} {J : Nat → Nat → Int64} {R : Nat → Nat → Option Nat} {A : Nat → Nat → Int32} {B : Nat → Nat → Option Nat} {Ln : Nat → Nat} {n sl : Nat}
set_option maxRecDepth 100000 in
set_option maxHeartbeats 4000000 in
theorem cs_moveRetired (hC : CFix K R Ln) {a m : Nat} {cs fs : List Nat} {md : Nat} (hS : StR K I R B Ln n a m cs fs md) (hn : 34 ≤ n) (hF : FrH I J R A B n) (hmd : md + 520 < 2147483648) {o : Nat} (ho : o ∈ fs) {h lv : Int32} {I1 : Nat → Nat → Int32} {B1 : Nat → Nat → Option Nat} (hA1 : AlR K I1 R B1 Ln n a m (fs.filter (fun g => !selC I J R cs o g))) (hI1 : RtI I I1 (fs.filter (selC I J R cs o))) (hB1 : ∀ i, i ≠ a → B1 i = B i) : EvM X mX6_moveRetired (d + 9) [rV (some 7), iV (lv + nI 1), iV h] (K, I1, J, R, A, B1, Ln, n, sl) (fun r G' => ∃ K' I' R' B' Ln' n' sl' a' m' kp nf, nf.length = (mgF (plJ J) (I 4) (lvR R) h (decide (lv + nI 1 = 2)) md (cs.filter (retB I J R cs o)) none false none 0 0).2.1 ∧ kp = cs.filter (fun e => decide (¬ upF (nuF I R) (mgF (plJ J) (I 4) (lvR R) h (decide (lv + nI 1 = 2)) md (cs.filter (retB I J R cs o)) none false none 0 0).1 e < 0)) ∧ (∀ e ∈ kp, nuF I' R' e = upF (nuF I R) (mgF (plJ J) (I 4) (lvR R) h (decide (lv + nI 1 = 2)) md (cs.filter (retB I J R cs o)) none false none 0 0).1 e) ∧ StR K' I' R' B' Ln' n' a' m' kp (fs.filter (fun g => !selC I J R cs o g) ++ nf) (md + nf.length) ∧ (∀ j f, nf[j]? = some f → I' 320 f = nI (md + 1 + j) ∧ I' 321 f = lv + nI 1) ∧ StF K I R B Ln n K' I' R' B' Ln' n' ∧ (n' + m ≤ n + 1 + nf.length + m' ∧ sl' + 800 * m ≤ sl + 4 + 6 * nf.length + 800 * m' ∧ m ≤ m') ∧ r = some (iV (nI (cs.length - kp.length))) ∧ G' = (K', I', J, R', A, B', Ln', n', sl')) := by
  have hS0 := hS
  obtain ⟨⟨e1, e2, e3⟩, sA, ⟨sN1, sN2⟩, s4, s5, s6, s7, s8, s9, s10⟩ := hS
  have ha8 : a ≠ 8 := by rcases sA.2.2.1 with ⟨z, -⟩ | ⟨z, -⟩ <;> omega
  have hKe : ∀ e ∈ cs, K e = 0 := fun x hx => by
    obtain ⟨j, hj, rfl⟩ := List.getElem_of_mem hx
    exact (e3 j _ (List.getElem?_eq_getElem hj)).2
  have hKf : ∀ g ∈ fs, K g = 5 := fun g hg => by
    obtain ⟨j, hj, rfl⟩ := List.getElem_of_mem hg
    exact (sA.arr hj).2.2.2
  have hIf : ∀ f i, f ≠ 325 → ¬ (i = 9 ∧ (f = 640 ∨ f = 642)) → I1 f i = I f i := fun f i hf hi => by rw [hI1 f i hi, if_neg (fun z => hf z.1)]
  have hfr : ∀ i, n ≤ i → ∀ f, I1 f i = 0 := fun i hi f => by
    rw [hI1 f i (by omega), if_neg]
    · exact (hF i hi).1 f
    · rintro ⟨-, z⟩
      have := (s5 i (List.mem_filter.mp z).1).2
      omega
  have hret : ∀ e ∈ cs, ∀ g, R 6 e = some g → retB I J R cs o e = selC I J R cs o g := fun e _ g hg => by unfold retB; rw [hg]
  have hcap := hS0.cap (retB I J R cs o) (selC I J R cs o) hret
  have hnu : ∀ e ∈ cs, ¬ nuF I R e < 0 := fun e he => by
    unfold nuF
    cases hr : R 6 e with
    | none => show ¬ (0 : Int32) < 0; decide
    | some g =>
      obtain ⟨-, -, k, k1, k2, k3⟩ := s9 g (s8 e he g hr)
      show ¬ I 320 g < 0
      rw [k3]; exact nI_nneg (by omega)
  let two := decide (lv + nI 1 = 2)
  let I0 := u2 (u2 I1 256 n h) 257 n (bZ two)
  have kn : va_up K n 4 n = 4 := va_up_self _ _ _
  have hI0 : ∀ f i, i ≠ n → I0 f i = I1 f i := fun f i hi => by show u2 _ _ _ _ f i = _; rw [u2_ne2 hi, u2_ne2 hi]
  have hI0' : ∀ f i, i ≠ n → f ≠ 325 → ¬ (i = 9 ∧ (f = 640 ∨ f = 642)) → I0 f i = I f i := fun f i hi hf h9 => (hI0 f i hi).trans (hIf f i hf h9)
  have hC0 : CFix (va_up K n 4) R Ln := hC.of (fun i hi => va_up_ne _ _ (by omega)) (fun _ _ => rfl) (fun _ _ => rfl) rfl rfl
  have hA0 : AlR (va_up K n 4) I0 R B1 Ln (n + 1) a m (fs.filter (fun g => !selC I J R cs o g)) := by
    obtain ⟨q1, q2, q3, q4, q5, q6⟩ := hA1
    refine ⟨by rw [hI0 _ _ (by omega)]; exact q1, q2, ?_, q4, q5, fun j f hj => ?_⟩
    · rcases q3 with z | ⟨z1, z2, z3, z4⟩
      · exact Or.inl z
      · exact Or.inr ⟨z1, by omega, by rw [va_up_ne _ _ (by omega)]; exact z3, z4⟩
    · obtain ⟨z1, z2⟩ := q6 j f hj
      obtain ⟨y1, y2⟩ := List.getElem?_eq_some_iff.mp hj
      have := (s5 f (List.mem_filter.mp (y2 ▸ List.getElem_mem y1)).1).2
      exact ⟨z1, by rw [va_up_ne _ _ (by omega)]; exact z2⟩
  have hH : MvH cs (fs.filter (fun g => !selC I J R cs o g)) n h two md (va_up K n 4) I0 R B1 Ln (n + 1) (sl + 4) a m [] [] 0 (va_up K n 4) I0 R B1 Ln (n + 1) (sl + 4) a m := by
    refine ⟨⟨hC0, by rw [hI0' _ _ (by omega) (by decide) (by omega)]; exact e1, by omega, by omega, fun e he => ?_, ⟨kn, ?_, u2_self⟩, fun e he g hg => ?_, fun i hi f => ?_⟩, by rw [List.append_nil]; exact hA0, by rw [hI0' _ _ (by omega) (by decide) (by omega)]; exact s6, fun j e hj => by simp at hj, fun j e hj _ => ?_, fun g hg => by simp at hg, fun g hg => ?_, StF.refl, ⟨by simp, by simp, by simp⟩, rfl⟩
    · have := (s4 e he).2
      exact ⟨by rw [va_up_ne _ _ (by omega)]; exact hKe e he, rfl, rfl, by omega⟩
    · show u2 _ _ _ _ 256 n = h
      rw [u2_ne1 (by decide)]; exact u2_self
    · have hgf := s8 e he g hg
      have := (s5 g hgf).2
      exact ⟨by rw [va_up_ne _ _ (by omega)]; exact hKf g hgf, by omega, rfl⟩
    · rw [hI0 _ _ (by omega)]; exact hfr i (by omega) f
    · rw [hB1 8 (Ne.symm ha8)]; exact (e3 j e hj).1
    · have := (s5 g (List.mem_filter.mp hg).1).2
      omega
  have hL : MvL (retB I J R cs o) R (nuF I R) (fs.filter (fun g => !selC I J R cs o g)) md (lv + nI 1) [] cs [] [] [] (fun _ => True) I0 R := by
    refine ⟨fun _ _ => rfl, fun e he hr => ⟨?_, hnu e he, fun f hf => ?_⟩, fun e he hr => ?_, rfl, fun e he => by simp at he, fun f hf _ => ?_, fun j f hj => by simp at hj, fun p hp => by simp at hp⟩
    · refine nmO_congr (fun f hf => ?_)
      have := (s5 f (s8 e he f hf)).2
      exact hI0' _ _ (by omega) (by decide) (by omega)
    · have h1 := s8 e he f hf
      refine List.mem_filter.mpr ⟨h1, ?_⟩
      rw [← hret e he f hf, hr]; rfl
    · cases hx : R 6 e with
      | none => unfold retB at hr; rw [hx] at hr; cases hr
      | some g =>
        refine ⟨g, rfl, fun z => ?_⟩
        rw [List.append_nil] at z
        have z2 := (List.mem_filter.mp z).2
        rw [← hret e he g hx, hr] at z2
        cases z2
    · rw [List.append_nil] at hf
      have hf1 := (List.mem_filter.mp hf).1
      have := (s5 f hf1).2
      exact (s9 f hf1).2.1.congr (fun _ _ => Iff.rfl) (hI0' _ _ (by omega) (by decide) (by omega)) rfl rfl
  have hD : MvD cs n none false none none 0 [] I0 R := ⟨(hF n (Nat.le_refl _)).2.2.1 _, by show u2 _ _ _ _ 259 n = _; rw [u2_ne1 (by decide), u2_ne1 (by decide)]; exact hfr n (Nat.le_refl _) _, fun b hb => (by cases hb), Or.inl ⟨rfl, rfl, rfl⟩⟩
  have hrt : ∀ e ∈ cs, (R 6 e = none ∧ retB I J R cs o e = false) ∨ ∃ g, R 6 e = some g ∧ I0 325 g = bZ (retB I J R cs o e) := fun e he => by
    cases hx : R 6 e with
    | none => exact Or.inl ⟨rfl, by unfold retB; rw [hx]⟩
    | some g =>
      refine Or.inr ⟨g, rfl, ?_⟩
      have hgf := s8 e he g hx
      have := (s5 g hgf).2
      rw [hI0 _ _ (by omega), hI1 325 g (by omega), hret e he g hx]
      cases hs : selC I J R cs o g with
      | true => rw [if_pos ⟨rfl, List.mem_filter.mpr ⟨hgf, hs⟩⟩]; rfl
      | false => rw [if_neg (fun z => by have := (List.mem_filter.mp z.2).2; rw [hs] at this; cases this), (s9 g hgf).1]; rfl
  have eI : ∀ e ∈ cs, I0 4 e = I 4 e := fun e he => by
    have := (s4 e he).2
    exact hI0' _ _ (by omega) (by decide) (by omega)
  have emg : mgF (plJ J) (I0 4) (lvR R) h two md (cs.filter (retB I J R cs o)) none false none 0 0 = (mgF (plJ J) (I 4) (lvR R) h (decide (lv + nI 1 = 2)) md (cs.filter (retB I J R cs o)) none false none 0 0) := mgF_sp (fun e he => eI e (List.mem_filter.mp he).1)
  have go := lp_mv (X := X) (d := d) (J := J) (A := A) (lv := lv + nI 1) (asT := (mgF (plJ J) (I 4) (lvR R) h (decide (lv + nI 1 = 2)) md (cs.filter (retB I J R cs o)) none false none 0 0).1) (cT := (mgF (plJ J) (I 4) (lvR R) h (decide (lv + nI 1 = 2)) md (cs.filter (retB I J R cs o)) none false none 0 0).2.1) (Q := fun r G' => ∃ K' I' R' B' Ln' n' sl' a' m' kp nf, nf.length = (mgF (plJ J) (I 4) (lvR R) h (decide (lv + nI 1 = 2)) md (cs.filter (retB I J R cs o)) none false none 0 0).2.1 ∧ kp = cs.filter (fun e => decide (¬ upF (nuF I R) (mgF (plJ J) (I 4) (lvR R) h (decide (lv + nI 1 = 2)) md (cs.filter (retB I J R cs o)) none false none 0 0).1 e < 0)) ∧ (∀ e ∈ kp, nuF I' R' e = upF (nuF I R) (mgF (plJ J) (I 4) (lvR R) h (decide (lv + nI 1 = 2)) md (cs.filter (retB I J R cs o)) none false none 0 0).1 e) ∧ StR K' I' R' B' Ln' n' a' m' kp (fs.filter (fun g => !selC I J R cs o g) ++ nf) (md + nf.length) ∧ (∀ j f, nf[j]? = some f → I' 320 f = nI (md + 1 + j) ∧ I' 321 f = lv + nI 1) ∧ StF K I R B Ln n K' I' R' B' Ln' n' ∧ (n' + m ≤ n + 1 + nf.length + m' ∧ sl' + 800 * m ≤ sl + 4 + 6 * nf.length + 800 * m' ∧ m ≤ m') ∧ r = some (iV (nI (cs.length - kp.length))) ∧ G' = (K', I', J, R', A, B', Ln', n', sl')) e2 sN1 hrt hmd ?fin cs [] [] [] [] none none none false 0 (va_up K n 4) I0 R B1 Ln (n + 1) (sl + 4) a m none rfl (Nat.le_refl _) (Nat.le_refl _) (by rw [List.append_nil]; omega) hH hL hD (by rw [← emg]; rfl) (by rw [← emg]; rfl)
  case fin =>
    intro K' I' R' B' Ln' n' sl' a' m' kp nf gH gL gc gl
    obtain ⟨⟨p1, p2, p3, p4, p5, p6, p7, p8⟩, pA, pm, pB, -, pn, pf, pS, pr, p386⟩ := gH
    obtain ⟨l1, l2, l3, l4, l5, l6, l7, l8⟩ := gL
    have hnn := pS.1
    have hkc : ∀ x ∈ kp, x ∈ cs := fun x hx => by rw [l4] at hx; exact (List.mem_filter.mp hx).1
    have hI320 : ∀ f ∈ fs.filter (fun g => !selC I J R cs o g), I' 320 f = I 320 f ∧ I' 325 f = 0 := fun f hf => by
      obtain ⟨f1, f2⟩ := List.mem_filter.mp hf
      have hfn := (s5 f f1).2
      refine ⟨?_, ?_⟩
      · rw [pS.2.2.2.1 320 f (by omega) (by rw [va_up_ne _ _ (by omega), hKf f f1]; omega)]
        exact hI0' _ _ (by omega) (by decide) (by omega)
      · obtain ⟨-, ⟨z1, -⟩, -⟩ := s9 f f1
        obtain ⟨x, hx⟩ := List.exists_mem_of_ne_nil _ z1
        obtain ⟨x1, x2⟩ := List.mem_filter.mp hx
        rw [(p7 x x1 f (of_decide_eq_true x2)).2.2, hI0 _ _ (by omega), hI1 325 f (by omega), if_neg, (s9 f f1).1]
        rintro ⟨-, z⟩
        have := (List.mem_filter.mp z).2
        rw [this] at f2
        cases f2
    have hnl : nf.length < 520 := by
      have z := mgF_c (pl := plJ J) (sp := I 4) (lv := lvR R) (h := h) (two := decide (lv + nI 1 = 2)) (md := md) (cs.filter (retB I J R cs o)) none none false 0 0
      rw [← gc] at z
      omega
    have hinj : ∀ i j f, nf[i]? = some f → nf[j]? = some f → i = j := fun i j f hi hj => by
      have z1 := (l7 i f hi).1
      have z2 := (l7 j f hj).1
      obtain ⟨b1, -⟩ := List.getElem?_eq_some_iff.mp hi
      obtain ⟨b2, -⟩ := List.getElem?_eq_some_iff.mp hj
      have := (neq (by omega) (by omega)).mp (z1.symm.trans z2)
      omega
    refine ⟨K', u2 I' 385 7 (nI kp.length), R', B', Ln', n', sl', a', m', kp, nf, gc, l4, fun e he => ?_, ⟨⟨u2_self, by omega, fun j e hj => ⟨pB j e hj, ?_⟩⟩, pA.frI (u2_ne1 (by decide)), ⟨?_, ?_⟩, fun e he => ?_, fun f hf => ?_, by rw [u2_ne1 (by decide)]; exact pm, ?_, fun e he => (l5 e he).2.1, fun f hf => ?_, fun f hf g hg hfg => ?_⟩, fun j f hj => ?_, ?_, ⟨by omega, by omega, by omega⟩, rfl, rfl⟩
    · exact (nmO_congr (fun f _ => u2_ne1 (by decide))).trans (l5 e he).1
    · obtain ⟨b1, b2⟩ := List.getElem?_eq_some_iff.mp hj
      exact (p5 e (hkc e (b2 ▸ List.getElem_mem b1))).1
    · rw [l4]; exact List.Pairwise.filter _ sN1
    · rw [List.nodup_append]
      refine ⟨List.Pairwise.filter _ sN2, ?_, fun x hx y hy z => ?_⟩
      · refine List.pairwise_iff_getElem.mpr (fun i j hi hj hij z => ?_)
        have := hinj i j _ (List.getElem?_eq_getElem hi) (by rw [z]; exact List.getElem?_eq_getElem hj)
        omega
      · have := pf x hx
        have := (pn y hy).1
        omega
    · have := s4 e (hkc e he)
      omega
    · rcases List.mem_append.mp hf with hf | hf
      · have := s5 f (List.mem_filter.mp hf).1
        omega
      · have := pn f hf
        omega
    · rw [u2_ne1 (by decide), p386, hI0' _ _ (by omega) (by decide) (by omega), s7]
      congr 1
      have c1 : kp.countP (memB R') = kp.countP (memB R) := List.countP_congr (fun x hx => by unfold memB; rw [decide_eq_true_iff, decide_eq_true_iff]; exact (l5 x hx).2.2)
      rw [c1, l4, List.countP_filter]
      refine List.countP_congr (fun x hx => ?_)
      constructor
      · intro z
        have z0 := z
        unfold memB at z
        have z := of_decide_eq_true z
        rw [z0, Bool.true_and]
        refine decide_eq_true ?_
        rw [upF_out]
        · exact hnu x hx
        · intro p hp hpx
          have := (l8 p hp).2
          rw [hpx] at this
          unfold retB at this
          rw [z] at this
          cases this
      · intro z
        exact (Bool.and_eq_true _ _ ▸ z).1
    · have h6 := l6 f hf trivial
      rw [List.append_nil] at h6
      refine ⟨?_, h6.congr (fun _ _ => Iff.rfl) (u2_ne1 (by decide)) rfl rfl, ?_⟩
      · rw [u2_ne1 (by decide)]
        rcases List.mem_append.mp hf with hf | hf
        · exact (hI320 f hf).2
        · obtain ⟨j, hj, rfl⟩ := List.getElem_of_mem hf
          exact (l7 j _ (List.getElem?_eq_getElem hj)).2.2
      · rcases List.mem_append.mp hf with hf | hf
        · obtain ⟨-, -, k, k1, k2, k3⟩ := s9 f (List.mem_filter.mp hf).1
          exact ⟨k, k1, by omega, by rw [u2_ne1 (by decide), (hI320 f hf).1]; exact k3⟩
        · obtain ⟨j, hj, rfl⟩ := List.getElem_of_mem hf
          exact ⟨md + 1 + j, by omega, by omega, by rw [u2_ne1 (by decide)]; exact (l7 j _ (List.getElem?_eq_getElem hj)).1⟩
    · rw [u2_ne1 (by decide), u2_ne1 (by decide)] at hfg
      rcases List.mem_append.mp hf with hf | hf
      · rcases List.mem_append.mp hg with hg | hg
        · rw [(hI320 f hf).1, (hI320 g hg).1] at hfg
          exact s10 f (List.mem_filter.mp hf).1 g (List.mem_filter.mp hg).1 hfg
        · obtain ⟨-, -, k, k1, k2, k3⟩ := s9 f (List.mem_filter.mp hf).1
          obtain ⟨j, hj, rfl⟩ := List.getElem_of_mem hg
          rw [(hI320 f hf).1, k3, (l7 j _ (List.getElem?_eq_getElem hj)).1] at hfg
          have := (neq (by omega) (by omega)).mp hfg
          omega
      · rcases List.mem_append.mp hg with hg | hg
        · obtain ⟨-, -, k, k1, k2, k3⟩ := s9 g (List.mem_filter.mp hg).1
          obtain ⟨j, hj, rfl⟩ := List.getElem_of_mem hf
          rw [(hI320 g hg).1, k3, (l7 j _ (List.getElem?_eq_getElem hj)).1] at hfg
          have := (neq (by omega) (by omega)).mp hfg
          omega
        · obtain ⟨i, hi, rfl⟩ := List.getElem_of_mem hf
          obtain ⟨j, hj, rfl⟩ := List.getElem_of_mem hg
          rw [(l7 i _ (List.getElem?_eq_getElem hi)).1, (l7 j _ (List.getElem?_eq_getElem hj)).1] at hfg
          have := (neq (by omega) (by omega)).mp hfg
          have : i = j := by omega
          subst this
          rfl
    · rw [u2_ne1 (by decide), u2_ne1 (by decide)]
      have := l7 j f hj
      exact ⟨this.1, this.2.1⟩
    · refine StF.trans ?_ (pS.trans (StF.count (by omega) (by omega)))
      refine ⟨by omega, fun i hi => ⟨va_up_ne _ _ (by omega), rfl⟩, fun i hi => ⟨va_up_ne _ _ (by omega), fun f => ?_, fun _ => rfl, ?_⟩, fun f i hi hx => ?_, fun _ _ _ _ => rfl, fun i hi hx => ?_⟩
      · rw [hI0 _ _ (by omega), hfr i (by omega) f, (hF i (by omega)).1 f]
      · refine hB1 i (fun z => ?_)
        rcases sA.2.2.1 with ⟨y, -⟩ | ⟨-, y, -⟩ <;> omega
      · by_cases h325 : f = 325
        · subst h325
          rw [hI0 _ _ (by omega), hI1 325 i (by omega), if_neg]
          rintro ⟨-, z⟩
          exact hx (Or.inr (Or.inl ⟨hKf i (List.mem_filter.mp z).1, Or.inr rfl⟩))
        · exact hI0' f i (by omega) h325 (fun z => hx (Or.inr (Or.inr (Or.inr z))))
      · refine hB1 i (fun z => ?_)
        rcases sA.2.2.1 with ⟨-, y⟩ | ⟨-, -, y, -⟩
        · have := sA.2.2.2.1
          have := List.length_pos_of_mem ho
          omega
        · exact hx (Or.inr (by rw [z]; exact y))
  show Ev X mX6_moveRetired (d + 9) 0 [some (rV (some 7)), some (iV (lv + nI 1)), some (iV h), none, none, none, none, none] [] (K, I1, J, R, A, B1, Ln, n, sl) _
  by_cases h2 : lv + nI 1 = 2
  · have et : two = true := decide_eq_true h2
    have sv : EvM X mX4_init (d + 8) [rV (some n), iV h, iV (nI 1)] (va_up K n 4, I1, J, R, A, B1, Ln, n + 1, sl + gnf 4) _ := cs_newSieve (X := X) (d := d + 7) (K := va_up K n 4) (I := I1) (J := J) (R := R) (A := A) (B := B1) (Ln := Ln) (n := n + 1) (sl := sl + 4) (h := h) (b := true) kn
    have e0 : u2 (u2 I1 256 n h) 257 n (bZ true) = I0 := by show _ = u2 (u2 I1 256 n h) 257 n (bZ two); rw [et]
    rw [e0] at sv
    refine ev_new dX6_moveRetired_0 nwX6_129 ?_
    refine ev_dup dX6_moveRetired_3 rfl ?_
    refine ev_iload_n dX6_moveRetired_4 rfl ?_
    refine ev_iload_n dX6_moveRetired_5 rfl ?_
    refine ev_iconstN 2 dX6_moveRetired_6 (by decide) ?_
    refine ev_icmp_ne (y := 2) 14 dX6_moveRetired_7 (by decide) (fun c7 => absurd c7 (fun z => z h2)) (fun c7 => ?_)
    refine ev_iconstN 1 dX6_moveRetired_10 (by decide) ?_
    refine ev_goto 15 dX6_moveRetired_11 (by decide) ?_
    refine ev_callI dX6_moveRetired_15 okX4_init inX4_init rfl rfl mlX6_131 [iV _, iV _] rfl rfl (Nat.le_of_ble_eq_true rfl) (Nat.le_of_ble_eq_true rfl) (sv) (fun r_ G_ h_ => ?_)
    obtain ⟨rfl, rfl⟩ := h_
    try dsimp only [Option.toList, List.cons_append, List.nil_append]
    refine ev_astore_nS dX6_moveRetired_18 (by decide) rfl ?_
    refine ev_null dX6_moveRetired_19 ?_
    refine ev_astoreS dX6_moveRetired_20 (by decide) rfl ?_
    refine ev_iconstN 0 dX6_moveRetired_22 (by decide) ?_
    refine ev_istoreS dX6_moveRetired_23 (by decide) rfl ?_
    refine ev_iconstN 0 dX6_moveRetired_25 (by decide) ?_
    refine ev_istoreS dX6_moveRetired_26 (by decide) rfl ?_
    exact go
  · have et : two = false := decide_eq_false h2
    have sv : EvM X mX4_init (d + 8) [rV (some n), iV h, iV (nI 0)] (va_up K n 4, I1, J, R, A, B1, Ln, n + 1, sl + gnf 4) _ := cs_newSieve (X := X) (d := d + 7) (K := va_up K n 4) (I := I1) (J := J) (R := R) (A := A) (B := B1) (Ln := Ln) (n := n + 1) (sl := sl + 4) (h := h) (b := false) kn
    have e0 : u2 (u2 I1 256 n h) 257 n (bZ false) = I0 := by show _ = u2 (u2 I1 256 n h) 257 n (bZ two); rw [et]
    rw [e0] at sv
    refine ev_new dX6_moveRetired_0 nwX6_129 ?_
    refine ev_dup dX6_moveRetired_3 rfl ?_
    refine ev_iload_n dX6_moveRetired_4 rfl ?_
    refine ev_iload_n dX6_moveRetired_5 rfl ?_
    refine ev_iconstN 2 dX6_moveRetired_6 (by decide) ?_
    refine ev_icmp_ne (y := 2) 14 dX6_moveRetired_7 (by decide) (fun c7 => ?_) (fun c7 => absurd c7 h2)
    refine ev_iconstN 0 dX6_moveRetired_14 (by decide) ?_
    refine ev_callI dX6_moveRetired_15 okX4_init inX4_init rfl rfl mlX6_131 [iV _, iV _] rfl rfl (Nat.le_of_ble_eq_true rfl) (Nat.le_of_ble_eq_true rfl) (sv) (fun r_ G_ h_ => ?_)
    obtain ⟨rfl, rfl⟩ := h_
    try dsimp only [Option.toList, List.cons_append, List.nil_append]
    refine ev_astore_nS dX6_moveRetired_18 (by decide) rfl ?_
    refine ev_null dX6_moveRetired_19 ?_
    refine ev_astoreS dX6_moveRetired_20 (by decide) rfl ?_
    refine ev_iconstN 0 dX6_moveRetired_22 (by decide) ?_
    refine ev_istoreS dX6_moveRetired_23 (by decide) rfl ?_
    refine ev_iconstN 0 dX6_moveRetired_25 (by decide) ?_
    refine ev_istoreS dX6_moveRetired_26 (by decide) rfl ?_
    exact go
end C80
