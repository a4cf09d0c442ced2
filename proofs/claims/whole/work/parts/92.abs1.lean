def dE : EE := (0, 0, 0, 0, 0, 0, 0, 0, 0)
def xsL (L : List EE) (j : Nat) : EE := (L[j]?).getD dE
def plc (x : EE) : Int64 := plcL (eS x) (eV x) (eK x)
/-- the store as both keep it: entries in their order, files (number, level), how many files were made -/
abbrev SA : Type := List EE × List (Int32 × Int32) × Nat
def fluS (s : SA) : SA := if s.1.any (fun x => decide (eF x = 0)) = true then (s.1.map (fun x => if eF x = 0 then wF x (nI (s.2.2 + 1)) else x), s.2.1 ++ [(nI (s.2.2 + 1), nI 0)], s.2.2 + 1) else s
def ofS (L : List EE) (x : Int32) : List EE := L.filter (fun y => decide (eF y = x))
def fstS (L : List EE) (x : Int32) : EE := ((ofS L x).head?).getD dE
def lstS (L : List EE) (x : Int32) : EE := ((ofS L x).getLast?).getD dE
def metS (L : List EE) (x y : Int32) : Bool := decide (¬ plc (lstS L x) < plc (fstS L y) ∧ ¬ plc (lstS L y) < plc (fstS L x))
def selS (L : List EE) (l src : Int32) (p : Int32 × Int32) : Bool := decide (p.1 = src) || (decide (p.2 = l + nI 1) && metS L p.1 src)
def takS (s : SA) (l src : Int32) (x : EE) : Bool := s.2.1.any (fun p => selS s.1 l src p && decide (p.1 = eF x))
def mgS (h l src : Int32) (s : SA) : List (Nat × Int32) × Nat × Nat := mgF (fun i j => if plc (xsL s.1 i) = plc (xsL s.1 j) then 0 else 1) (fun j => eT (xsL s.1 j)) (fun j => eL (xsL s.1 j)) h (decide (l + nI 1 = 2)) s.2.2 ((List.range s.1.length).filter (fun j => takS s l src (xsL s.1 j))) none false none 0 0
def nuS (h l src : Int32) (s : SA) (j : Nat) : Int32 := upF (fun j => eF (xsL s.1 j)) (mgS h l src s).1 j
def keS (h l src : Int32) (s : SA) : List Nat := (List.range s.1.length).filter (fun j => decide (¬ nuS h l src s j < 0))
def mrgS (h l src : Int32) (s : SA) : SA := ((keS h l src s).map (fun j => wF (xsL s.1 j) (nuS h l src s j)), s.2.1.filter (fun p => !selS s.1 l src p) ++ (List.range (mgS h l src s).2.1).map (fun i => (nI (s.2.2 + 1 + i), l + nI 1)), s.2.2 + (mgS h l src s).2.1)
def lvS (s : SA) (l : Int32) : Nat := s.2.1.countP (fun p => decide (p.2 = l))
def srcS (s : SA) (l : Int32) : Option Int32 := (s.2.1.find? (fun p => decide (p.2 = l))).map (fun p => p.1)
theorem mgF_map {φ : Nat → Nat} {pl pl' : Nat → Nat → Int32} {sp lv sp' lv' : Nat → Int32} {h : Int32} {two : Bool} {md : Nat} {S : Nat → Prop} (h1 : ∀ i j, S i → S j → (pl (φ i) (φ j) = 0 ↔ pl' i j = 0)) (h2 : ∀ i, S i → sp (φ i) = sp' i) (h3 : ∀ i, S i → (lv (φ i) = 0 ↔ lv' i = 0)) : ∀ {l : List Nat} {pv fm : Option Nat} {ps : Bool} {ins c : Nat}, (∀ i ∈ l, S i) → (∀ i, pv = some i → S i) → (∀ i, fm = some i → S i) → mgF pl sp lv h two md (l.map φ) (pv.map φ) ps (fm.map φ) ins c = ((mgF pl' sp' lv' h two md l pv ps fm ins c).1.map (fun p => (φ p.1, p.2)), (mgF pl' sp' lv' h two md l pv ps fm ins c).2)
  | [], pv, fm, ps, ins, c, _, _, _ => by rw [List.map_nil, mgF, mgF]; rfl
  | e :: l, pv, fm, ps, ins, c, hl, hp, hf => by
    have he := hl e List.mem_cons_self
    have hl' : ∀ i ∈ l, S i := fun i hi => hl i (List.mem_cons_of_mem _ hi)
    have hse : ∀ i, some e = some i → S i := fun i hi => by cases hi; exact he
    have e1 : (pv.map φ).any (fun a => decide (pl a (φ e) = 0)) = pv.any (fun a => decide (pl' a e = 0)) := by
      cases pv with
      | none => rfl
      | some a => exact decide_eq_decide.mpr (h1 a e (hp a rfl) he)
    have e2 : (fm.map φ).all (fun a => decide (12 ≤ ins) && decide (¬ pl a (φ e) = 0)) = fm.all (fun a => decide (12 ≤ ins) && decide (¬ pl' a e = 0)) := by
      cases fm with
      | none => rfl
      | some a =>
        have : decide (¬ pl (φ a) (φ e) = 0) = decide (¬ pl' a e = 0) := decide_eq_decide.mpr (not_congr (h1 a e (hf a rfl) he))
        show (decide (12 ≤ ins) && decide (¬ pl (φ a) (φ e) = 0)) = _
        rw [this]
        rfl
    have e3 : decide (lv (φ e) = 0) = decide (lv' e = 0) := decide_eq_decide.mpr (h3 e he)
    have ih1 := mgF_map h1 h2 h3 (md := md) (h := h) (two := two) (l := l) (pv := some e) (fm := fm) (ps := (pv.any (fun a => decide (pl' a e = 0)) && ps) || decide (sp' e ≤ h)) (ins := ins) (c := c) hl' hse hf
    have ih2 := mgF_map h1 h2 h3 (md := md) (h := h) (two := two) (l := l) (pv := some e) (fm := some e) (ps := (pv.any (fun a => decide (pl' a e = 0)) && ps) || decide (sp' e ≤ h)) (ins := 1) (c := c + 1) hl' hse hse
    have ih3 := mgF_map h1 h2 h3 (md := md) (h := h) (two := two) (l := l) (pv := some e) (fm := some e) (ps := (pv.any (fun a => decide (pl' a e = 0)) && ps) || decide (sp' e ≤ h)) (ins := ins + 1) (c := c) hl' hse hse
    rw [Option.map_some] at ih1 ih2 ih3
    rw [List.map_cons, mgF, mgF, e1, e2, e3, h2 e he, ih1, ih2, ih3]
    split
    · rfl
    · split <;> rfl
theorem upF_map {φ : Nat → Nat} {num0 : Nat → Int32} {S : Nat → Prop} (hinj : ∀ i j, S i → S j → φ i = φ j → i = j) : ∀ {ap : List (Nat × Int32)} {num : Nat → Int32} {j : Nat}, (∀ i, S i → num0 (φ i) = num i) → (∀ p ∈ ap, S p.1) → S j → upF num0 (ap.map (fun p => (φ p.1, p.2))) (φ j) = upF num ap j := by
  intro ap
  induction ap generalizing num0 with
  | nil => intro num j h _ hj; exact h j hj
  | cons p ap ih =>
    intro num j h hp hj
    show upF (va_up num0 (φ p.1) p.2) (ap.map _) (φ j) = upF (va_up num p.1 p.2) ap j
    refine ih (fun i hi => ?_) (fun q hq => hp q (List.mem_cons_of_mem _ hq)) hj
    have hp1 := hp p List.mem_cons_self
    by_cases z : i = p.1
    · rw [z, va_up_self, va_up_self]
    · rw [va_up_ne _ _ z, va_up_ne _ _ (fun y => z (hinj i p.1 hi hp1 y))]
      exact h i hi
theorem filt_range {α : Type} {d : α} (p : α → Bool) (l : List α) : l.filter p = ((List.range l.length).filter (fun j => p ((l[j]?).getD d))).map (fun j => (l[j]?).getD d) := by
  have h : l = (List.range l.length).map (fun j => (l[j]?).getD d) := by
    refine List.ext_getElem? (fun i => ?_)
    rw [List.getElem?_map]
    by_cases hi : i < l.length
    · rw [List.getElem?_range hi, List.getElem?_eq_getElem hi]
      simp [List.getElem?_eq_getElem hi]
    · rw [List.getElem?_eq_none (by omega), List.getElem?_eq_none (by rw [List.length_range]; omega)]
      rfl
  conv => lhs; rw [h]
  rw [List.filter_map]
  rfl
theorem mgF_keys {pl : Nat → Nat → Int32} {sp lv : Nat → Int32} {h : Int32} {two : Bool} {md : Nat} : ∀ {l : List Nat} {pv fm : Option Nat} {ps : Bool} {ins c : Nat}, ∀ p ∈ (mgF pl sp lv h two md l pv ps fm ins c).1, p.1 ∈ l
  | [], _, _, _, _, _, p, hp => by rw [mgF] at hp; cases hp
  | e :: r, pv, fm, ps, ins, c, p, hp => by
    rw [mgF] at hp
    split at hp
    · rcases List.mem_cons.mp hp with rfl | hp
      · exact List.mem_cons_self
      · exact List.mem_cons_of_mem _ (mgF_keys p hp)
    · split at hp
      · rcases List.mem_cons.mp hp with rfl | hp
        · exact List.mem_cons_self
        · exact List.mem_cons_of_mem _ (mgF_keys p hp)
      · rcases List.mem_cons.mp hp with rfl | hp
        · exact List.mem_cons_self
        · exact List.mem_cons_of_mem _ (mgF_keys p hp)
/-- the class's store is s -/
def CsR (K : Nat → Nat) (I : Nat → Nat → Int32) (J : Nat → Nat → Int64) (R B : Nat → Nat → Option Nat) (Ln : Nat → Nat) (n a m : Nat) (cs fs : List Nat) (s : SA) : Prop := BsR K I J R B Ln n a m cs fs s.2.2 ∧ s.1 = cs.map (entC I R) ∧ s.2.1 = fs.map (fun f => (I 320 f, I 321 f))
section CSR
variable {K : Nat → Nat} {I : Nat → Nat → Int32} {J : Nat → Nat → Int64} {R B : Nat → Nat → Option Nat} {Ln : Nat → Nat} {n a m : Nat} {cs fs : List Nat} {s : SA}
theorem xs_map {j : Nat} (hj : j < cs.length) : xsL (cs.map (entC I R)) j = entC I R ((cs[j]?).getD 0) := by
  unfold xsL
  rw [List.getElem?_map, List.getElem?_eq_getElem hj]
  rfl
theorem plc_ent (h : BsR K I J R B Ln n a m cs fs s.2.2) {e : Nat} (he : e ∈ cs) : plc (entC I R e) = J 3 e := (h.2.1 e he).1.symm
theorem CsR.num (h : BsR K I J R B Ln n a m cs fs s.2.2) (hmd : s.2.2 < 2147483648) {e g : Nat} (he : e ∈ cs) (hg : g ∈ fs) : nuF I R e = I 320 g ↔ R 6 e = some g := by
  obtain ⟨⟨-, -, -, -, -, -, -, s8, s9, s10⟩, -⟩ := h
  obtain ⟨-, -, k, k1, k2, k3⟩ := s9 g hg
  unfold nuF
  cases hr : R 6 e with
  | none =>
    refine ⟨fun z => ?_, fun z => (by cases z)⟩
    have : (0 : Int32) = nI k := z.trans k3
    have := (neq (a := 0) (by omega) (by omega)).mp this
    omega
  | some x =>
    exact ⟨fun z => by rw [s10 x (s8 e he x hr) g hg z], fun z => by cases z; rfl⟩
theorem CsR.seg (h : CsR K I J R B Ln n a m cs fs s) (hmd : s.2.2 < 2147483648) {g : Nat} (hg : g ∈ fs) : ofS s.1 (I 320 g) = (segL R cs g).map (entC I R) := by
  unfold ofS segL
  rw [h.2.1, List.filter_map]
  congr 1
  exact List.filter_congr (fun e he => decide_eq_decide.mpr (CsR.num h.1 hmd he hg))
theorem CsR.ends (h : CsR K I J R B Ln n a m cs fs s) (hmd : s.2.2 < 2147483648) {g : Nat} (hg : g ∈ fs) : plc (fstS s.1 (I 320 g)) = J 3 (fiR R cs g) ∧ plc (lstS s.1 (I 320 g)) = J 3 (laR R cs g) ∧ fstS s.1 (I 320 g) = entC I R (fiR R cs g) ∧ lstS s.1 (I 320 g) = entC I R (laR R cs g) := by
  obtain ⟨-, ⟨z1, -⟩, -⟩ := h.1.1.2.2.2.2.2.2.2.2.1 g hg
  obtain ⟨y1, y2, y3, y4⟩ := seg_ends z1
  have e1 : fstS s.1 (I 320 g) = entC I R (fiR R cs g) := by
    unfold fstS
    rw [h.seg hmd hg, List.head?_map, y1]
    rfl
  have e2 : lstS s.1 (I 320 g) = entC I R (laR R cs g) := by
    unfold lstS
    rw [h.seg hmd hg, List.getLast?_map, y2]
    rfl
  exact ⟨by rw [e1]; exact plc_ent h.1 y3, by rw [e2]; exact plc_ent h.1 y4, e1, e2⟩
theorem CsR.sel (h : CsR K I J R B Ln n a m cs fs s) (hmd : s.2.2 < 2147483648) {o g : Nat} (ho : o ∈ fs) (hg : g ∈ fs) : selS s.1 (I 321 o) (I 320 o) (I 320 g, I 321 g) = selC I J R cs o g := by
  unfold selS selC selB mtC metS
  obtain ⟨a1, a2, -⟩ := h.ends hmd hg
  obtain ⟨b1, b2, -⟩ := h.ends hmd ho
  simp only [a1, a2, b1, b2]
  congr 1
  exact decide_eq_decide.mpr ⟨fun z => h.1.1.2.2.2.2.2.2.2.2.2 g hg o ho z, fun z => by rw [z]⟩
theorem CsR.tak (h : CsR K I J R B Ln n a m cs fs s) (hmd : s.2.2 < 2147483648) {o e : Nat} (ho : o ∈ fs) (he : e ∈ cs) : takS s (I 321 o) (I 320 o) (entC I R e) = retB I J R cs o e := by
  have key : takS s (I 321 o) (I 320 o) (entC I R e) = true ↔ retB I J R cs o e = true := by
    unfold takS retB
    rw [h.2.2, List.any_map, List.any_eq_true]
    constructor
    · rintro ⟨g, hg, hz⟩
      have hz : (selS s.1 (I 321 o) (I 320 o) (I 320 g, I 321 g) && decide (I 320 g = nuF I R e)) = true := hz
      rw [Bool.and_eq_true, decide_eq_true_iff] at hz
      rw [(CsR.num h.1 hmd he hg).mp hz.2.symm]
      show selC I J R cs o g = true
      rw [← h.sel hmd ho hg]
      exact hz.1
    · intro hz
      cases hr : R 6 e with
      | none => rw [hr] at hz; cases hz
      | some g =>
        rw [hr] at hz
        have hg := h.1.1.2.2.2.2.2.2.2.1 e he g hr
        refine ⟨g, hg, ?_⟩
        show (selS s.1 (I 321 o) (I 320 o) (I 320 g, I 321 g) && decide (I 320 g = nuF I R e)) = true
        rw [h.sel hmd ho hg, Bool.and_eq_true, decide_eq_true_iff]
        exact ⟨hz, ((CsR.num h.1 hmd he hg).mpr hr).symm⟩
  cases hx : takS s (I 321 o) (I 320 o) (entC I R e) with
  | true => exact (key.mp hx).symm
  | false =>
    cases hy : retB I J R cs o e with
    | false => rfl
    | true => rw [key.mpr hy] at hx; cases hx
end CSR
