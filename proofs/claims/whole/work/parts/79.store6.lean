theorem hd_app {l : List Nat} {e : Nat} (h : l ≠ []) : l.head? = (l ++ [e]).head? := by
  cases l with
  | nil => exact absurd rfl h
  | cons a b => rfl
def plJ (J : Nat → Nat → Int64) : Nat → Nat → Int32 := fun a b => if J 3 a = J 3 b then 0 else 1
def lvR (R : Nat → Nat → Option Nat) : Nat → Int32 := fun e => if R 5 e = none then 0 else 1
/-- the heap in the midst of a merge: kp entries kept, nf the new files, i entries gone over -/
def MvH (cs fs0 : List Nat) (s : Nat) (h : Int32) (two : Bool) (md : Nat) (K0 : Nat → Nat) (I0 : Nat → Nat → Int32) (R0 B0 : Nat → Nat → Option Nat) (Ln0 : Nat → Nat) (n0 sl0 a0 m0 : Nat) (kp nf : List Nat) (i : Nat) (K : Nat → Nat) (I : Nat → Nat → Int32) (R B : Nat → Nat → Option Nat) (Ln : Nat → Nat) (n sl a m : Nat) : Prop :=
  (CFix K R Ln ∧ I 385 7 = nI cs.length ∧ 34 ≤ n0 ∧ s < n0 ∧ (∀ e ∈ cs, K e = 0 ∧ I 4 e = I0 4 e ∧ R 5 e = R0 5 e ∧ e < n0) ∧ (K s = 4 ∧ I 256 s = h ∧ I 257 s = bZ two) ∧ (∀ e ∈ cs, ∀ g, R0 6 e = some g → K g = 5 ∧ g < n0 ∧ I 325 g = I0 325 g) ∧ ∀ i, n ≤ i → ∀ f, I f i = 0) ∧
  AlR K I R B Ln n a m (fs0 ++ nf) ∧ I 388 7 = nI (md + nf.length) ∧ (∀ j e, kp[j]? = some e → B 8 j = some e) ∧ (∀ j e, cs[j]? = some e → i ≤ j → B 8 j = some e) ∧ (∀ g ∈ nf, n0 ≤ g ∧ g < n ∧ K g = 5) ∧ (∀ g ∈ fs0, g < n0) ∧ StF K0 I0 R0 B0 Ln0 n0 K I R B Ln n ∧ (n + m0 ≤ n0 + nf.length + m ∧ sl + 800 * m0 ≤ sl0 + 6 * nf.length + 800 * m ∧ m0 ≤ m) ∧ I 386 7 = I0 386 7
theorem AlR.fr {K : Nat → Nat} {I I' : Nat → Nat → Int32} {R R' B B' : Nat → Nat → Option Nat} {Ln : Nat → Nat} {n a m : Nat} {fs : List Nat} (h : AlR K I R B Ln n a m fs) (h1 : I' 642 9 = I 642 9) (h2 : R' 641 9 = R 641 9) (h3 : ∀ i, i ≠ 8 → B' i = B i) : AlR K I' R' B' Ln n a m fs := by
  obtain ⟨q1, q2, q3, q4, q5, q6⟩ := h
  have ha : a ≠ 8 := by rcases q3 with ⟨z, -⟩ | ⟨z, -⟩ <;> omega
  exact ⟨h1.trans q1, h2.trans q2, q3, q4, q5, fun j f hj => by rw [h3 a ha]; exact q6 j f hj⟩
section MVH
variable {cs fs0 : List Nat} {s : Nat} {h : Int32} {two : Bool} {md : Nat} {K0 K K' : Nat → Nat} {I0 I I' : Nat → Nat → Int32} {R0 R R' B0 B B' : Nat → Nat → Option Nat} {Ln0 Ln Ln' : Nat → Nat} {n0 sl0 a0 m0 n sl a m n' sl' a' m' : Nat} {kp nf : List Nat} {i e f : Nat}
theorem MvH.sieve (q : MvH cs fs0 s h two md K0 I0 R0 B0 Ln0 n0 sl0 a0 m0 kp nf i K I R B Ln n sl a m) {v : Int32} {x : Option Nat} : MvH cs fs0 s h two md K0 I0 R0 B0 Ln0 n0 sl0 a0 m0 kp nf i K (u2 I 259 s v) (u2 R 258 s x) B Ln n sl a m := by
  obtain ⟨⟨s1, s2, s3, s4, s5, ⟨s6, s7, s8⟩, s9, s10⟩, q2, q3, q4, q5, q6, q7, q8, q9⟩ := q
  have hn := q8.1
  refine ⟨⟨s1.lo (fun f i hf _ => u2_ne1 (by omega)), by rw [u2_ne1 (by decide)]; exact s2, s3, s4, fun e he => ?_, ⟨s6, by rw [u2_ne1 (by decide)]; exact s7, by rw [u2_ne1 (by decide)]; exact s8⟩, fun e he g hg => ?_, fun i hi f => ?_⟩, q2.fr (u2_ne1 (by decide)) (u2_ne1 (by decide)) (fun _ _ => rfl), by rw [u2_ne1 (by decide)]; exact q3, q4, q5, q6, q7, q8.trans (StF.sieve s6 (by omega)), q9.1, by rw [u2_ne1 (by decide)]; exact q9.2⟩
  · rw [u2_ne1 (by decide), u2_ne1 (by decide)]; exact s5 e he
  · rw [u2_ne1 (by decide)]; exact s9 e he g hg
  · rw [u2_ne2 (by omega)]; exact s10 i hi f
theorem MvH.append (q : MvH cs fs0 s h two md K0 I0 R0 B0 Ln0 n0 sl0 a0 m0 kp nf i K I R B Ln n sl a m) (he : e ∈ cs) (hf : f ∈ nf) {v : Int32} {x y : Option Nat} : MvH cs fs0 s h two md K0 I0 R0 B0 Ln0 n0 sl0 a0 m0 kp nf i K (u2 I 324 f v) (u2 (u2 R 6 e x) 323 f y) B Ln n sl a m := by
  obtain ⟨⟨s1, s2, s3, s4, s5, ⟨s6, s7, s8⟩, s9, s10⟩, q2, q3, q4, q5, q6, q7, q8, q9⟩ := q
  have hn := q8.1
  obtain ⟨f1, f2, f3⟩ := q6 f hf
  obtain ⟨e1, -, -, e4⟩ := s5 e he
  refine ⟨⟨s1.lo (fun f i hf _ => by rw [u2_ne1 (by omega), u2_ne1 (by omega)]), by rw [u2_ne1 (by decide)]; exact s2, s3, s4, fun e he => ?_, ⟨s6, by rw [u2_ne1 (by decide)]; exact s7, by rw [u2_ne1 (by decide)]; exact s8⟩, fun e he g hg => ?_, fun i hi f => ?_⟩, q2.fr (u2_ne1 (by decide)) (by rw [u2_ne1 (by decide), u2_ne1 (by decide)]) (fun _ _ => rfl), by rw [u2_ne1 (by decide)]; exact q3, q4, q5, q6, q7, q8.trans (StF.append f3 e1 f2 (by omega)), q9.1, by rw [u2_ne1 (by decide)]; exact q9.2⟩
  · rw [u2_ne1 (by decide), u2_ne1 (by decide), u2_ne1 (by decide)]; exact s5 e he
  · rw [u2_ne1 (by decide)]; exact s9 e he g hg
  · rw [u2_ne2 (by omega)]; exact s10 i hi f
theorem MvH.store (q : MvH cs fs0 s h two md K0 I0 R0 B0 Ln0 n0 sl0 a0 m0 kp nf i K I R B Ln n sl a m) (hk : kp.length ≤ i) : MvH cs fs0 s h two md K0 I0 R0 B0 Ln0 n0 sl0 a0 m0 (kp ++ [e]) nf (i + 1) K I R (u2 B 8 kp.length (some e)) Ln n sl a m := by
  obtain ⟨⟨s1, s2, s3, s4, s5, ⟨s6, s7, s8⟩, s9, s10⟩, q2, q3, q4, q5, q6, q7, q8, q9⟩ := q
  have hn := q8.1
  refine ⟨⟨s1, s2, s3, s4, s5, ⟨s6, s7, s8⟩, s9, s10⟩, q2.fr rfl rfl (fun i hi => u2_row' hi), q3, fun j x hj => ?_, fun j x hj hij => ?_, q6, q7, q8.trans (StF.store (by omega)), q9⟩
  · by_cases hjl : j = kp.length
    · subst hjl
      rw [List.getElem?_append_right (Nat.le_refl _), Nat.sub_self] at hj
      cases hj
      exact u2_self
    · have hj2 : kp[j]? = some x := by
        obtain ⟨hz, -⟩ := List.getElem?_eq_some_iff.mp hj
        rw [List.length_append] at hz
        rwa [List.getElem?_append_left (by simp at hz; omega)] at hj
      rw [u2_ne2 hjl]; exact q4 j x hj2
  · rw [u2_ne2 (by omega)]; exact q5 j x hj (by omega)
theorem MvH.pass (q : MvH cs fs0 s h two md K0 I0 R0 B0 Ln0 n0 sl0 a0 m0 kp nf i K I R B Ln n sl a m) : MvH cs fs0 s h two md K0 I0 R0 B0 Ln0 n0 sl0 a0 m0 kp nf (i + 1) K I R B Ln n sl a m := by
  obtain ⟨q1, q2, q3, q4, q5, q6⟩ := q
  exact ⟨q1, q2, q3, q4, fun j x hj hij => q5 j x hj (by omega), q6⟩
theorem MvH.file (q : MvH cs fs0 s h two md K0 I0 R0 B0 Ln0 n0 sl0 a0 m0 kp nf i K I R B Ln n sl a m) {lv : Int32} (hA : AlR K' I' R' B' Ln' n' a' m' (fs0 ++ nf ++ [n])) (hN : NfF K I R B Ln n sl a m (nI (md + nf.length + 1)) lv e K' I' R' B' Ln' n' sl' a' m') : MvH cs fs0 s h two md K0 I0 R0 B0 Ln0 n0 sl0 a0 m0 kp (nf ++ [n]) i K' I' R' B' Ln' n' sl' a' m' := by
  obtain ⟨⟨s1, s2, s3, s4, s5, ⟨s6, s7, s8⟩, s9, s10⟩, q2, q3, q4, q5, q6, q7, q8, q9⟩ := q
  have hn := q8.1
  have hsf := StF.file hN hA (by omega)
  have h8' : m' ≤ 800 := hA.2.2.2.2.1
  obtain ⟨r1, ⟨t1, t2, t3, t4, t5, t6, t7, t8⟩, r3, r4, r5, r6, r7⟩ := hN
  have ha8 : a' ≠ 8 := by rcases hA.2.2.1 with ⟨z, -⟩ | ⟨z, -⟩ <;> omega
  refine ⟨⟨s1.of (fun i hi => (r3 i (by omega)).1) (fun i hi => (r3 i (by omega)).2) (fun f hf => r6 f 3 (by omega)) (r6 _ _ (by omega)) (r6 _ _ (by omega)), by rw [r5 _ _ (by omega)]; exact s2, s3, s4, fun e he => ?_, ⟨by rw [(r3 s (by omega)).1]; exact s6, by rw [r5 _ _ (by omega)]; exact s7, by rw [r5 _ _ (by omega)]; exact s8⟩, fun e he g hg => ?_, fun i hi f => ?_⟩, by rw [← List.append_assoc]; exact hA, by rw [t8, List.length_append]; rfl, fun j x hj => ?_, fun j x hj hij => ?_, fun g hg => ?_, q7, q8.trans hsf, ?_, by rw [r5 _ _ (by omega)]; exact q9.2⟩
  · obtain ⟨e1, e2, e3, e4⟩ := s5 e he
    rw [(r3 e (by omega)).1, r5 _ _ (by omega), r6 _ _ (by omega)]
    exact ⟨e1, e2, e3, e4⟩
  · obtain ⟨g1, g2, g3⟩ := s9 e he g hg
    rw [(r3 g (by omega)).1, r5 _ _ (by omega)]
    exact ⟨g1, g2, g3⟩
  · have : n ≤ i := by omega
    rw [r5 _ _ (by omega)]; exact s10 i this f
  · rw [r7 8 (Ne.symm ha8)]; exact q4 j x hj
  · rw [r7 8 (Ne.symm ha8)]; exact q5 j x hj hij
  · rcases List.mem_append.mp hg with hg | hg
    · obtain ⟨g1, g2, g3⟩ := q6 g hg
      exact ⟨g1, by omega, by rw [(r3 g (by omega)).1]; exact g3⟩
    · rw [List.mem_singleton.mp hg]
      exact ⟨by omega, by omega, t1⟩
  · rw [List.length_append]
    simp only [List.length_singleton]
    have := q9.1
    omega
end MVH
section MGF
variable {pl : Nat → Nat → Int32} {sp lv : Nat → Int32} {h : Int32} {two : Bool} {md e : Nat} {r : List Nat} {pv fm : Option Nat} {ps : Bool} {ins c : Nat}
def mgC (pl : Nat → Nat → Int32) (e : Nat) (pv : Option Nat) (ps : Bool) : Bool := pv.any (fun a => decide (pl a e = 0)) && ps
theorem mgF_drop (hd : (mgC pl e pv ps || (decide (sp e ≤ h) && decide (lv e = 0) && two)) = true) : (mgF pl sp lv h two md (e :: r) pv ps fm ins c).1 = (e, -1) :: (mgF pl sp lv h two md r (some e) (mgC pl e pv ps || decide (sp e ≤ h)) fm ins c).1 ∧ (mgF pl sp lv h two md (e :: r) pv ps fm ins c).2.1 = (mgF pl sp lv h two md r (some e) (mgC pl e pv ps || decide (sp e ≤ h)) fm ins c).2.1 := by
  unfold mgC at hd ⊢
  rw [mgF, if_pos hd]
  exact ⟨rfl, rfl⟩
theorem mgF_new (hd : (mgC pl e pv ps || (decide (sp e ≤ h) && decide (lv e = 0) && two)) = false) (hf : fm.all (fun a => decide (12 ≤ ins) && decide (¬ pl a e = 0)) = true) : (mgF pl sp lv h two md (e :: r) pv ps fm ins c).1 = (e, nI (md + (c + 1))) :: (mgF pl sp lv h two md r (some e) (mgC pl e pv ps || decide (sp e ≤ h)) (some e) 1 (c + 1)).1 ∧ (mgF pl sp lv h two md (e :: r) pv ps fm ins c).2.1 = (mgF pl sp lv h two md r (some e) (mgC pl e pv ps || decide (sp e ≤ h)) (some e) 1 (c + 1)).2.1 := by
  unfold mgC at hd ⊢
  rw [mgF, if_neg (by rw [hd]; decide), if_pos hf]
  exact ⟨rfl, rfl⟩
theorem mgF_old (hd : (mgC pl e pv ps || (decide (sp e ≤ h) && decide (lv e = 0) && two)) = false) (hf : fm.all (fun a => decide (12 ≤ ins) && decide (¬ pl a e = 0)) = false) : (mgF pl sp lv h two md (e :: r) pv ps fm ins c).1 = (e, nI (md + c)) :: (mgF pl sp lv h two md r (some e) (mgC pl e pv ps || decide (sp e ≤ h)) (some e) (ins + 1) c).1 ∧ (mgF pl sp lv h two md (e :: r) pv ps fm ins c).2.1 = (mgF pl sp lv h two md r (some e) (mgC pl e pv ps || decide (sp e ≤ h)) (some e) (ins + 1) c).2.1 := by
  unfold mgC at hd ⊢
  rw [mgF, if_neg (by rw [hd]; decide), if_neg (by rw [hf]; decide)]
  exact ⟨rfl, rfl⟩
theorem covB_eq {J : Nat → Nat → Int64} : covB J pv ps e = mgC (plJ J) e pv ps := by
  cases pv with
  | none => rfl
  | some b =>
    show (decide (J 3 b = J 3 e) && ps) = (decide ((if J 3 b = J 3 e then (0 : Int32) else 1) = 0) && ps)
    by_cases hb : J 3 b = J 3 e
    · rw [if_pos hb, decide_eq_true hb]; rfl
    · rw [if_neg hb, decide_eq_false hb]; rfl
theorem kpB_eq {R : Nat → Nat → Option Nat} {c : Bool} {t : Int32} : kpB c t h two (R 5 e) = !(c || (decide (t ≤ h) && decide (lvR R e = 0) && two)) := by
  unfold kpB lvR
  cases hr : R 5 e with
  | none => rw [if_pos rfl]; cases c <;> cases two <;> cases decide (t ≤ h) <;> rfl
  | some y => rw [if_neg (by intro z; cases z)]; cases c <;> cases two <;> cases decide (t ≤ h) <;> rfl
end MGF
/-- the sieve and the file that is written, against the merge's own state -/
def MvD (cs : List Nat) (s : Nat) (pv : Option Nat) (ps : Bool) (into fm : Option Nat) (ins : Nat) (nf : List Nat) (I : Nat → Nat → Int32) (R : Nat → Nat → Option Nat) : Prop := R 258 s = pv ∧ I 259 s = bZ ps ∧ (∀ b, pv = some b → b ∈ cs) ∧ ((into = none ∧ fm = none ∧ nf = []) ∨ ∃ f l nf1, into = some f ∧ nf = nf1 ++ [f] ∧ fm = some l ∧ l ∈ cs ∧ R 323 f = some l ∧ I 324 f = nI ins)
section C79
variable {X : CX} {d : Nat} {K : Nat → Nat} {I : Nat → Nat → Int32} {J : Nat → Nat → Int64} {R : Nat → Nat → Option Nat} {A : Nat → Nat → Int32} {B : Nat → Nat → Option Nat} {Ln : Nat → Nat} {n sl : Nat}
set_option maxRecDepth 100000 in
set_option maxHeartbeats 4000000 in
theorem lp_mv {Q : Option LV → GH → Prop} {cs fs0 : List Nat} {s : Nat} {h lv : Int32} {two : Bool} {md : Nat} {K0 : Nat → Nat} {I0 : Nat → Nat → Int32} {R0 B0 : Nat → Nat → Option Nat} {Ln0 : Nat → Nat} {n0 sl0 a0 m0 : Nat} {ret : Nat → Bool} {num0 : Nat → Int32} {asT : List (Nat × Int32)} {cT : Nat} (h5 : cs.length ≤ 500) (hnd : cs.Nodup) (hret : ∀ e ∈ cs, (R0 6 e = none ∧ ret e = false) ∨ ∃ g, R0 6 e = some g ∧ I0 325 g = bZ (ret e)) (hmd : md + 520 < 2147483648)
    (hq : ∀ (K : Nat → Nat) (I : Nat → Nat → Int32) (R B : Nat → Nat → Option Nat) (Ln : Nat → Nat) (n sl a m : Nat) (kp nf : List Nat), MvH cs fs0 s h two md K0 I0 R0 B0 Ln0 n0 sl0 a0 m0 kp nf cs.length K I R B Ln n sl a m → MvL ret R0 num0 fs0 md lv cs [] kp nf asT (fun _ => True) I R → nf.length = cT → kp.length ≤ cs.length → Q (some (iV (nI (cs.length - kp.length)))) (K, u2 I 385 7 (nI kp.length), J, R, A, B, Ln, n, sl)) :
    ∀ (rest pre kp nf : List Nat) (ap : List (Nat × Int32)) (pv into fm : Option Nat) (ps : Bool) (ins : Nat) (K : Nat → Nat) (I : Nat → Nat → Int32) (R B : Nat → Nat → Option Nat) (Ln : Nat → Nat) (n sl a m : Nat) (w7 : Option LV), cs = pre ++ rest → kp.length ≤ pre.length → ins ≤ pre.length → (fs0 ++ nf).length + (rest.filter ret).length < 520 → MvH cs fs0 s h two md K0 I0 R0 B0 Ln0 n0 sl0 a0 m0 kp nf pre.length K I R B Ln n sl a m → MvL ret R0 num0 fs0 md lv pre rest kp nf ap (fun _ => True) I R → MvD cs s pv ps into fm ins nf I R → asT = ap ++ (mgF (plJ J) (I0 4) (lvR R0) h two md (rest.filter ret) pv ps fm ins nf.length).1 → cT = (mgF (plJ J) (I0 4) (lvR R0) h two md (rest.filter ret) pv ps fm ins nf.length).2.1 → Ev X mX6_moveRetired (d + 9) 28 [some (rV (some 7)), some (iV lv), some (iV h), some (rV (some s)), some (rV into), some (iV (nI (kp.length))), some (iV (nI (pre.length))), w7] [] (K, I, J, R, A, B, Ln, n, sl) Q := by
  intro rest
  induction rest with
  | nil =>
    intro pre kp nf ap pv into fm ps ins K I R B Ln n sl a m w7 hcs hkl hil hcap hH hL hD hT1 hT2
    rw [List.append_nil] at hcs
    subst hcs
    rw [List.filter_nil, mgF, List.append_nil] at hT1
    rw [List.filter_nil, mgF] at hT2
    subst hT1
    have hq := hq K I R B Ln n sl a m kp nf hH hL hT2.symm hkl
    obtain ⟨q1, -⟩ := hH
    refine ev_iload dX6_moveRetired_28 rfl ?_
    refine ev_aload_n dX6_moveRetired_30 rfl ?_
    refine ev_getIv dX6_moveRetired_31 fX6_24 q1.1.K_st q1.2.1 ?_
    refine ev_icmp_geN 120 dX6_moveRetired_34 (by decide) (by omega) (by omega) (fun c34 => ?_) (fun c34 => absurd c34 (by omega))
    refine ev_aload_n dX6_moveRetired_120 rfl ?_
    refine ev_getIv dX6_moveRetired_121 fX6_24 q1.1.K_st q1.2.1 ?_
    refine ev_iload dX6_moveRetired_124 rfl ?_
    refine ev_isubN dX6_moveRetired_126 (by omega) ?_
    refine ev_istoreS dX6_moveRetired_127 (by decide) rfl ?_
    refine ev_aload_n dX6_moveRetired_129 rfl ?_
    refine ev_iload dX6_moveRetired_130 rfl ?_
    refine ev_putI dX6_moveRetired_132 fX6_24 (Or.inl rfl) (Or.inl rfl) q1.1.K_st ?_
    refine ev_iload dX6_moveRetired_135 rfl ?_
    refine ev_ireturn dX6_moveRetired_137 rfl ?_
    exact hq
  | cons e rest ih =>
    intro pre kp nf ap pv into fm ps ins K I R B Ln n sl a m w7 hcs hkl hil hcap hH hL hD hT1 hT2
    have hlt : pre.length < cs.length := by rw [hcs]; simp
    have hat : cs[pre.length]? = some e := by rw [hcs]; exact mid_at
    have hec : e ∈ cs := by rw [hcs]; simp
    have hnd' : (pre ++ e :: rest).Nodup := hcs ▸ hnd
    have hcs' : cs = (pre ++ [e]) ++ rest := by rw [hcs]; simp
    have hH0 := hH
    obtain ⟨q1, q2, q3, q4, q5, q6, q7, q8, q9⟩ := hH
    have hB := q5 _ _ hat (Nat.le_refl _)
    have hKe := (q1.2.2.2.2.1 e hec).1
    have hlen : (pre ++ [e]).length = pre.length + 1 := by simp
    cases hr : ret e with
    | false =>
      have hgo := fun w7 => ih (pre ++ [e]) (kp ++ [e]) nf ap pv into fm ps ins K I R (u2 B 8 kp.length (some e)) Ln n sl a m w7 hcs' (by rw [List.length_append, hlen]; simp; omega) (by omega) (by rw [List.filter_cons_of_neg (by rw [hr]; decide)] at hcap; exact hcap) (by rw [hlen]; exact hH0.store hkl) (hL.skip hnd' hr) hD (by rw [List.filter_cons_of_neg (by rw [hr]; decide)] at hT1; exact hT1) (by rw [List.filter_cons_of_neg (by rw [hr]; decide)] at hT2; exact hT2)
      rw [hlen, show (kp ++ [e]).length = kp.length + 1 by simp] at hgo
      have hsr : EvM X mX0_isInRetiredFile (d + 8) [rV (some e)] (K, I, J, R, A, B, Ln, n, sl) (fun r G' => r = some (iV 0) ∧ G' = (K, I, J, R, A, B, Ln, n, sl)) := by
        have hR6 := hL.1 e List.mem_cons_self
        rcases hret e hec with ⟨z1, z2⟩ | ⟨g, z1, z2⟩
        · exact cs_isInRetired0 hKe (hR6.trans z1)
        · obtain ⟨g1, g2, g3⟩ := q1.2.2.2.2.2.2.1 e hec g z1
          have := cs_isInRetired1 (X := X) (d := d + 8) (J := J) (A := A) (B := B) (Ln := Ln) (n := n) (sl := sl) hKe (hR6.trans z1) g1 (g3.trans z2)
          rw [hr] at this
          exact this
      refine ev_iload dX6_moveRetired_28 rfl ?_
      refine ev_aload_n dX6_moveRetired_30 rfl ?_
      refine ev_getIv dX6_moveRetired_31 fX6_24 q1.1.K_st q1.2.1 ?_
      refine ev_icmp_geN 120 dX6_moveRetired_34 (by decide) (by omega) (by omega) (fun c34 => absurd c34 (by omega)) (fun c34 => ?_)
      refine ev_aload_n dX6_moveRetired_37 rfl ?_
      refine ev_getR dX6_moveRetired_38 fX6_11 q1.1.K_st q1.1.R_es ?_
      refine ev_iload dX6_moveRetired_41 rfl ?_
      refine ev_aald (q := 5) dX6_moveRetired_43 q1.1.K_es (by decide) (by decide) q1.1.L_es (by decide) (by omega) hB ?_
      refine ev_astoreS dX6_moveRetired_44 (by decide) rfl ?_
      refine ev_aload dX6_moveRetired_46 rfl ?_
      refine ev_callV dX6_moveRetired_48 okX0_isInRetiredFile inX0_isInRetiredFile seX0_isInRetiredFile mlX6_134 hKe (by decide) rfl [] rfl rfl (Nat.le_of_ble_eq_true rfl) (Nat.le_of_ble_eq_true rfl) (hsr) (fun r_ G_ h_ => ?_)
      obtain ⟨rfl, rfl⟩ := h_
      try dsimp only [Option.toList, List.cons_append, List.nil_append]
      refine ev_if_eq 102 dX6_moveRetired_51 (by decide) (fun c51 => ?_) (fun c51 => absurd c51 (fun z => z rfl))
      refine ev_aload_n dX6_moveRetired_102 rfl ?_
      refine ev_getR dX6_moveRetired_103 fX6_11 q1.1.K_st q1.1.R_es ?_
      refine ev_iload dX6_moveRetired_106 rfl ?_
      refine ev_aload dX6_moveRetired_108 rfl ?_
      refine ev_aast (q := 5) dX6_moveRetired_110 q1.1.K_es (by decide) (by decide) q1.1.L_es (by decide) (by omega) hKe (by decide) (Or.inl rfl) ?_
      refine ev_iincNS (b := 1) dX6_moveRetired_111 rfl (by decide) (by decide) rfl ?_
      refine ev_iincNS (b := 1) dX6_moveRetired_114 rfl (by decide) (by decide) rfl ?_
      refine ev_goto 28 dX6_moveRetired_117 (by decide) ?_
      exact hgo _
    | true =>
      obtain ⟨g, z3, z4⟩ : ∃ g, R0 6 e = some g ∧ I0 325 g = bZ true := by
        rcases hret e hec with ⟨z1, z2⟩ | ⟨g, z1, z2⟩
        · rw [hr] at z2; cases z2
        · exact ⟨g, z1, by rw [← hr]; exact z2⟩
      have hR6 := hL.1 e List.mem_cons_self
      obtain ⟨g1, g2, g3⟩ := q1.2.2.2.2.2.2.1 e hec g z3
      have hsr := cs_isInRetired1 (X := X) (d := d + 8) (J := J) (A := A) (B := B) (Ln := Ln) (n := n) (sl := sl) hKe (hR6.trans z3) g1 (g3.trans z4)
      obtain ⟨hD1, hD2, hD3, hD4⟩ := hD
      obtain ⟨hKs, hs1, hs2⟩ := q1.2.2.2.2.2.1
      have hbk : ∀ b, pv = some b → K b = 0 := fun b hb => (q1.2.2.2.2.1 b (hD3 b hb)).1
      have sk := cs_keeps (X := X) (d := d + 8) (J := J) (A := A) (B := B) (Ln := Ln) (n := n) (sl := sl) (bf := pv) hKs hKe hD1 hbk hD2 hs2
      rw [hs1, (q1.2.2.2.2.1 e hec).2.1, (q1.2.2.2.2.1 e hec).2.2.1, kpB_eq, covB_eq] at sk
      rw [List.filter_cons_of_pos hr] at hT1 hT2 hcap
      have hcap' : (fs0 ++ nf).length + (rest.filter ret).length + 1 < 520 := by rw [List.length_cons] at hcap; omega
      cases hdr : (mgC (plJ J) e pv ps || (decide (I0 4 e ≤ h) && decide (lvR R0 e = 0) && two)) with
      | true =>
        rw [hdr] at sk
        obtain ⟨m1, m2⟩ := mgF_drop (md := md) (r := rest.filter ret) (fm := fm) (ins := ins) (c := nf.length) hdr
        rw [m1] at hT1
        rw [m2] at hT2
        have hgo := fun w7 => ih (pre ++ [e]) kp nf (ap ++ [(e, -1)]) (some e) into fm (mgC (plJ J) e pv ps || decide (I0 4 e ≤ h)) ins K (u2 I 259 s (bZ (mgC (plJ J) e pv ps || decide (I0 4 e ≤ h)))) (u2 R 258 s (some e)) B Ln n sl a m w7 hcs' (by omega) (by omega) (by omega) (by rw [hlen]; exact hH0.sieve.pass) ((hL.drop hnd' hr).congr (fun f i hf => u2_ne1 (by omega)) (fun f i hf => u2_ne1 (by omega))) ⟨u2_self, u2_self, fun b hb => by cases hb; exact hec, by
          rcases hD4 with hD4 | ⟨f, l, nf1, w1, w2, w3, w4, w5, w6⟩
          · exact Or.inl hD4
          · exact Or.inr ⟨f, l, nf1, w1, w2, w3, w4, by rw [u2_ne1 (by decide)]; exact w5, by rw [u2_ne1 (by decide)]; exact w6⟩⟩ (by rw [hT1]; simp) hT2
        rw [hlen] at hgo
        refine ev_iload dX6_moveRetired_28 rfl ?_
        refine ev_aload_n dX6_moveRetired_30 rfl ?_
        refine ev_getIv dX6_moveRetired_31 fX6_24 q1.1.K_st q1.2.1 ?_
        refine ev_icmp_geN 120 dX6_moveRetired_34 (by decide) (by omega) (by omega) (fun c34 => absurd c34 (by omega)) (fun c34 => ?_)
        refine ev_aload_n dX6_moveRetired_37 rfl ?_
        refine ev_getR dX6_moveRetired_38 fX6_11 q1.1.K_st q1.1.R_es ?_
        refine ev_iload dX6_moveRetired_41 rfl ?_
        refine ev_aald (q := 5) dX6_moveRetired_43 q1.1.K_es (by decide) (by decide) q1.1.L_es (by decide) (by omega) hB ?_
        refine ev_astoreS dX6_moveRetired_44 (by decide) rfl ?_
        refine ev_aload dX6_moveRetired_46 rfl ?_
        refine ev_callV dX6_moveRetired_48 okX0_isInRetiredFile inX0_isInRetiredFile seX0_isInRetiredFile mlX6_134 hKe (by decide) rfl [] rfl rfl (Nat.le_of_ble_eq_true rfl) (Nat.le_of_ble_eq_true rfl) (hsr) (fun r_ G_ h_ => ?_)
        obtain ⟨rfl, rfl⟩ := h_
        try dsimp only [Option.toList, List.cons_append, List.nil_append]
        refine ev_if_eq 102 dX6_moveRetired_51 (by decide) (fun c51 => absurd c51 (by decide)) (fun c51 => ?_)
        refine ev_aload_n dX6_moveRetired_54 rfl ?_
        refine ev_aload dX6_moveRetired_55 rfl ?_
        refine ev_callV dX6_moveRetired_57 okX4_keeps inX4_keeps seX4_keeps mlX6_138 hKs (by decide) rfl [rV _] rfl rfl (Nat.le_of_ble_eq_true rfl) (Nat.le_of_ble_eq_true rfl) (sk) (fun r_ G_ h_ => ?_)
        obtain ⟨rfl, rfl⟩ := h_
        try dsimp only [Option.toList, List.cons_append, List.nil_append]
        refine ev_if_ne 66 dX6_moveRetired_60 (by decide) (fun c60 => absurd c60 (fun z => z rfl)) (fun c60 => ?_)
        refine ev_goto 114 dX6_moveRetired_63 (by decide) ?_
        refine ev_iincNS (b := 1) dX6_moveRetired_114 rfl (by decide) (by decide) rfl ?_
        refine ev_goto 28 dX6_moveRetired_117 (by decide) ?_
        exact hgo _
      | false =>
        rw [hdr] at sk
        have hH1 := hH0.sieve (v := bZ (mgC (plJ J) e pv ps || decide (I0 4 e ≤ h))) (x := some e)
        have hL1 := hL.congr (I' := u2 I 259 s (bZ (mgC (plJ J) e pv ps || decide (I0 4 e ≤ h)))) (R' := u2 R 258 s (some e)) (fun f i hf => u2_ne1 (by omega)) (fun f i hf => u2_ne1 (by omega))
        have k95 : ∀ (K : Nat → Nat) (I : Nat → Nat → Int32) (R B : Nat → Nat → Option Nat) (Ln : Nat → Nat) (n sl a m : Nat) (f : Nat) (nf : List Nat) (ins : Nat), ins ≤ pre.length + 1 → (fs0 ++ nf).length + (rest.filter ret).length < 520 → MvH cs fs0 s h two md K0 I0 R0 B0 Ln0 n0 sl0 a0 m0 kp nf pre.length K I R B Ln n sl a m → f ∈ nf → (∃ nf1, nf = nf1 ++ [f]) → MvL ret R0 num0 fs0 md lv pre (e :: rest) kp nf ap (fun g => g ≠ f) I R → I 320 f = nI (md + nf.length) → I 324 f = nI (segL R (kp ++ e :: rest) f).length → I 324 f + 1 = nI ins → R 322 f = (segL R (kp ++ e :: rest) f ++ [e]).head? → R 258 s = some e → I 259 s = bZ (mgC (plJ J) e pv ps || decide (I0 4 e ≤ h)) → asT = ap ++ (e, nI (md + nf.length)) :: (mgF (plJ J) (I0 4) (lvR R0) h two md (rest.filter ret) (some e) (mgC (plJ J) e pv ps || decide (I0 4 e ≤ h)) (some e) ins nf.length).1 → cT = (mgF (plJ J) (I0 4) (lvR R0) h two md (rest.filter ret) (some e) (mgC (plJ J) e pv ps || decide (I0 4 e ≤ h)) (some e) ins nf.length).2.1 → Ev X mX6_moveRetired (d + 9) 95 [some (rV (some 7)), some (iV lv), some (iV h), some (rV (some s)), some (rV (some f)), some (iV (nI (kp.length))), some (iV (nI (pre.length))), some (rV (some e))] [] (K, I, J, R, A, B, Ln, n, sl) Q := by
          intro K I R B Ln n sl a m f nf ins hins hcap hH hfn hlast hL h320 h324 hinc h322 h258 h259 hT1 hT2
          have hH0 := hH
          obtain ⟨q1, q2, q3, q4, q5, q6, q7, q8, q9⟩ := hH
          have hKe := (q1.2.2.2.2.1 e hec).1
          obtain ⟨f1, f2, hKf⟩ := q6 f hfn
          have hff : f ∉ fs0 := fun z => by have := q7 f z; omega
          have hfs : f ≠ s := by have := q1.2.2.2.1; omega
          have hnl : nf.length < 520 := by rw [List.length_append] at hcap; omega
          have hgo := fun w7 => ih (pre ++ [e]) (kp ++ [e]) nf (ap ++ [(e, nI (md + nf.length))]) (some e) (some f) (some e) (mgC (plJ J) e pv ps || decide (I0 4 e ≤ h)) ins K (u2 I 324 f (I 324 f + 1)) (u2 (u2 R 6 e (some f)) 323 f (some e)) (u2 B 8 kp.length (some e)) Ln n sl a m w7 hcs' (by rw [List.length_append, hlen]; simp; omega) (by omega) hcap (by rw [hlen]; exact (hH0.append hec hfn).store hkl) (hL.app hnd' hr hfn hff h320 (nI_nneg (by omega)) h324 h322) ⟨by rw [u2_ne1 (by decide), u2_ne1 (by decide)]; exact h258, by rw [u2_ne1 (by decide)]; exact h259, fun b hb => by cases hb; exact hec, Or.inr ⟨f, e, hlast.choose, rfl, hlast.choose_spec, rfl, hec, u2_self, by rw [u2_self]; exact hinc⟩⟩ (by rw [hT1]; simp) hT2
          rw [hlen, show (kp ++ [e]).length = kp.length + 1 by simp] at hgo
          have c1 := q1.1.lo (R' := u2 (u2 R 6 e (some f)) 323 f (some e)) (fun g i hg _ => by rw [u2_ne1 (by omega), u2_ne1 (by omega)])
          refine ev_aload dX6_moveRetired_95 rfl ?_
          refine ev_aload dX6_moveRetired_97 rfl ?_
          refine ev_callV dX6_moveRetired_99 okX5_append inX5_append seX5_append mlX6_75 hKf (by decide) rfl [rV _] rfl rfl (Nat.le_of_ble_eq_true rfl) (Nat.le_of_ble_eq_true rfl) (cs_append hKf hKe) (fun r_ G_ h_ => ?_)
          obtain ⟨rfl, rfl⟩ := h_
          try dsimp only [Option.toList, List.cons_append, List.nil_append]
          refine ev_aload_n dX6_moveRetired_102 rfl ?_
          refine ev_getR dX6_moveRetired_103 fX6_11 c1.K_st c1.R_es ?_
          refine ev_iload dX6_moveRetired_106 rfl ?_
          refine ev_aload dX6_moveRetired_108 rfl ?_
          refine ev_aast (q := 5) dX6_moveRetired_110 c1.K_es (by decide) (by decide) c1.L_es (by decide) (by omega) hKe (by decide) (Or.inl rfl) ?_
          refine ev_iincNS (b := 1) dX6_moveRetired_111 rfl (by decide) (by decide) rfl ?_
          refine ev_iincNS (b := 1) dX6_moveRetired_114 rfl (by decide) (by decide) rfl ?_
          refine ev_goto 28 dX6_moveRetired_117 (by decide) ?_
          exact hgo _
        have knew : fm.all (fun a => decide (12 ≤ ins) && decide (¬ plJ J a e = 0)) = true → Ev X mX6_moveRetired (d + 9) 81 [some (rV (some 7)), some (iV lv), some (iV h), some (rV (some s)), some (rV into), some (iV (nI (kp.length))), some (iV (nI (pre.length))), some (rV (some e))] [] (K, u2 I 259 s (bZ (mgC (plJ J) e pv ps || decide (I0 4 e ≤ h))), J, u2 R 258 s (some e), A, B, Ln, n, sl) Q := by
          intro hfm
          obtain ⟨m1, m2⟩ := mgF_new (md := md) (r := rest.filter ret) (fm := fm) (ins := ins) (c := nf.length) hdr hfm
          rw [m1] at hT1
          rw [m2] at hT2
          have hH0 := hH1
          obtain ⟨q1, q2, q3, q4, q5, q6, q7, q8, q9⟩ := hH1
          have hn := q8.1
          have h34 := q1.2.2.1
          have hsn := q1.2.2.2.1
          have hel : ∀ g ∈ fs0 ++ nf, g < n := fun g hg => by
            rcases List.mem_append.mp hg with hg | hg
            · have := q7 g hg; omega
            · exact (q6 g hg).2.1
          have sn := cs_newFile (X := X) (d := d + 1) (J := J) (A := A) (sl := sl) (lv := lv) (e := e) q1.1 q2 (by omega) (by omega) hel q3 (q1.2.2.2.2.2.2.2 n (Nat.le_refl _))
          refine ev_aload_n dX6_moveRetired_81 rfl ?_
          refine ev_iload_n dX6_moveRetired_82 rfl ?_
          refine ev_aload dX6_moveRetired_83 rfl ?_
          refine ev_callV dX6_moveRetired_85 okX6_newFile inX6_newFile seX6_newFile mlX6_71 q1.1.K_st (by decide) rfl [iV _, rV _] rfl rfl (Nat.le_of_ble_eq_true rfl) (Nat.le_of_ble_eq_true rfl) (sn) (fun r_ G_ h_ => ?_)
          obtain ⟨rfl, K', I', R', B', Ln', n', sl', a', m', qA, qN, rfl⟩ := h_
          try dsimp only [Option.toList, List.cons_append, List.nil_append]
          refine ev_goto 93 dX6_moveRetired_88 (by decide) ?_
          refine ev_astoreS dX6_moveRetired_93 (by decide) rfl ?_
          have hnf : n ∉ fs0 ++ nf := fun z => by have := hel n z; omega
          have hcn : ∀ x ∈ cs, x < n := fun x hx => by have := (q1.2.2.2.2.1 x hx).2.2.2; omega
          have hkr : ∀ x ∈ kp ++ e :: rest, x < n := fun x hx => by
            rcases List.mem_append.mp hx with hx | hx
            · exact hcn x (by rw [hcs]; exact List.mem_append_left _ (kp_pre hL1.2.2.2.1 hx))
            · exact hcn x (by rw [hcs]; exact List.mem_append_right _ hx)
          have hrf : ∀ x ∈ e :: rest, R0 6 x ≠ some n := fun x hx z => by
            have := (q1.2.2.2.2.2.2.1 x (by rw [hcs]; exact List.mem_append_right _ hx) n z).2.1
            omega
          have qN0 := qN
          obtain ⟨r1, ⟨t1, t2, t3, t4, t5, t6, t7, t8⟩, r3, r4, r5, r6, r7⟩ := qN
          have hsg : segL R' (kp ++ e :: rest) n = [] := by
            unfold segL
            refine List.filter_eq_nil_iff.mpr (fun x hx z => ?_)
            have z := of_decide_eq_true z
            have hxn := hkr x hx
            rw [r6 _ _ (by omega)] at z
            rcases List.mem_append.mp hx with hx | hx
            · exact hnf ((hL1.2.2.2.2.1 x hx).2.1 n z)
            · rw [hL1.1 x hx] at z; exact hrf x hx z
          have hLf := hL1.file (I' := I') (R' := R') (f := n) (fun g i hi hg => r5 g i (by omega)) (fun g i hi hg => r6 g i (by omega)) (fun x hx => by have := hkr x hx; omega) hnf hrf (by rw [t2]; rfl) t3 t5
          refine k95 K' I' R' B' Ln' n' sl' a' m' n (nf ++ [n]) 1 (by omega) (by rw [← List.append_assoc, List.length_append]; simp only [List.length_singleton]; omega) (hH0.file qA qN0) (by simp) ⟨nf, rfl⟩ hLf (by rw [t2, List.length_append]; rfl) (by rw [t4, hsg]; rfl) (by rw [t4]; rfl) (by rw [hsg]; exact t6) (by rw [r6 _ _ (by omega)]; exact u2_self) (by rw [r5 _ _ (by omega)]; exact u2_self) ?_ ?_
          · rw [hT1, List.length_append]; rfl
          · rw [hT2, List.length_append]; rfl
        obtain ⟨q1', -⟩ := hH1
        rcases hD4 with ⟨w1, w2, w3⟩ | ⟨f, l, nf1, w1, w2, w3, w4, w5, w6⟩
        · have knew := knew (by rw [w2]; rfl)
          subst w1
          refine ev_iload dX6_moveRetired_28 rfl ?_
          refine ev_aload_n dX6_moveRetired_30 rfl ?_
          refine ev_getIv dX6_moveRetired_31 fX6_24 q1.1.K_st q1.2.1 ?_
          refine ev_icmp_geN 120 dX6_moveRetired_34 (by decide) (by omega) (by omega) (fun c34 => absurd c34 (by omega)) (fun c34 => ?_)
          refine ev_aload_n dX6_moveRetired_37 rfl ?_
          refine ev_getR dX6_moveRetired_38 fX6_11 q1.1.K_st q1.1.R_es ?_
          refine ev_iload dX6_moveRetired_41 rfl ?_
          refine ev_aald (q := 5) dX6_moveRetired_43 q1.1.K_es (by decide) (by decide) q1.1.L_es (by decide) (by omega) hB ?_
          refine ev_astoreS dX6_moveRetired_44 (by decide) rfl ?_
          refine ev_aload dX6_moveRetired_46 rfl ?_
          refine ev_callV dX6_moveRetired_48 okX0_isInRetiredFile inX0_isInRetiredFile seX0_isInRetiredFile mlX6_134 hKe (by decide) rfl [] rfl rfl (Nat.le_of_ble_eq_true rfl) (Nat.le_of_ble_eq_true rfl) (hsr) (fun r_ G_ h_ => ?_)
          obtain ⟨rfl, rfl⟩ := h_
          try dsimp only [Option.toList, List.cons_append, List.nil_append]
          refine ev_if_eq 102 dX6_moveRetired_51 (by decide) (fun c51 => absurd c51 (by decide)) (fun c51 => ?_)
          refine ev_aload_n dX6_moveRetired_54 rfl ?_
          refine ev_aload dX6_moveRetired_55 rfl ?_
          refine ev_callV dX6_moveRetired_57 okX4_keeps inX4_keeps seX4_keeps mlX6_138 hKs (by decide) rfl [rV _] rfl rfl (Nat.le_of_ble_eq_true rfl) (Nat.le_of_ble_eq_true rfl) (sk) (fun r_ G_ h_ => ?_)
          obtain ⟨rfl, rfl⟩ := h_
          try dsimp only [Option.toList, List.cons_append, List.nil_append]
          refine ev_if_ne 66 dX6_moveRetired_60 (by decide) (fun c60 => ?_) (fun c60 => absurd c60 (by decide))
          refine ev_aload dX6_moveRetired_66 rfl ?_
          refine ev_ifnull 81 dX6_moveRetired_68 (by decide) (fun c68 => ?_) (fun x c68 => by cases c68)
          exact knew
        · subst w1
          have hfn : f ∈ nf := by rw [w2]; simp
          obtain ⟨f1, f2, hKf⟩ := q6 f hfn
          have hKl := (q1.2.2.2.2.1 l w4).1
          have w5' : u2 R 258 s (some e) 323 f = some l := by rw [u2_ne1 (by decide)]; exact w5
          have w6' : u2 I 259 s (bZ (mgC (plJ J) e pv ps || decide (I0 4 e ≤ h))) 324 f = nI ins := by rw [u2_ne1 (by decide)]; exact w6
          have sf := cs_isFull (X := X) (d := d + 8) (J := J) (A := A) (B := B) (Ln := Ln) (n := n) (sl := sl) hKf hKe w5' hKl w6' (by omega)
          have hfa : fm.all (fun a => decide (12 ≤ ins) && decide (¬ plJ J a e = 0)) = decide (12 ≤ ins ∧ ¬ J 3 l = J 3 e) := by
            rw [w3]
            show (decide (12 ≤ ins) && decide (¬ (if J 3 l = J 3 e then (0 : Int32) else 1) = 0)) = _
            by_cases hb : J 3 l = J 3 e
            · rw [if_pos hb, show decide (¬ (0 : Int32) = 0) = false from rfl, Bool.and_false, decide_eq_false (fun z => z.2 hb)]
            · rw [if_neg hb, show decide (¬ (1 : Int32) = 0) = true from rfl, Bool.and_true, decide_eq_decide]
              exact ⟨fun z => ⟨z, hb⟩, fun z => z.1⟩
          cases hfu : decide (12 ≤ ins ∧ ¬ J 3 l = J 3 e) with
          | true =>
            rw [hfu] at sf hfa
            have knew := knew hfa
            refine ev_iload dX6_moveRetired_28 rfl ?_
            refine ev_aload_n dX6_moveRetired_30 rfl ?_
            refine ev_getIv dX6_moveRetired_31 fX6_24 q1.1.K_st q1.2.1 ?_
            refine ev_icmp_geN 120 dX6_moveRetired_34 (by decide) (by omega) (by omega) (fun c34 => absurd c34 (by omega)) (fun c34 => ?_)
            refine ev_aload_n dX6_moveRetired_37 rfl ?_
            refine ev_getR dX6_moveRetired_38 fX6_11 q1.1.K_st q1.1.R_es ?_
            refine ev_iload dX6_moveRetired_41 rfl ?_
            refine ev_aald (q := 5) dX6_moveRetired_43 q1.1.K_es (by decide) (by decide) q1.1.L_es (by decide) (by omega) hB ?_
            refine ev_astoreS dX6_moveRetired_44 (by decide) rfl ?_
            refine ev_aload dX6_moveRetired_46 rfl ?_
            refine ev_callV dX6_moveRetired_48 okX0_isInRetiredFile inX0_isInRetiredFile seX0_isInRetiredFile mlX6_134 hKe (by decide) rfl [] rfl rfl (Nat.le_of_ble_eq_true rfl) (Nat.le_of_ble_eq_true rfl) (hsr) (fun r_ G_ h_ => ?_)
            obtain ⟨rfl, rfl⟩ := h_
            try dsimp only [Option.toList, List.cons_append, List.nil_append]
            refine ev_if_eq 102 dX6_moveRetired_51 (by decide) (fun c51 => absurd c51 (by decide)) (fun c51 => ?_)
            refine ev_aload_n dX6_moveRetired_54 rfl ?_
            refine ev_aload dX6_moveRetired_55 rfl ?_
            refine ev_callV dX6_moveRetired_57 okX4_keeps inX4_keeps seX4_keeps mlX6_138 hKs (by decide) rfl [rV _] rfl rfl (Nat.le_of_ble_eq_true rfl) (Nat.le_of_ble_eq_true rfl) (sk) (fun r_ G_ h_ => ?_)
            obtain ⟨rfl, rfl⟩ := h_
            try dsimp only [Option.toList, List.cons_append, List.nil_append]
            refine ev_if_ne 66 dX6_moveRetired_60 (by decide) (fun c60 => ?_) (fun c60 => absurd c60 (by decide))
            refine ev_aload dX6_moveRetired_66 rfl ?_
            refine ev_ifnull 81 dX6_moveRetired_68 (by decide) (fun c68 => by cases c68) (fun x c68 => ?_)
            refine ev_aload dX6_moveRetired_71 rfl ?_
            refine ev_aload dX6_moveRetired_73 rfl ?_
            refine ev_callV dX6_moveRetired_75 okX5_isFullBefore inX5_isFullBefore seX5_isFullBefore mlX6_142 hKf (by decide) rfl [rV _] rfl rfl (Nat.le_of_ble_eq_true rfl) (Nat.le_of_ble_eq_true rfl) (sf) (fun r_ G_ h_ => ?_)
            obtain ⟨rfl, rfl⟩ := h_
            try dsimp only [Option.toList, List.cons_append, List.nil_append]
            refine ev_if_eq 91 dX6_moveRetired_78 (by decide) (fun c78 => absurd c78 (by decide)) (fun c78 => ?_)
            exact knew
          | false =>
            rw [hfu] at sf hfa
            obtain ⟨m1, m2⟩ := mgF_old (md := md) (r := rest.filter ret) (fm := fm) (ins := ins) (c := nf.length) hdr hfa
            rw [m1] at hT1
            rw [m2] at hT2
            have hseg := hL1.2.2.2.2.2.1 f (List.mem_append_right _ hfn) trivial
            have h7 := hL1.2.2.2.2.2.2.1 nf1.length f (by rw [w2]; simp)
            have k := k95 K (u2 I 259 s (bZ (mgC (plJ J) e pv ps || decide (I0 4 e ≤ h)))) (u2 R 258 s (some e)) B Ln n sl a m f nf (ins + 1) (by omega) (by omega) hH0.sieve hfn ⟨nf1, w2⟩ (hL1.weak (fun _ _ => trivial)) (by rw [h7.1, w2, List.length_append, List.length_singleton]; congr 1; omega) hseg.2.1 (by rw [w6', show (1 : Int32) = nI 1 from rfl, nI_add]) (by rw [hseg.2.2.1]; exact hd_app hseg.1) u2_self u2_self hT1 hT2
            refine ev_iload dX6_moveRetired_28 rfl ?_
            refine ev_aload_n dX6_moveRetired_30 rfl ?_
            refine ev_getIv dX6_moveRetired_31 fX6_24 q1.1.K_st q1.2.1 ?_
            refine ev_icmp_geN 120 dX6_moveRetired_34 (by decide) (by omega) (by omega) (fun c34 => absurd c34 (by omega)) (fun c34 => ?_)
            refine ev_aload_n dX6_moveRetired_37 rfl ?_
            refine ev_getR dX6_moveRetired_38 fX6_11 q1.1.K_st q1.1.R_es ?_
            refine ev_iload dX6_moveRetired_41 rfl ?_
            refine ev_aald (q := 5) dX6_moveRetired_43 q1.1.K_es (by decide) (by decide) q1.1.L_es (by decide) (by omega) hB ?_
            refine ev_astoreS dX6_moveRetired_44 (by decide) rfl ?_
            refine ev_aload dX6_moveRetired_46 rfl ?_
            refine ev_callV dX6_moveRetired_48 okX0_isInRetiredFile inX0_isInRetiredFile seX0_isInRetiredFile mlX6_134 hKe (by decide) rfl [] rfl rfl (Nat.le_of_ble_eq_true rfl) (Nat.le_of_ble_eq_true rfl) (hsr) (fun r_ G_ h_ => ?_)
            obtain ⟨rfl, rfl⟩ := h_
            try dsimp only [Option.toList, List.cons_append, List.nil_append]
            refine ev_if_eq 102 dX6_moveRetired_51 (by decide) (fun c51 => absurd c51 (by decide)) (fun c51 => ?_)
            refine ev_aload_n dX6_moveRetired_54 rfl ?_
            refine ev_aload dX6_moveRetired_55 rfl ?_
            refine ev_callV dX6_moveRetired_57 okX4_keeps inX4_keeps seX4_keeps mlX6_138 hKs (by decide) rfl [rV _] rfl rfl (Nat.le_of_ble_eq_true rfl) (Nat.le_of_ble_eq_true rfl) (sk) (fun r_ G_ h_ => ?_)
            obtain ⟨rfl, rfl⟩ := h_
            try dsimp only [Option.toList, List.cons_append, List.nil_append]
            refine ev_if_ne 66 dX6_moveRetired_60 (by decide) (fun c60 => ?_) (fun c60 => absurd c60 (by decide))
            refine ev_aload dX6_moveRetired_66 rfl ?_
            refine ev_ifnull 81 dX6_moveRetired_68 (by decide) (fun c68 => by cases c68) (fun x c68 => ?_)
            refine ev_aload dX6_moveRetired_71 rfl ?_
            refine ev_aload dX6_moveRetired_73 rfl ?_
            refine ev_callV dX6_moveRetired_75 okX5_isFullBefore inX5_isFullBefore seX5_isFullBefore mlX6_142 hKf (by decide) rfl [rV _] rfl rfl (Nat.le_of_ble_eq_true rfl) (Nat.le_of_ble_eq_true rfl) (sf) (fun r_ G_ h_ => ?_)
            obtain ⟨rfl, rfl⟩ := h_
            try dsimp only [Option.toList, List.cons_append, List.nil_append]
            refine ev_if_eq 91 dX6_moveRetired_78 (by decide) (fun c78 => ?_) (fun c78 => absurd c78 (fun z => z rfl))
            refine ev_aload dX6_moveRetired_91 rfl ?_
            refine ev_astoreS dX6_moveRetired_93 (by decide) rfl ?_
            exact k
end C79
