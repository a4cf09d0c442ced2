theorem mc_l : Cond.fieldLink RJx4a65c 63 "java/util/ArrayList" "modCount" "I" ∈ lw_g := lw_g_in (t1_in (List.mem_of_getElem? (i := 57) (by decide +kernel))) rfl
theorem mc_s : Cond.sameField "java/util/ArrayList" "java/util/AbstractList" "modCount" "I" ∈ lw_g := lw_g_in (t1_in (List.mem_of_getElem? (i := 58) (by decide +kernel))) rfl
theorem gc_l : Cond.methodLink RJ7 86 ⟨"java/lang/Object", "getClass", "()Ljava/lang/Class;"⟩ ∈ lw_g := lw_g_in (t3_in (List.mem_of_getElem? (i := 64) (by decide +kernel))) rfl
theorem gc_i : Cond.instanceMethod ⟨"java/lang/Object", "getClass", "()Ljava/lang/Class;"⟩ ∈ lw_g := lw_g_in (t3_in (List.mem_of_getElem? (i := 65) (by decide +kernel))) rfl
theorem gc_n : Cond.native ⟨"java/lang/Object", "getClass", "()Ljava/lang/Class;"⟩ ∈ lw_g := lw_g_in (t3_in (List.mem_of_getElem? (i := 78) (by decide +kernel))) rfl
theorem gc_s : Cond.selects "[Ljava/lang/Object;" ⟨"java/lang/Object", "getClass", "()Ljava/lang/Class;"⟩ ⟨"java/lang/Object", "getClass", "()Ljava/lang/Class;"⟩ ∈ lw_g := lw_g_in (t5_in (List.mem_of_getElem? (i := 108) (by decide +kernel))) rfl
theorem ac_lA : Cond.methodLink RJ7 150 arraycopyName ∈ lw_g := lw_g_in (t3_in (List.mem_of_getElem? (i := 88) (by decide +kernel))) rfl
theorem ac_lL : Cond.methodLink RJx4a65c 112 arraycopyName ∈ lw_g := lw_g_in (t3_in (List.mem_of_getElem? (i := 153) (by decide +kernel))) rfl
theorem ac_s : Cond.static arraycopyName ∈ lw_g := lw_g_in (t3_in (List.mem_of_getElem? (i := 89) (by decide +kernel))) rfl
theorem ac_n : Cond.native arraycopyName ∈ lw_g := lw_g_in (t3_in (List.mem_of_getElem? (i := 90) (by decide +kernel))) rfl
theorem ac_i : Cond.initialized "java/lang/System" ∈ lw_g := lw_g_in (t1_in (List.mem_of_getElem? (i := 16) (by decide +kernel))) rfl
theorem nI_nneg0 {k : Nat} (h1 : k < 2147483648) : ¬ nI k < 0 := by
  rw [Int32.lt_iff_toInt_lt, nI_toInt h1, show (0 : Int32).toInt = 0 by decide]
  omega
section JDKE
variable {X : CX} {M : MD} {d pc : Nat} {L : List (Option LV)} {S : List LV} {Q : Option LV → GH → Prop} {K : Nat → Nat} {I : Nat → Nat → Int32} {J : Nat → Nat → Int64} {R : Nat → Nat → Option Nat} {A : Nat → Nat → Int32} {B : Nat → Nat → Option Nat} {Ln : Nat → Nat} {n sl : Nat}
theorem ev_getM {i idx : Nat} (hd : decode M.2.1 pc = .ok (.getfield idx, 3)) (hl : Cond.fieldLink M.1.cls idx "java/util/ArrayList" "modCount" "I" ∈ lw_g) (hk : K i = 10) (k : Ev X M d (pc + 3) L (iV (I 640 i) :: S) (K, I, J, R, A, B, Ln, n, sl) Q) : Ev X M d pc L (rV (some i) :: S) (K, I, J, R, A, B, Ln, n, sl) Q := by
  refine Ev.rd ?_ k
  intro p e R' s m args below meth c C H locs cells slots ls Z hR hS hl' kk
  obtain ⟨hx, hb, hr, hml, hown, hts, hlk, hin, hK, -⟩ := C
  have hP := hR.P (i := i) (by show K i < 900; rw [hk]; decide)
  rw [cellE_obj (q := 10) hk (by decide)] at hP
  have hv2 : (fvs X (K, I, J, R, A, B, Ln, n, sl) 10 i)[0]? = some (cx_v X (iV (I 640 i))) := by rw [fvs_at (by decide)]; rfl
  exact va_get (ci := 10) (T := gTn 10) hx hb hts (gin _ (by decide)) hown hK.1 hP 0 rfl (gcl_at _ (by decide)) 0 (by decide) (hts _ hl) (u_same (hts _ mc_s)) hv2 hd kk
theorem put_same {p : Program} {l : Launch} {e : Env} {R : Room} {s : State} {m : MethodId} {args : Array Value} {below : List Frame} {meth : Method} {c : Code} {H : Heap} {locs : List Loc} {cells slots : Nat} {Z : State → Prop} {cc : ByteArray} {ls : Array Slot} {rest : List Value} {own : String} {a idx : Nat} {fs : List Value} {v : Value} (hx : p.tables.exec = Jvm.exec) (hb : c.code = cc) (hts : ∀ w ∈ lw_g, w.before args s = true) (hown : s.vm.findClass own = some m.cls) (hK : va_K X.2.1 gcl (cx_ty X) s) (hP : va_at X.2.1 gcl (a, .inr (10, fs)) H) (hS0 : va_S (cx_A X) s.heap H locs) (ha : cx_b X ≤ a)
    (hlink : (Cond.fieldLink own idx "java/util/ArrayList" "modCount" "I").before args s = true) (hn : narrow (gty 10 0) v = v) (hfit : fits (gty 10 0) v = true) (hl : 0 < fs.length) (hdg : decode cc pc = .ok (.putfield idx, 3))
    (kk : PutK p l e R s m args below meth c H cells slots Z X a 10 (fs.set 0 v) (F0 m (pc + 3) ls rest)) : W p l e R s m args below meth c H locs cells slots Z (F0 m pc ls (v :: .ref a :: rest)) := by
  have hq : 10 < 11 := by decide
  have hk : 0 < gnf 10 := by decide
  have hin := gin 10 hq
  have hc := gcl_at 10 hq
  have hap := va_apart (own := own) hts hin (gty 10) (gty_ok 10 hq) (gnm 10 hq) hK hc
  obtain ⟨r, h1, cell, q1, q2, q3, q4⟩ := hP
  have hr : r = (gRn 10, gTn 10, gnf 10) := Option.some.inj (h1.symm.trans hc)
  subst hr
  obtain ⟨hS, hfc, kC, hkC, hkind⟩ := hK.1 10 _ hc
  obtain ⟨cf, kf, fi, f, hi, hsl⟩ := hS 0 hk
  have hlay := hts _ (hin _ (u_in_lay hk))
  unfold u_lay at hlay
  rw [if_neg (by decide)] at hlay
  have hi2 := u_same (hts _ mc_s) _ hi
  refine W.putK hx hb (f := f) ⟨hown, hlink, ⟨_, _, _, hi2⟩, (u_facts hfc hkC (u_lays hts hin hk) hi).1⟩ (by rw [q2]; exact u_store hfc hkC hkind hlay hi (gty_ok 10 hq 0 hk) hn hfit) q1 q3 (by rw [hsl]; exact k2_hasslot (q4 0 hk)) rfl rfl hdg fun H' e1 e2 e3 => ?_
  rw [hsl] at e1 ⊢
  exact kk H' _ ⟨_, hc, t_OB.to (V := updV (vp_V fs) 0 v) ⟨_, e1, q2, q3, t_set q4 hap hk v⟩ (fun j _ => vp_updV_set hl v j)⟩ e2 e3 (hS0.put e2 e3 ha)
theorem ev_putM {i idx : Nat} {v : Int32} (hd : decode M.2.1 pc = .ok (.putfield idx, 3)) (hl : Cond.fieldLink M.1.cls idx "java/util/ArrayList" "modCount" "I" ∈ lw_g) (hk : K i = 10) (k : Ev X M d (pc + 3) L S (K, u2 I 640 i v, J, R, A, B, Ln, n, sl) Q) : Ev X M d pc L (iV v :: rV (some i) :: S) (K, I, J, R, A, B, Ln, n, sl) Q := by
  refine Ev.wr (G := (K, I, J, R, A, B, Ln, n, sl)) (G1 := (K, u2 I 640 i v, J, R, A, B, Ln, n, sl)) rfl rfl ?_ k
  intro p e R' s m args below meth c C H locs cells slots ls Z hR hS hl' kk
  obtain ⟨hx, hb, hr, hml, hown, hts, hlk, hin, hK, -⟩ := C
  have h9 : K i < 900 := by rw [hk]; decide
  have hP := (hR.2.1 i h9).2.2
  rw [cellE_obj (q := 10) hk (by decide)] at hP
  refine put_same (X := X) hx hb hts hown hK.1 hP hS (hR.base h9) (hts _ hl) rfl rfl (by rw [fvs_len]; decide) hd ?_
  intro H1 locs1 a1 a2 a3 a4
  refine kk H1 locs1 (hR.upd rfl rfl h9 a2 a3 (fun j hj => ⟨fun f => u2_ne2 hj, fun _ => rfl, fun _ => rfl, rfl, rfl, rfl⟩) ?_) a4
  rw [cellE_obj (q := 10) hk (by decide)]
  have e1 : fvs X (K, u2 I 640 i v, J, R, A, B, Ln, n, sl) 10 i = (fvs X (K, I, J, R, A, B, Ln, n, sl) 10 i).set 0 (cx_v X (iV v)) := by
    refine fvs_set (by decide) ?_ (fun a ha => ?_)
    · exact congrArg Value.int (show u2 I 640 i v 640 i = v from u2_self)
    · exact fv_congr (show u2 I 640 i v (64 * 10 + a) i = I (64 * 10 + a) i from u2_ne1 (by omega)) rfl rfl
  rw [e1]
  exact a1
/-- i2 with len elements of i from sp put at dp -/
def cpB (B : Nat → Nat → Option Nat) (i i2 sp dp len : Nat) : Nat → Nat → Option Nat := fun a j => if a = i2 ∧ dp ≤ j ∧ j < dp + len then B i (sp + (j - dp)) else B a j
theorem ev_ldcM {G : GH} {idx : Nat} (hd : decode M.2.1 pc = .ok (.ldc idx, 2)) (hl : Cond.classLink M.1.cls idx "[Ljava/lang/Object;" ∈ lw_g) (k : Ev X M d (pc + 2) L (rV (some 1) :: S) G Q) : Ev X M d pc L S G Q :=
  k.ps (fun _ _ _ _ _ _ _ _ _ C _ _ _ _ ls _ hS hl' kk => va_ldcM C.1 C.2.1 C.2.2.2.2.1 (C.2.2.2.2.2.1 _ hl) C.2.2.2.2.2.2.2.2.1.2.2.2.2.1.2.2.1 hd (kk ls hl'))
theorem ev_getC {i idx : Nat} (hd : decode M.2.1 pc = .ok (.invokevirtual idx, 3)) (hl : Cond.methodLink M.1.cls idx ⟨"java/lang/Object", "getClass", "()Ljava/lang/Class;"⟩ ∈ lw_g) (hk : K i = 106) (hW : catS X S ≤ 8) (k : Ev X M (d + 1) (pc + 3) L (rV (some 1) :: S) (K, I, J, R, A, B, Ln, n, sl) Q) : Ev X M (d + 1) pc L (rV (some i) :: S) (K, I, J, R, A, B, Ln, n, sl) Q := by
  refine Ev.rd ?_ k
  intro p e R' s m args below meth c C H locs cells slots ls Z hR hS hl' kk
  obtain ⟨hx, hb, hr, hml, hown, hts, hlk, hin, hK, hfr, hlo⟩ := C
  have h9 : K i < 900 := by rw [hk]; decide
  have hP := (hR.2.1 i h9).2.2
  rw [cellE_ra (q := 6) hk (by decide)] at hP
  have hc := mcat hlo hW
  have hra := (hK.1.2 6 _ (cx_ty_at 6 (by decide) (by decide))).2
  exact va_getC hx hb (by rw [hml]; exact hl'.1.symm) hown (hts _ hl) (va_Dc.use hK.2.2.2.2.1.2.2.2.1) (hts _ gc_s) (hts _ gc_i) (hts _ gc_n) hK.2.2.2.2.1.2.2.1 ⟨_, hP, rfl, va_nmO hra (by decide)⟩ (by omega) (by omega) hd kk
theorem ev_acopy {i i2 idx sp dp len m m2 : Nat} (hd : decode M.2.1 pc = .ok (.invokestatic idx, 3)) (hl : Cond.methodLink M.1.cls idx arraycopyName ∈ lw_g) (hk : K i = 106) (hk2 : K i2 = 106) (hm : Ln i = m) (hm2 : Ln i2 = m2) (hb : m < 2147483648) (hb2 : m2 < 2147483648) (h4 : sp + len ≤ m) (h5 : dp + len ≤ m2) (hel : ∀ j, j < len → ∀ y, B i (sp + j) = some y → K y = 5) (hW : catS X S ≤ 8) (k : Ev X M (d + 1) (pc + 3) L S (K, I, J, R, A, cpB B i i2 sp dp len, Ln, n, sl) Q) : Ev X M (d + 1) pc L (iV (nI len) :: iV (nI dp) :: rV (some i2) :: iV (nI sp) :: rV (some i) :: S) (K, I, J, R, A, B, Ln, n, sl) Q := by
  refine Ev.wr (G := (K, I, J, R, A, B, Ln, n, sl)) (G1 := (K, I, J, R, A, cpB B i i2 sp dp len, Ln, n, sl)) rfl rfl ?_ k
  intro p e R' s m' args below meth c C H locs cells slots ls Z hR hS hl' kk
  obtain ⟨hx, hbc, hr, hml, hown, hts, hlk, hin, hK, hfr, hlo⟩ := C
  have hc := mcat hlo hW
  have h9 : K i < 900 := by rw [hk]; decide
  have h92 : K i2 < 900 := by rw [hk2]; decide
  have hc0 := (hR.2.1 i h9).2.2
  rw [cellE_ra (q := 6) hk (by decide)] at hc0
  have hc1 := (hR.2.1 i2 h92).2.2
  rw [cellE_ra (q := 6) hk2 (by decide)] at hc1
  have ts : (nI sp).toNatClampNeg = sp := nI_clamp (by omega)
  have td : (nI dp).toNatClampNeg = dp := nI_clamp (by omega)
  have tl : (nI len).toNatClampNeg = len := nI_clamp (by omega)
  have is : (nI sp).toInt = (sp : Int) := nI_toInt (by omega)
  have id' : (nI dp).toInt = (dp : Int) := nI_toInt (by omega)
  have il : (nI len).toInt = (len : Int) := nI_toInt (by omega)
  have hty := hK.1.2 6 _ (cx_ty_at (X := X) 6 (by decide) (by decide))
  obtain ⟨-, k0, hk0, cm0, hkk0⟩ := hty.1 (Ln i) (fun j => va_rf ((B i j).map (cx_ad X)))
  obtain ⟨-, k1, hk1, cm1, hkk1⟩ := hty.1 (Ln i2) (fun j => va_rf ((B i2 j).map (cx_ad X)))
  obtain ⟨kA, comp, r1, r2, r3, -⟩ := hty.2
  intro T' hT X'
  have hv5 : ∀ y, K y = 5 → ∃ cellV : Cell, H[cx_ad X y]? = some cellV ∧ cellV.vm.isStatics = false ∧ s.vm.findClass (gRn 5) = some cellV.cls := fun y hy => by
    have hPv := (hR.2.1 y (by show K y < 900; rw [hy]; decide)).2.2
    rw [cellE_obj (q := 5) hy (by decide)] at hPv
    obtain ⟨r', hr', cellV, g1, g2, g3, -⟩ := hPv
    exact ⟨cellV, g1, by rw [g3]; rfl, by rw [g2]; exact (hK.1.1 5 _ (gcl_at 5 (by decide))).2.1⟩
  obtain ⟨vm', X2, step⟩ := X'.arraycopy hx hown (hts _ hl) (hts _ ac_n) (hts _ ac_s) (hts _ ac_i) (src := cx_ad X i) (dst := cx_ad X i2) (cs := vp_cell (X.2.2.1 6) (Ln i, .inr (.inr (.inr (.inr (fun j => (B i j).map (cx_ad X))))))) (cd := vp_cell (X.2.2.1 6) (Ln i2, .inr (.inr (.inr (.inr (fun j => (B i2 j).map (cx_ad X))))))) (srcPos := nI sp) (destPos := nI dp) (n := nI len) (by rw [hT]; exact hc0) (by rw [hT]; exact hc1)
    (fun _ h => by cases h) (fun _ h => by cases h) (fun h => by cases h) (fun h => by cases h) hk0 hk1 hkk0 hkk1 rfl (nI_nneg0 (by omega)) (nI_nneg0 (by omega)) (nI_nneg0 (by omega))
    (by rw [is, il]; show ¬ _ > ((arrV (X.2.2.1 6) (Ln i) (fun j => va_rf ((B i j).map (cx_ad X)))).slots.size : Int); rw [arrV_size]; omega)
    (by rw [id', il]; show ¬ _ > ((arrV (X.2.2.1 6) (Ln i2) (fun j => va_rf ((B i2 j).map (cx_ad X)))).slots.size : Int); rw [arrV_size]; omega)
    (fun vm₁ hal z hz => by
      rw [tl] at hz
      rw [ts]
      have e : (vp_cell (X.2.2.1 6) (Ln i, .inr (.inr (.inr (.inr (fun j => (B i j).map (cx_ad X))))))).slots.getD (sp + z) .null = va_rf ((B i (sp + z)).map (cx_ad X)) := by
        show (arrV (X.2.2.1 6) (Ln i) (fun j => va_rf ((B i j).map (cx_ad X)))).slots.getD _ _ = _
        rw [Array.getD_eq_getD_getElem?, arrV_read _ _ (by omega)]
        rfl
      rw [e]
      cases hy : B i (sp + z) with
      | none => exact ⟨rfl, trivial⟩
      | some y =>
        obtain ⟨cellV, g1, g2, g3⟩ := hv5 y (hel z hz y hy)
        cases hk1.symm.trans r1
        cases hkk1.symm.trans r2
        obtain ⟨kC, hkC, -⟩ := Vm.findClass_spec g3
        obtain ⟨kE, hkE, -⟩ := Vm.findClass_spec r3
        obtain ⟨kC', hkC', -⟩ := hal.2.2 _ _ hkC
        obtain ⟨kE', hkE', -⟩ := hal.2.2 _ _ hkE
        refine ⟨rfl, cellV, (show T'.heap[cx_ad X y]? = some cellV by rw [hT]; exact g1), (fun q h => by rw [h] at g2; cases g2), ⟨kC', hkC'⟩, ?_, ?_⟩
        · exact ⟨kE', hkE'⟩
        · show vm₁.assignable _ _ = true
          rw [hal.assignable]
          exact vb_asgC hK.2.2.2.1 _ _ r3 g3)
    (g := F0 m' pc ls ((iV (nI len) :: iV (nI dp) :: rV (some i2) :: iV (nI sp) :: rV (some i) :: S).map (cx_v X))) rfl (by rw [hml]; exact hl'.1) (rest := S.map (cx_v X)) rfl (by rw [hbc]; exact hd) (by omega) (by show 2 * 0 + _ + _ ≤ _; have hw : nativeFrameWords "java/lang/System" "arraycopy" 5 = 7 := (by decide); omega)
  have e1 : copied (vp_cell (X.2.2.1 6) (Ln i, .inr (.inr (.inr (.inr (fun j => (B i j).map (cx_ad X))))))) (vp_cell (X.2.2.1 6) (Ln i2, .inr (.inr (.inr (.inr (fun j => (B i2 j).map (cx_ad X))))))) (nI sp) (nI dp) (nI len) = vp_cell (X.2.2.1 6) (Ln i2, .inr (.inr (.inr (.inr (fun j => (cpB B i i2 sp dp len i2 j).map (cx_ad X)))))) := by
    rw [vp_cell_q, vp_cell_q, vp_cell_q]
    refine (va_copied (fun z => va_rf z) (X.2.2.1 6) (X.2.2.1 6) (n0 := Ln i) (n1 := Ln i2) (sp := (nI sp).toNatClampNeg) (dp := (nI dp).toNatClampNeg) (n := (nI len).toNatClampNeg) (fun j => (B i j).map (cx_ad X)) (fun j => (B i2 j).map (cx_ad X)) (by rw [ts, tl]; omega)).trans ?_
    rw [ts, td, tl]
    refine congrArg (arrV (X.2.2.1 6) (Ln i2)) (funext fun j => congrArg va_rf ?_)
    unfold va_cpy cpB
    by_cases hj : dp ≤ j ∧ j < dp + len
    · rw [if_pos hj, if_pos ⟨rfl, hj⟩]
    · rw [if_neg hj, if_neg (fun z => hj z.2)]
  rw [e1] at X2 step
  have hl2 : cx_ad X i2 < H.size := (Array.getElem?_eq_some_iff.mp hc1).1
  have hheap : ((T'.setVm vm').setCell (cx_ad X i2) (vp_cell (X.2.2.1 6) (Ln i2, .inr (.inr (.inr (.inr (fun j => (cpB B i i2 sp dp len i2 j).map (cx_ad X)))))))).heap = H.setIfInBounds (cx_ad X i2) (vp_cell (X.2.2.1 6) (Ln i2, .inr (.inr (.inr (.inr (fun j => (cpB B i i2 sp dp len i2 j).map (cx_ad X))))))) := by rw [← hT]; rfl
  have oq : ∀ q : Nat, q ≠ cx_ad X i2 → (H.setIfInBounds (cx_ad X i2) (vp_cell (X.2.2.1 6) (Ln i2, .inr (.inr (.inr (.inr (fun j => (cpB B i i2 sp dp len i2 j).map (cx_ad X))))))))[q]? = H[q]? := fun q hq => by simp [Array.getElem?_setIfInBounds, Ne.symm hq]
  have hz : (H.setIfInBounds (cx_ad X i2) (vp_cell (X.2.2.1 6) (Ln i2, .inr (.inr (.inr (.inr (fun j => (cpB B i i2 sp dp len i2 j).map (cx_ad X)))))))).size = H.size := by simp
  have hbase : cx_b X ≤ cx_ad X i2 := hR.base h92
  obtain ⟨t, a1, b1⟩ := kk _ _ (hR.upd rfl rfl h92 hz oq (fun j' hj' => ⟨fun _ => rfl, fun _ => rfl, fun _ => rfl, rfl, funext (fun z => if_neg (fun q => hj' q.1)), rfl⟩) (by
      rw [cellE_ra (q := 6) hk2 (by decide)]
      show (H.setIfInBounds (cx_ad X i2) _)[cx_ad X i2]? = some _
      simp only [Array.getElem?_setIfInBounds, hl2, if_true])) ⟨by rw [hz]; exact hS.1, fun q g1 g2 => by
      rw [oq q (fun e => g2 (by rw [e]; exact hbase))]
      exact hS.2.1 q g1 g2, fun q hq => by
      rcases List.mem_append.mp hq with h | h
      · exact hS.2.2 q h
      · obtain ⟨z, -, hz⟩ := List.mem_map.mp h
        rw [← hz]
        exact hbase⟩ _ hheap X2
  exact ⟨t, step t a1, b1⟩
end JDKE
