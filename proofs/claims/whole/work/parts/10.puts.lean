def PutOk (M : MD) (idx f : Nat) : Prop := (gTn (f / 64) (f % 64)).2.2.2 = false ∨ ((gTn (f / 64) (f % 64)).2.2.2 = true ∧ M.2.2.2.2 = true ∧ (gTn (f / 64) (f % 64)).1 = M.1.cls ∧ FLm M.1.cls idx f)
section PUTS
variable {X : CX} {M : MD} {d pc : Nat} {L : List (Option LV)} {S : List LV} {G G1 : GH} {Q : Option LV → GH → Prop}
theorem fvs_len {q i : Nat} : (fvs X G q i).length = gnf q := by unfold fvs; rw [List.length_map, List.length_range]
theorem ev_put {i f idx : Nat} {v : LV} (hd : decode M.2.1 pc = .ok (.putfield idx, 3)) (hf : FLk M.1.cls idx f) (ho : PutOk M idx f) (hk : G.1 i = f / 64) (hnw : narrow (gty (f / 64) (f % 64)) (cx_v X v) = cx_v X v) (hfit : fits (gty (f / 64) (f % 64)) (cx_v X v) = true)
    (hK1 : G1.1 = G.1) (hn1 : gh_n G1 = gh_n G) (hs1 : gh_s G1 = gh_s G) (hc : ∀ j, j ≠ i → SameAt G1 G j) (hf1 : fvs X G1 (f / 64) i = (fvs X G (f / 64) i).set (f % 64) (cx_v X v)) (k : Ev X M d (pc + 3) L S G1 Q) : Ev X M d pc L (v :: rV (some i) :: S) G Q := by
  refine Ev.wr hn1 hs1 ?_ k
  intro p e R s m args below meth c C H locs cells slots ls Z hR hS hl kk
  obtain ⟨hx, hb, hr, hml, hown, hts, hlk, hin, hK, -⟩ := C
  obtain ⟨h1, h2, h3⟩ := hf
  have h9 : G.1 i < 900 := by rw [hk]; omega
  have hP := (hR.2.1 i h9).2.2
  rw [cellE_obj hk h1] at hP
  have hl9 : f % 64 < (fvs X G (f / 64) i).length := by rw [fvs_len]; exact h2
  have hk1 : G1.1 i = f / 64 := by rw [hK1]; exact hk
  have goK : PutK p X.1 e R s m args below meth c H cells slots Z X (cx_ad X i) (f / 64) ((fvs X G (f / 64) i).set (f % 64) (cx_v X v)) (F0 m (pc + 3) ls (S.map (cx_v X))) := by
    intro H1 locs1 a1 a2 a3 a4
    refine kk H1 locs1 (hR.upd hK1 hn1 h9 a2 a3 hc ?_) a4
    rw [cellE_obj hk1 h1, hf1]
    exact a1
  rcases ho with ho | ⟨ho1, ho2, ho3, h3⟩
  · rcases h3 with h3 | ⟨host, h3⟩
    · exact put_link hx hb hts hown hK.1 h1 h2 hP hS (hR.base h9) (hts _ h3) ho hnw hfit hl9 hd goK
    · exact put_nest hx hb hts hown hK.1 h1 h2 hP hS (hR.base h9) (va_Nw.use rfl (hK.2.1 _ h3)) ho hnw hfit hl9 hd goK
  · exact put_final hx hb hts hown hK.1 h1 h2 hP hS (hR.base h9) (hts _ h3) ho1 (hin ho2) ho3 hnw hfit hl9 hd goK
theorem u2_self {α : Type} {g : Nat → Nat → α} {a b : Nat} {v : α} : u2 g a b v a b = v := if_pos ⟨rfl, rfl⟩
theorem u2_ne2 {α : Type} {g : Nat → Nat → α} {a b c e : Nat} {v : α} (h : e ≠ b) : u2 g a b v c e = g c e := if_neg (fun q => h q.2)
theorem u2_ne1 {α : Type} {g : Nat → Nat → α} {a b c e : Nat} {v : α} (h : c ≠ a) : u2 g a b v c e = g c e := if_neg (fun q => h q.1)
theorem fv_congr {t : FieldType} {f i : Nat} (h1 : G1.2.1 f i = G.2.1 f i) (h2 : G1.2.2.1 f i = G.2.2.1 f i) (h3 : G1.2.2.2.1 f i = G.2.2.2.1 f i) : fv X G1 t f i = fv X G t f i := by
  unfold fv
  rw [h1, h2, h3]
theorem fvs_set {q k i : Nat} {v : Value} (hk : k < gnf q) (h1 : fv X G1 (gty q k) (64 * q + k) i = v) (h2 : ∀ a, a ≠ k → fv X G1 (gty q a) (64 * q + a) i = fv X G (gty q a) (64 * q + a) i) : fvs X G1 q i = (fvs X G q i).set k v := by
  apply List.ext_getElem?
  intro a
  by_cases e : a = k
  · subst e
    rw [fvs_at hk, h1, List.getElem?_set_self (by rw [fvs_len]; exact hk)]
  · rw [List.getElem?_set_ne (fun z => e z.symm)]
    by_cases hl : a < gnf q
    · rw [fvs_at hl, fvs_at hl, h2 a e]
    · rw [List.getElem?_eq_none (by rw [fvs_len]; omega), List.getElem?_eq_none (by rw [fvs_len]; omega)]
end PUTS
section PUTT
variable {X : CX} {M : MD} {d pc : Nat} {L : List (Option LV)} {S : List LV} {Q : Option LV → GH → Prop} {K : Nat → Nat} {I : Nat → Nat → Int32} {J : Nat → Nat → Int64} {R : Nat → Nat → Option Nat} {A : Nat → Nat → Int32} {B : Nat → Nat → Option Nat} {Ln : Nat → Nat} {n sl : Nat}
theorem ev_putI {i f idx : Nat} {v : Int32} (hd : decode M.2.1 pc = .ok (.putfield idx, 3)) (hf : FLi M.1.cls idx f) (ho : PutOk M idx f) (hz : gty (f / 64) (f % 64) = .int ∨ v = 0 ∨ v = 1) (hk : K i = f / 64) (k : Ev X M d (pc + 3) L S (K, u2 I f i v, J, R, A, B, Ln, n, sl) Q) : Ev X M d pc L (iV v :: rV (some i) :: S) (K, I, J, R, A, B, Ln, n, sl) Q := by
  have hnf : narrow (gty (f / 64) (f % 64)) (.int v) = .int v ∧ fits (gty (f / 64) (f % 64)) (.int v) = true := by
    rcases hz with h | h | h
    · rw [h]; exact ⟨rfl, rfl⟩
    · subst h; rcases hf.2 with h | h <;> rw [h] <;> exact ⟨rfl, rfl⟩
    · subst h; rcases hf.2 with h | h <;> rw [h] <;> exact ⟨rfl, rfl⟩
  refine ev_put (v := iV v) (G1 := (K, u2 I f i v, J, R, A, B, Ln, n, sl)) hd hf.1 ho hk hnf.1 hnf.2 rfl rfl rfl (fun j hj => ⟨fun g => u2_ne2 hj, fun _ => rfl, fun _ => rfl, rfl, rfl, rfl⟩) (fvs_set hf.1.2.1 ?_ (fun a ha => ?_)) k
  · rw [f_eq]
    have e : u2 I f i v f i = v := u2_self
    rcases hf.2 with h | h <;> rw [h] <;> exact congrArg Value.int e
  · have e : u2 I f i v (64 * (f / 64) + a) i = I (64 * (f / 64) + a) i := u2_ne1 (fun z => ha (by have := f_eq (f := f); omega))
    exact fv_congr e rfl rfl
theorem ev_putJ {i f idx : Nat} {v : Int64} (hd : decode M.2.1 pc = .ok (.putfield idx, 3)) (hf : FLj M.1.cls idx f) (ho : PutOk M idx f) (hk : K i = f / 64) (k : Ev X M d (pc + 3) L S (K, I, u2 J f i v, R, A, B, Ln, n, sl) Q) : Ev X M d pc L (lV v :: rV (some i) :: S) (K, I, J, R, A, B, Ln, n, sl) Q := by
  refine ev_put (v := lV v) (G1 := (K, I, u2 J f i v, R, A, B, Ln, n, sl)) hd hf.1 ho hk (by rw [hf.2]; rfl) (by rw [hf.2]; rfl) rfl rfl rfl (fun j hj => ⟨fun _ => rfl, fun g => u2_ne2 hj, fun _ => rfl, rfl, rfl, rfl⟩) (fvs_set hf.1.2.1 ?_ (fun a ha => ?_)) k
  · rw [f_eq, hf.2]
    exact congrArg Value.long (u2_self (g := J) (a := f) (b := i) (v := v))
  · have e : u2 J f i v (64 * (f / 64) + a) i = J (64 * (f / 64) + a) i := u2_ne1 (fun z => ha (by have := f_eq (f := f); omega))
    exact fv_congr rfl e rfl
theorem ev_putR {i f idx : Nat} {r : Option Nat} (hd : decode M.2.1 pc = .ok (.putfield idx, 3)) (hf : FLr M.1.cls idx f) (ho : PutOk M idx f) (hk : K i = f / 64) (k : Ev X M d (pc + 3) L S (K, I, J, u2 R f i r, A, B, Ln, n, sl) Q) : Ev X M d pc L (rV r :: rV (some i) :: S) (K, I, J, R, A, B, Ln, n, sl) Q := by
  refine ev_put (v := rV r) (G1 := (K, I, J, u2 R f i r, A, B, Ln, n, sl)) hd hf.1 ho hk (by rcases hf.2 with ⟨_, h⟩ | ⟨_, h⟩ <;> rw [h] <;> cases r <;> rfl) (by rcases hf.2 with ⟨_, h⟩ | ⟨_, h⟩ <;> rw [h] <;> cases r <;> rfl) rfl rfl rfl (fun j hj => ⟨fun _ => rfl, fun _ => rfl, fun g => u2_ne2 hj, rfl, rfl, rfl⟩) (fvs_set hf.1.2.1 ?_ (fun a ha => ?_)) k
  · have e : u2 R f i r f i = r := u2_self
    rw [f_eq]
    rcases hf.2 with ⟨_, h⟩ | ⟨_, h⟩ <;> rw [h] <;> exact congrArg (fun z : Option Nat => va_rf (z.map (cx_ad X))) e
  · have e : u2 R f i r (64 * (f / 64) + a) i = R (64 * (f / 64) + a) i := u2_ne1 (fun z => ha (by have := f_eq (f := f); omega))
    exact fv_congr rfl rfl e
end PUTT
