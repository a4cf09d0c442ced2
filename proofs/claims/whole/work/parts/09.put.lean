section PUTW
variable {p : Program} {l : Launch} {e : Env} {R : Room} {s : State} {m : MethodId} {args : Array Value} {below : List Frame} {meth : Method} {c : Code} {H : Heap} {locs : List Loc} {cells slots : Nat} {Z : State → Prop}
variable {cc : ByteArray} {pc : Nat} {ls : Array Slot} {rest : List Value} {X : CX} {own : String} {a q k idx : Nat} {fs : List Value} {ty : FieldType} {v : Value}
theorem gnm : ∀ q, q < 11 → ∀ a, a < gnf q → ∀ b, b < gnf q → a ≠ b → (gTn q a).2.1 ≠ (gTn q b).2.1
  | 0, _ => nmX0 | 1, _ => nmX1 | 2, _ => nmX2 | 3, _ => nmX3 | 4, _ => nmX4 | 5, _ => nmX5 | 6, _ => nmX6 | 7, _ => nmX7 | 8, _ => nmX8 | 9, _ => nmX9 | 10, _ => nmJx4a65c
  | n + 11, h => absurd h (by omega)
theorem gty_ok : ∀ q, q < 11 → ∀ k, k < gnf q → parseFieldDescriptor (gTn q k).2.2.1 = some (gty q k)
  | 0, _ => tyX0_ok | 1, _ => tyX1_ok | 2, _ => tyX2_ok | 3, _ => tyX3_ok | 4, _ => tyX4_ok | 5, _ => tyX5_ok | 6, _ => tyX6_ok | 7, _ => tyX7_ok | 8, _ => tyX8_ok | 9, _ => tyX9_ok | 10, _ => tyJx4a65c_ok
  | n + 11, h => absurd h (by omega)
/-- what a store into a field gives: the cell with the field set, all else as it was -/
abbrev PutK (p : Program) (l : Launch) (e : Env) (R : Room) (s : State) (m : MethodId) (args : Array Value) (below : List Frame) (meth : Method) (c : Code) (H : Heap) (cells slots : Nat) (Z : State → Prop) (X : CX) (a q : Nat) (fs : List Value) (g : JFrame) : Prop :=
  ∀ (H1 : Heap) (locs1 : List Loc), va_at X.2.1 gcl (a, .inr (q, fs)) H1 → H1.size = H.size → (∀ z : Nat, z ≠ a → H1[z]? = H[z]?) → va_S (cx_A X) s.heap H1 locs1 → W p l e R s m args below meth c H1 locs1 cells slots Z g
theorem put_link (hx : p.tables.exec = Jvm.exec) (hb : c.code = cc) (hts : ∀ w ∈ lw_g, w.before args s = true) (hown : s.vm.findClass own = some m.cls) (hK : va_K X.2.1 gcl (cx_ty X) s) (hq : q < 11) (hk : k < gnf q) (hP : va_at X.2.1 gcl (a, .inr (q, fs)) H) (hS0 : va_S (cx_A X) s.heap H locs) (ha : cx_b X ≤ a)
    (hlink : (Cond.fieldLink own idx (gTn q k).1 (gTn q k).2.1 (gTn q k).2.2.1).before args s = true) (hfin : (gTn q k).2.2.2 = false) (hn : narrow (gty q k) v = v) (hfit : fits (gty q k) v = true) (hl : k < fs.length) (hdg : decode cc pc = .ok (.putfield idx, 3))
    (kk : PutK p l e R s m args below meth c H cells slots Z X a q (fs.set k v) (F0 m (pc + 3) ls rest)) : W p l e R s m args below meth c H locs cells slots Z (F0 m pc ls (v :: .ref a :: rest)) := by
  have hin := gin q hq
  have hc := gcl_at q hq
  have hap := va_apart (own := own) hts hin (gty q) (gty_ok q hq) (gnm q hq) hK hc
  obtain ⟨r, h1, cell, q1, q2, q3, q4⟩ := hP
  have hr : r = (gRn q, gTn q, gnf q) := Option.some.inj (h1.symm.trans hc)
  subst hr
  obtain ⟨hS, hfc, kC, hkC, hkind⟩ := hK.1 q _ hc
  obtain ⟨cf, kf, fi, f, hi, hsl⟩ := hS k hk
  have hlay := hts _ (hin _ (u_in_lay hk))
  unfold u_lay at hlay
  rw [if_neg (by rw [hfin]; decide)] at hlay
  refine W.putK hx hb (f := f) ⟨hown, hlink, ⟨_, _, _, hi⟩, (u_facts hfc hkC (u_lays hts hin hk) hi).1⟩ (by rw [q2]; exact u_store hfc hkC hkind hlay hi (gty_ok q hq k hk) hn hfit) q1 q3 (by rw [hsl]; exact k2_hasslot (q4 k hk)) rfl rfl hdg fun H' e1 e2 e3 => ?_
  rw [hsl] at e1 ⊢
  exact kk H' _ ⟨_, hc, t_OB.to (V := updV (vp_V fs) k v) ⟨_, e1, q2, q3, t_set q4 hap hk v⟩ (fun j _ => vp_updV_set hl v j)⟩ e2 e3 (hS0.put e2 e3 ha)
theorem put_nest {host : String} (hx : p.tables.exec = Jvm.exec) (hb : c.code = cc) (hts : ∀ w ∈ lw_g, w.before args s = true) (hown : s.vm.findClass own = some m.cls) (hK : va_K X.2.1 gcl (cx_ty X) s) (hq : q < 11) (hk : k < gnf q) (hP : va_at X.2.1 gcl (a, .inr (q, fs)) H) (hS0 : va_S (cx_A X) s.heap H locs) (ha : cx_b X ≤ a)
    (hlink : (Cond.fieldLinkNest own idx (gTn q k).1 (gTn q k).2.1 (gTn q k).2.2.1 host).before args s = true) (hfin : (gTn q k).2.2.2 = false) (hn : narrow (gty q k) v = v) (hfit : fits (gty q k) v = true) (hl : k < fs.length) (hdg : decode cc pc = .ok (.putfield idx, 3))
    (kk : PutK p l e R s m args below meth c H cells slots Z X a q (fs.set k v) (F0 m (pc + 3) ls rest)) : W p l e R s m args below meth c H locs cells slots Z (F0 m pc ls (v :: .ref a :: rest)) := by
  have hin := gin q hq
  have hc := gcl_at q hq
  have hap := va_apart (own := own) hts hin (gty q) (gty_ok q hq) (gnm q hq) hK hc
  obtain ⟨r, h1, cell, q1, q2, q3, q4⟩ := hP
  have hr : r = (gRn q, gTn q, gnf q) := Option.some.inj (h1.symm.trans hc)
  subst hr
  obtain ⟨hS, hfc, kC, hkC, hkind⟩ := hK.1 q _ hc
  obtain ⟨cf, kf, fi, f, hi, hsl⟩ := hS k hk
  have hlay := hts _ (hin _ (u_in_lay hk))
  unfold u_lay at hlay
  rw [if_neg (by rw [hfin]; decide)] at hlay
  refine va_WputK hx hb (f := f) hown hlink hi (u_facts hfc hkC (u_lays hts hin hk) hi).1 (by rw [q2]; exact u_store hfc hkC hkind hlay hi (gty_ok q hq k hk) hn hfit) q1 q3 (by rw [hsl]; exact k2_hasslot (q4 k hk)) rfl rfl hdg fun H' e1 e2 e3 => ?_
  rw [hsl] at e1 ⊢
  exact kk H' _ ⟨_, hc, t_OB.to (V := updV (vp_V fs) k v) ⟨_, e1, q2, q3, t_set q4 hap hk v⟩ (fun j _ => vp_updV_set hl v j)⟩ e2 e3 (hS0.put e2 e3 ha)
theorem put_final (hx : p.tables.exec = Jvm.exec) (hb : c.code = cc) (hts : ∀ w ∈ lw_g, w.before args s = true) (hown : s.vm.findClass own = some m.cls) (hK : va_K X.2.1 gcl (cx_ty X) s) (hq : q < 11) (hk : k < gnf q) (hP : va_at X.2.1 gcl (a, .inr (q, fs)) H) (hS0 : va_S (cx_A X) s.heap H locs) (ha : cx_b X ≤ a)
    (hlink : (Cond.fieldLink own idx (gTn q k).1 (gTn q k).2.1 (gTn q k).2.2.1).before args s = true) (hfin : (gTn q k).2.2.2 = true) (hin2 : meth.name = "<init>") (hdecl : (gTn q k).1 = own) (hn : narrow (gty q k) v = v) (hfit : fits (gty q k) v = true) (hl : k < fs.length) (hdg : decode cc pc = .ok (.putfield idx, 3))
    (kk : PutK p l e R s m args below meth c H cells slots Z X a q (fs.set k v) (F0 m (pc + 3) ls rest)) : W p l e R s m args below meth c H locs cells slots Z (F0 m pc ls (v :: .ref a :: rest)) := by
  have hin := gin q hq
  have hc := gcl_at q hq
  have hap := va_apart (own := own) hts hin (gty q) (gty_ok q hq) (gnm q hq) hK hc
  obtain ⟨r, h1, cell, q1, q2, q3, q4⟩ := hP
  have hr : r = (gRn q, gTn q, gnf q) := Option.some.inj (h1.symm.trans hc)
  subst hr
  obtain ⟨hS, hfc, kC, hkC, hkind⟩ := hK.1 q _ hc
  obtain ⟨cf, kf, fi, f, hi, hsl⟩ := hS k hk
  have hlay := hts _ (hin _ (u_in_lay hk))
  unfold u_lay at hlay
  rw [if_pos hfin] at hlay
  have hcf : m.cls = cf := by
    obtain ⟨_, _, c', _, _, _, -, -, hf', -, -, -, hown2, -⟩ := Cond.laysFinal_spec hlay
    have e1 : c' = cf := by have := hi.symm.trans hf'; simp at this; exact this.1.symm
    rw [hdecl] at hown2
    rw [← e1]; exact Option.some.inj (hown.symm.trans hown2)
  refine W.putFinK hx hb hown hlink hi (u_facts hfc hkC (u_lays hts hin hk) hi).1 hcf hin2 (by rw [q2]; exact u_fits hfc hkC hkind (Or.inr hlay) hi (gty_ok q hq k hk) hn hfit) q1 q3 (by rw [hsl]; exact k2_hasslot (q4 k hk)) rfl rfl hdg fun H' e1 e2 e3 => ?_
  rw [hsl] at e1 ⊢
  exact kk H' _ ⟨_, hc, t_OB.to (V := updV (vp_V fs) k v) ⟨_, e1, q2, q3, t_set q4 hap hk v⟩ (fun j _ => vp_updV_set hl v j)⟩ e2 e3 (hS0.put e2 e3 ha)
end PUTW
section REL
variable {X : CX} {G G1 : GH} {H H1 : Heap} {i j : Nat}
theorem cx_ad3 (h : 3 ≤ i) : cx_ad X i = cx_b X + (i - 3) := by unfold cx_ad; rw [if_neg (by omega), if_neg (by omega), if_neg (by omega)]
theorem cellE_same (hK1 : G1.1 j = G.1 j) (h : SameAt G1 G j) : cellE X G1 j = cellE X G j := by
  obtain ⟨h1, h2, h3, h4, h5, h6⟩ := h
  have e : ∀ q, fvs X G1 q j = fvs X G q j := fun q => by
    unfold fvs
    refine List.map_congr_left fun k _ => ?_
    unfold fv
    rw [h1, h2, h3]
  unfold cellE
  rw [hK1, e, h4, h5, h6]
theorem Fresh.same (hK1 : G1.1 j = G.1 j) (h : SameAt G1 G j) (hf : Fresh G j) : Fresh G1 j := by
  obtain ⟨h1, h2, h3, h4, h5, h6⟩ := h
  obtain ⟨a1, a2, a3, a4, a5, a6⟩ := hf
  exact ⟨fun f => by rw [h1]; exact a1 f, fun f => by rw [h2]; exact a2 f, fun f => by rw [h3]; exact a3 f, fun k => by rw [h4]; exact a4 k, fun k => by rw [h5]; exact a5 k, by rw [hK1]; exact a6⟩
theorem Rel.upd (hR : Rel X G H) (hK : G1.1 = G.1) (hn : gh_n G1 = gh_n G) (hi : G.1 i < 900) (hz : H1.size = H.size) (ho : ∀ z : Nat, z ≠ cx_ad X i → H1[z]? = H[z]?) (hc : ∀ j, j ≠ i → SameAt G1 G j) (h1 : va_at X.2.1 gcl (cx_ad X i, cellE X G1 i) H1) : Rel X G1 H1 := by
  refine ⟨⟨by rw [hn, hz]; exact hR.1.1, by rw [hn]; exact hR.1.2⟩, fun j hj => ?_, fun j hj => ?_⟩
  · rw [hK] at hj
    obtain ⟨a1, a2, a3⟩ := hR.2.1 j hj
    refine ⟨a1, by rw [hn]; exact a2, ?_⟩
    by_cases e : j = i
    · subst e; exact h1
    · rw [cellE_same (by rw [hK]) (hc j e)]
      refine a3.kept (ho _ ?_)
      have b1 := (hR.2.1 i hi).1
      show cx_ad X j ≠ cx_ad X i
      rw [cx_ad3 a1, cx_ad3 b1]
      omega
  · rw [hn] at hj
    have hlt := (hR.2.1 i hi).2.1
    exact (hR.2.2 j hj).same (by rw [hK]) (hc j (by omega))
theorem Rel.base (hR : Rel X G H) (hi : G.1 i < 900) : cx_b X ≤ cx_ad X i := by
  rw [cx_ad3 (hR.2.1 i hi).1]; omega
end REL
