section MISC
variable {X : CX} {M : MD} {d pc : Nat} {L : List (Option LV)} {S : List LV} {G : GH} {Q : Option LV → GH → Prop}
theorem ev_objInit {idx i : Nat} (hd : decode M.2.1 pc = .ok (.invokespecial idx, 3)) (hl : Cond.methodLink M.1.cls idx objectInit ∈ lw_g) (h1 : Cond.instanceMethod objectInit ∈ lw_g) (h2 : Cond.code objectInit ⟨#[0xb1]⟩ 1 none ∈ lw_g) (hW : catS X S ≤ 8) (k : Ev X M (d + 1) (pc + 3) L S G Q) : Ev X M (d + 1) pc L (rV (some i) :: S) G Q := by
  refine Ev.ps ?_ k
  intro p e R s m args below meth c C H locs cells slots ls Z hS hl' kk
  obtain ⟨hx, hb, hr, hml, hown, hts, hlk, hin, hK, hfr, hlo⟩ := C
  refine W.objInit hx hb hown (hts _ hl) (hts _ h1) (hts _ h2) rfl (by rw [hml]; exact hl'.1) rfl hd (by omega) ?_ (kk ls hl')
  have := lv_room' (m := m) (pc := pc) (ls := ls) (st := []) hW
  have e0 : (F0 m pc ls ((rV (some i) :: S).map (cx_v X))).monitorRoom = (F0 m pc ls []).monitorRoom := rfl
  rw [e0]
  omega
theorem ev_castN {idx : Nat} (hd : decode M.2.1 pc = .ok (.checkcast idx, 3)) (k : Ev X M d (pc + 3) L (rV none :: S) G Q) : Ev X M d pc L (rV none :: S) G Q :=
  k.ps (fun _ _ _ _ _ _ _ _ _ C _ _ _ _ ls _ hS hl kk => lv_castN C.1 C.2.1 hd (kk ls hl))
theorem ev_cast {idx i q : Nat} (hd : decode M.2.1 pc = .ok (.checkcast idx, 3)) (hl : Cond.classLink M.1.cls idx (gRn q) ∈ lw_g) (hq : q < 11) (hk : G.1 i = q) (k : Ev X M d (pc + 3) L (rV (some i) :: S) G Q) : Ev X M d pc L (rV (some i) :: S) G Q := by
  refine Ev.rd ?_ k
  intro p e R s m args below meth c C H locs cells slots ls Z hR hS hl' kk
  obtain ⟨hx, hb, hr, hml, hown, hts, hlk, hin, hK, -⟩ := C
  have hP := hR.P (i := i) (by rw [hk]; omega)
  rw [cellE_obj hk hq] at hP
  exact va_castS hx hb hown (hts _ hl) (hK.1.1 q _ (gcl_at q hq)).2 (va_recv hK.1 hP (gcl_at q hq) (q0 := 0) rfl) hd kk
theorem ev_getE {idx : Nat} (hd : decode M.2.1 pc = .ok (.getstatic idx, 3)) (hl : Cond.fieldLink M.1.cls idx alE.1 alE.2.1 alE.2.2 ∈ lw_g) (k : Ev X M d (pc + 3) L (rV (some 0) :: S) G Q) : Ev X M d pc L S G Q :=
  k.ps (fun _ _ _ _ _ _ _ _ _ C _ _ _ _ ls _ hS hl' kk => va_gets C.1 C.2.1 C.2.2.2.2.2.2.2.2.1.2.2.2.2.1.1 hS C.2.2.2.2.1 (C.2.2.2.2.2.1 _ hl) (fun _ h => h) hd (kk ls hl'))
theorem ev_alenE (hd : decode M.2.1 pc = .ok (.arraylength, 1)) (k : Ev X M d (pc + 1) L (iV (nI 0) :: S) G Q) : Ev X M d pc L (rV (some 0) :: S) G Q :=
  k.ps (fun _ _ _ _ _ _ _ _ _ C _ _ _ _ ls _ hS hl' kk => va_tlen C.1 C.2.1 C.2.2.2.2.2.2.2.2.1.2.2.2.2.1.2.1 hS rfl hd (kk ls hl'))
theorem ev_slen (hd : decode M.2.1 pc = .ok (.arraylength, 1)) (k : Ev X M d (pc + 1) L (iV (nI X.2.2.2.2.1) :: S) G Q) : Ev X M d pc L (rV (some 2) :: S) G Q :=
  k.ps (fun _ _ _ _ _ _ _ _ _ C _ _ _ _ ls _ hS hl' kk => by
    obtain ⟨-, -, -, -, e5, e6⟩ := C.2.2.2.2.2.2.2.2.1.2.2.2.2.1
    exact va_slen C.1 C.2.1 e5 (Nat.lt_of_lt_of_le e6 C.2.2.2.2.2.2.2.2.1.2.2.2.2.2) (Nat.not_le.mpr e6) hS hd (kk ls hl'))
theorem ev_sld {j : Nat} (hd : decode M.2.1 pc = .ok (.iaload, 1)) (hj : j < X.2.2.2.2.1) (hb : X.2.2.2.2.1 < 2147483648) (k : Ev X M d (pc + 1) L (iV (X.2.2.2.2.2 j) :: S) G Q) : Ev X M d pc L (iV (nI j) :: rV (some 2) :: S) G Q :=
  k.ps (fun _ _ _ _ _ _ _ _ _ C _ _ _ _ ls _ hS hl' kk => by
    obtain ⟨-, -, -, -, e5, e6⟩ := C.2.2.2.2.2.2.2.2.1.2.2.2.2.1
    refine va_sld C.1 C.2.1 e5 (Nat.lt_of_lt_of_le e6 C.2.2.2.2.2.2.2.2.1.2.2.2.2.2) (Nat.not_le.mpr e6) hS (vp_in_nI hj hb) hd ?_
    rw [nI_clamp (by omega)]
    exact kk ls hl')
end MISC
