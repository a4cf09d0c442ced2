section M21
variable {X : CX} {d : Nat} {K : Nat → Nat} {I : Nat → Nat → Int32} {J : Nat → Nat → Int64} {R : Nat → Nat → Option Nat} {A : Nat → Nat → Int32} {B : Nat → Nat → Option Nat} {Ln : Nat → Nat} {n sl : Nat}
/-- what 'merge' leaves -/
def MergeQ (K : Nat → Nat) (I : Nat → Nat → Int32) (J : Nat → Nat → Int64) (R : Nat → Nat → Option Nat) (A : Nat → Nat → Int32) (B : Nat → Nat → Option Nat) (Ln : Nat → Nat) (n sl tn many fn md : Nat) (to : Int32) (lr : List Nat) (r : Option LV) (G' : GH) : Prop := ∃ I1 A1 A2 asg c o, (mgF (plI (A 16) (A 17) (A 18)) (A 19) (A 20) (hzI (A 25) (A 26) (I 594 11) tn) (decide (to = 2)) md lr.reverse none false none 0 0) = (asg, c, o) ∧ MgH I A I1 A1 fn md to asg c ∧ ClI A1 A2 many ∧ r = some (iV (nI o)) ∧ G' = (K, u2 I1 582 11 (nI (keptL A1 many).length), J, R, A2, B, Ln, n, sl)
set_option maxRecDepth 100000 in
set_option maxHeartbeats 4000000 in
theorem sp_merge (hM : MFix K R Ln) {tn : Nat} (ht : I 595 11 = nI tn) (hb : tn ≤ 60) {many : Nat} (hm : I 582 11 = nI many) (hbm : many ≤ 520) {fn md : Nat} {to : Int32} {lr : List Nat} (hO : OrdA A lr) (hlt : ∀ y ∈ lr, y < many) (hf : I 590 11 = nI fn) (hd : I 593 11 = nI md) (hcap : fn + lr.length ≤ 520) (hmdb : md + lr.length < 2147483648) (hs : I 612 11 = nI lr.length) (hlv : ∀ e, e < many → A 20 e = 0 ∨ A 20 e = 1) : EvM X mX9_merge (d + 1) [rV (some 11), iV to] (K, I, J, R, A, B, Ln, n, sl) (MergeQ K I J R A B Ln n sl tn many fn md to lr) := by
  show Ev X mX9_merge (d + 1) 0 [some (rV (some 11)), some (iV to), none, none, none, none, none, none, none, none, none] [] (K, I, J, R, A, B, Ln, n, sl) _
  refine ev_aload_n dX9_merge_0 rfl ?_
  refine ev_callV dX9_merge_1 okX9_horizon inX9_horizon seX9_horizon mlX9_203 hM.m (by decide) rfl [] rfl rfl (Nat.le_of_ble_eq_true rfl) (Nat.le_of_ble_eq_true rfl) (sp_horizon hM ht hb) (fun r_ G_ h_ => ?_)
  obtain ⟨rfl, rfl⟩ := h_
  try dsimp only [Option.toList, List.cons_append, List.nil_append]
  refine ev_istore_nS dX9_merge_4 (by decide) rfl ?_
  refine ev_iconstN 0 dX9_merge_5 (by decide) ?_
  refine ev_istore_nS dX9_merge_6 (by decide) rfl ?_
  refine ev_iconstN 0 dX9_merge_7 (by decide) ?_
  refine ev_istoreS dX9_merge_8 (by decide) rfl ?_
  refine ev_iconst (-1) dX9_merge_10 (by decide) ?_
  refine ev_istoreS dX9_merge_11 (by decide) rfl ?_
  refine ev_iconstN 0 dX9_merge_13 (by decide) ?_
  refine ev_istoreS dX9_merge_14 (by decide) rfl ?_
  refine ev_iconstN 0 dX9_merge_16 (by decide) ?_
  refine ev_istoreS dX9_merge_17 (by decide) rfl ?_
  refine lp_merge hM (I0 := I) (A0 := A) (lr := lr) (fn := fn) (md := md) (to := to) (h := hzI (A 25) (A 26) (I 594 11) tn) hO (fun y hy => Nat.lt_of_lt_of_le (hlt y hy) hbm) hcap hmdb hs ?_ lr.reverse [] 0 0 0 none false [] I A none none none rfl (fun a z => by cases z) (Nat.zero_le _) (Nat.zero_le _) (Nat.zero_le _) ⟨fun _ _ => rfl, rfl, fun _ _ => ⟨rfl, rfl⟩, fun i hi => absurd hi (Nat.not_lt_zero i), hd, hf, fun _ _ _ => rfl⟩ ?_
  · intro I1 A1 asg c o w4 w5 w6 w7 w8 w9 w10 hR hg
    have hm1 : I1 582 11 = nI many := (hg.2.2.2.2.2.2 582 11 (by omega)).trans hm
    have hlv1 : ∀ e, e < many → A1 20 e = 0 ∨ A1 20 e = 1 := fun e he => by rw [hg.1 20 (by decide)]; exact hlv e he
    refine ev_aload_n dX9_merge_219 rfl ?_
    refine ev_callV dX9_merge_220 okX9_clean inX9_clean seX9_clean mlX9_206 hM.m (by decide) rfl [] rfl rfl (Nat.le_of_ble_eq_true rfl) (Nat.le_of_ble_eq_true rfl) (sp_clean hM hm1 hbm hlv1) (fun r_ G_ h_ => ?_)
    obtain ⟨rfl, A2, rfl, hcl⟩ := h_
    try dsimp only [Option.toList, List.cons_append, List.nil_append]
    refine ev_iload_n dX9_merge_223 rfl ?_
    refine ev_ireturn dX9_merge_224 rfl ?_
    exact ⟨I1, A1, A2, asg, c, o, hR, hg, hcl, rfl, rfl⟩
  · simp
end M21
