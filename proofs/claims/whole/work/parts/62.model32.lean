section M32
variable {X : CX} {d : Nat} {K : Nat → Nat} {I : Nat → Nat → Int32} {J : Nat → Nat → Int64} {R : Nat → Nat → Option Nat} {A : Nat → Nat → Int32} {B : Nat → Nat → Option Nat} {Ln : Nat → Nat} {n sl : Nat}
set_option maxRecDepth 100000 in
set_option maxHeartbeats 4000000 in
theorem sp_comes (hM : MFix K R Ln) {many la t ixn : Nat} {ie : Nat → EX} (hm : I 582 11 = nI many) (hcm : many ≤ 520) (hla : la + 1 < 2147483648) (hl : I 594 11 = nI la) (hix : I 577 11 = nI ixn) (hi3 : ixn ≤ 3) (hbe : A 26 t ≤ nI la) (hE : ∀ i, i < ixn → ExA A (8 + i) (ie i) ∧ TreeE (ie i)) (hn1 : ∀ k, k < 32 → ∃ nm, nm < 2147483648 ∧ rwV A (raN A (nI k) (nI la) many) 2 = nI nm) (hn2 : ∀ k, k < 32 → ∃ nm, nm < 2147483648 ∧ rfV A t k many 2 = nI nm) (ht : t < 60) (hcap : many + (batA A t many la ie ixn 32).length ≤ 520) : EvM X mX9_comes (d + 4) [rV (some 11), iV (nI t)] (K, I, J, R, A, B, Ln, n, sl) (fun r G' => r = none ∧ ∃ I' A', G' = (K, u2 I' 594 11 (nI (la + 1)), J, R, u2 A' 25 t 2, B, Ln, n, sl) ∧ BatI A many la A' (batA A t many la ie ixn 32) ∧ I' 582 11 = nI (many + (batA A t many la ie ixn 32).length) ∧ ∀ f i, ¬ (f = 582 ∧ i = 11) → I' f i = I f i) := by
  have s1 := sp_batch (X := X) (d := d) (J := J) (B := B) (n := n) (sl := sl) (put := true) hM hm hcm hla hl hix hi3 (by omega) hbe hE hn1 hn2 (fun _ => hcap)
  show Ev X mX9_comes (d + 4) 0 [some (rV (some 11)), some (iV (nI t))] [] (K, I, J, R, A, B, Ln, n, sl) _
  refine ev_aload_n dX9_comes_0 rfl ?_
  refine ev_iload_n dX9_comes_1 rfl ?_
  refine ev_iconstN 1 dX9_comes_2 (by decide) ?_
  refine ev_callV dX9_comes_3 okX9_batch inX9_batch seX9_batch mlX9_138 hM.m (by decide) rfl [iV _, iV _] rfl rfl (Nat.le_of_ble_eq_true rfl) (Nat.le_of_ble_eq_true rfl) (s1) (fun r_ G_ h_ => ?_)
  obtain ⟨rfl, I', A', rfl, q1, q2, q3⟩ := h_
  have hl1 : I' 594 11 = nI la := (q3 594 11 (by omega)).trans hl
  try dsimp only [Option.toList, List.cons_append, List.nil_append]
  refine ev_pop dX9_comes_6 rfl ?_
  refine ev_aload_n dX9_comes_7 rfl ?_
  refine ev_dup dX9_comes_8 rfl ?_
  refine ev_getIv dX9_comes_9 fX9_103 hM.m hl1 ?_
  refine ev_iconstN 1 dX9_comes_12 (by decide) ?_
  refine ev_iaddN dX9_comes_13 ?_
  refine ev_putI dX9_comes_14 fX9_103 (Or.inl rfl) (Or.inl rfl) hM.m ?_
  refine ev_aload_n dX9_comes_17 rfl ?_
  refine ev_getR dX9_comes_18 fX9_50 hM.m hM.R_state ?_
  refine ev_iload_n dX9_comes_21 rfl ?_
  refine ev_iconstN 2 dX9_comes_22 (by decide) ?_
  refine ev_iast dX9_comes_23 hM.K_state hM.L_state (by decide) (by omega) ?_
  refine ev_return dX9_comes_24 rfl ?_
  exact ⟨rfl, I', A', rfl, q1, q2, q3⟩
set_option maxRecDepth 100000 in
set_option maxHeartbeats 4000000 in
theorem sp_commit_no (hM : MFix K R Ln) {tn : Nat} (ht : I 595 11 = nI tn) (hb : tn ≤ 60) {t : Int32} (hs : ∀ j, j < tn → t = nI j → ¬ A 25 j = 1) : EvM X mX9_commit (d + 1) [rV (some 11), iV t] (K, I, J, R, A, B, Ln, n, sl) (fun r G' => r = some (iV (-1)) ∧ G' = (K, I, J, R, A, B, Ln, n, sl)) := by
  show Ev X mX9_commit (d + 1) 0 [some (rV (some 11)), some (iV t), none] [] (K, I, J, R, A, B, Ln, n, sl) _
  refine ev_aload_n dX9_commit_0 rfl ?_
  refine ev_iload_n dX9_commit_1 rfl ?_
  refine ev_callV dX9_commit_2 okX9_open inX9_open seX9_open mlX9_123 hM.m (by decide) rfl [iV _] rfl rfl (Nat.le_of_ble_eq_true rfl) (Nat.le_of_ble_eq_true rfl) (sp_open_no hM ht hb hs) (fun r_ G_ h_ => ?_)
  obtain ⟨rfl, rfl⟩ := h_
  try dsimp only [Option.toList, List.cons_append, List.nil_append]
  refine ev_if_ne 10 dX9_commit_5 (by decide) (fun c5 => absurd c5 (fun z => z rfl)) (fun c5 => ?_)
  refine ev_iconst (-1) dX9_commit_8 (by decide) ?_
  refine ev_ireturn dX9_commit_9 rfl ?_
  exact ⟨rfl, rfl⟩
theorem sp_commit_beaten (hM : MFix K R Ln) {many t : Nat} (hm : I 582 11 = nI many) (hcm : many ≤ 520) {tn : Nat} (ht : I 595 11 = nI tn) (hb : tn ≤ 60) (hj : t < tn) (hs : A 25 t = 1) {ky : Nat → Nat} (hky : ∀ e, e < many → A 18 e = nI (ky e) ∧ ky e < 32) (hbt : anyN (btP A t ky) many = true) : EvM X mX9_commit (d + 1) [rV (some 11), iV (nI t)] (K, I, J, R, A, B, Ln, n, sl) (fun r G' => r = some (iV (-2)) ∧ G' = (K, I, J, R, u2 A 25 t 3, B, Ln, n, sl)) := by
  have s1 := sp_beaten (X := X) (d := d) (J := J) (B := B) (n := n) (sl := sl) hM hm hcm (show t < 60 by omega) hky
  rw [hbt] at s1
  show Ev X mX9_commit (d + 1) 0 [some (rV (some 11)), some (iV (nI t)), none] [] (K, I, J, R, A, B, Ln, n, sl) _
  refine ev_aload_n dX9_commit_0 rfl ?_
  refine ev_iload_n dX9_commit_1 rfl ?_
  refine ev_callV dX9_commit_2 okX9_open inX9_open seX9_open mlX9_123 hM.m (by decide) rfl [iV _] rfl rfl (Nat.le_of_ble_eq_true rfl) (Nat.le_of_ble_eq_true rfl) (sp_open_yes hM ht hb hj hs) (fun r_ G_ h_ => ?_)
  obtain ⟨rfl, rfl⟩ := h_
  try dsimp only [Option.toList, List.cons_append, List.nil_append]
  refine ev_if_ne 10 dX9_commit_5 (by decide) (fun c5 => ?_) (fun c5 => absurd c5 (by decide))
  refine ev_aload_n dX9_commit_10 rfl ?_
  refine ev_iload_n dX9_commit_11 rfl ?_
  refine ev_callV dX9_commit_12 okX9_beaten inX9_beaten seX9_beaten mlX9_142 hM.m (by decide) rfl [iV _] rfl rfl (Nat.le_of_ble_eq_true rfl) (Nat.le_of_ble_eq_true rfl) (s1) (fun r_ G_ h_ => ?_)
  obtain ⟨rfl, rfl⟩ := h_
  try dsimp only [Option.toList, List.cons_append, List.nil_append]
  refine ev_if_eq 28 dX9_commit_15 (by decide) (fun c15 => absurd c15 (by decide)) (fun c15 => ?_)
  refine ev_aload_n dX9_commit_18 rfl ?_
  refine ev_getR dX9_commit_19 fX9_50 hM.m hM.R_state ?_
  refine ev_iload_n dX9_commit_22 rfl ?_
  refine ev_iconstN 3 dX9_commit_23 (by decide) ?_
  refine ev_iast dX9_commit_24 hM.K_state hM.L_state (by decide) (by omega) ?_
  refine ev_bipush (-2) dX9_commit_25 (by decide) ?_
  refine ev_ireturn dX9_commit_27 rfl ?_
  exact ⟨rfl, rfl⟩
theorem sp_commit_reads (hM : MFix K R Ln) {many t : Nat} (hm : I 582 11 = nI many) (hcm : many ≤ 520) {tn : Nat} (ht : I 595 11 = nI tn) (hb : tn ≤ 60) (hj : t < tn) (hs : A 25 t = 1) {ky : Nat → Nat} (hky : ∀ e, e < many → A 18 e = nI (ky e) ∧ ky e < 32) (hbt : anyN (btP A t ky) many = false) (hrd : allN (fun k => decide (A 27 (32 * t + k) = 0)) 32 = true) : EvM X mX9_commit (d + 1) [rV (some 11), iV (nI t)] (K, I, J, R, A, B, Ln, n, sl) (fun r G' => r = some (iV (A 26 t)) ∧ G' = (K, I, J, R, u2 A 25 t 2, B, Ln, n, sl)) := by
  have s1 := sp_beaten (X := X) (d := d) (J := J) (B := B) (n := n) (sl := sl) hM hm hcm (show t < 60 by omega) hky
  rw [hbt] at s1
  have s2 := sp_reads (X := X) (d := d) (I := I) (J := J) (A := A) (B := B) (n := n) (sl := sl) hM (show t < 60 by omega)
  rw [hrd] at s2
  show Ev X mX9_commit (d + 1) 0 [some (rV (some 11)), some (iV (nI t)), none] [] (K, I, J, R, A, B, Ln, n, sl) _
  refine ev_aload_n dX9_commit_0 rfl ?_
  refine ev_iload_n dX9_commit_1 rfl ?_
  refine ev_callV dX9_commit_2 okX9_open inX9_open seX9_open mlX9_123 hM.m (by decide) rfl [iV _] rfl rfl (Nat.le_of_ble_eq_true rfl) (Nat.le_of_ble_eq_true rfl) (sp_open_yes hM ht hb hj hs) (fun r_ G_ h_ => ?_)
  obtain ⟨rfl, rfl⟩ := h_
  try dsimp only [Option.toList, List.cons_append, List.nil_append]
  refine ev_if_ne 10 dX9_commit_5 (by decide) (fun c5 => ?_) (fun c5 => absurd c5 (by decide))
  refine ev_aload_n dX9_commit_10 rfl ?_
  refine ev_iload_n dX9_commit_11 rfl ?_
  refine ev_callV dX9_commit_12 okX9_beaten inX9_beaten seX9_beaten mlX9_142 hM.m (by decide) rfl [iV _] rfl rfl (Nat.le_of_ble_eq_true rfl) (Nat.le_of_ble_eq_true rfl) (s1) (fun r_ G_ h_ => ?_)
  obtain ⟨rfl, rfl⟩ := h_
  try dsimp only [Option.toList, List.cons_append, List.nil_append]
  refine ev_if_eq 28 dX9_commit_15 (by decide) (fun c15 => ?_) (fun c15 => absurd c15 (fun z => z rfl))
  refine ev_aload_n dX9_commit_28 rfl ?_
  refine ev_iload_n dX9_commit_29 rfl ?_
  refine ev_callV dX9_commit_30 okX9_reads inX9_reads seX9_reads mlX9_145 hM.m (by decide) rfl [iV _] rfl rfl (Nat.le_of_ble_eq_true rfl) (Nat.le_of_ble_eq_true rfl) (s2) (fun r_ G_ h_ => ?_)
  obtain ⟨rfl, rfl⟩ := h_
  try dsimp only [Option.toList, List.cons_append, List.nil_append]
  refine ev_if_eq 50 dX9_commit_33 (by decide) (fun c33 => absurd c33 (by decide)) (fun c33 => ?_)
  refine ev_aload_n dX9_commit_36 rfl ?_
  refine ev_getR dX9_commit_37 fX9_50 hM.m hM.R_state ?_
  refine ev_iload_n dX9_commit_40 rfl ?_
  refine ev_iconstN 2 dX9_commit_41 (by decide) ?_
  refine ev_iast dX9_commit_42 hM.K_state hM.L_state (by decide) (by omega) ?_
  refine ev_aload_n dX9_commit_43 rfl ?_
  refine ev_getR dX9_commit_44 fX9_53 hM.m hM.R_began ?_
  refine ev_iload_n dX9_commit_47 rfl ?_
  refine ev_ialdv dX9_commit_48 hM.K_began hM.L_began (by decide) (by omega) (u2_ne1 (by decide)) ?_
  refine ev_ireturn dX9_commit_49 rfl ?_
  exact ⟨rfl, rfl⟩
theorem sp_commit_full (hM : MFix K R Ln) {many la t ixn : Nat} {ie : Nat → EX} (hm : I 582 11 = nI many) (hcm : many ≤ 520) (hla : la + 1 < 2147483648) (hl : I 594 11 = nI la) (hix : I 577 11 = nI ixn) (hi3 : ixn ≤ 3) (hbe : A 26 t ≤ nI la) (hE : ∀ i, i < ixn → ExA A (8 + i) (ie i) ∧ TreeE (ie i)) (hn1 : ∀ k, k < 32 → ∃ nm, nm < 2147483648 ∧ rwV A (raN A (nI k) (nI la) many) 2 = nI nm) (hn2 : ∀ k, k < 32 → ∃ nm, nm < 2147483648 ∧ rfV A t k many 2 = nI nm) {tn : Nat} (ht : I 595 11 = nI tn) (hb : tn ≤ 60) (hj : t < tn) (hs : A 25 t = 1) {ky : Nat → Nat} (hky : ∀ e, e < many → A 18 e = nI (ky e) ∧ ky e < 32) (hbt : anyN (btP A t ky) many = false) (hrd : allN (fun k => decide (A 27 (32 * t + k) = 0)) 32 = false) (hful : 500 < many + (batA A t many la ie ixn 32).length) (hml : many + (batA A t many la ie ixn 32).length < 2147483648) : EvM X mX9_commit (d + 4) [rV (some 11), iV (nI t)] (K, I, J, R, A, B, Ln, n, sl) (fun r G' => r = some (iV (-3)) ∧ ∃ I' A', G' = (K, I', J, R, A', B, Ln, n, sl) ∧ BatI A many la A' [] ∧ I' 582 11 = nI many ∧ ∀ f i, ¬ (f = 582 ∧ i = 11) → I' f i = I f i) := by
  have s1 := sp_beaten (X := X) (d := d + 3) (J := J) (B := B) (n := n) (sl := sl) hM hm hcm (show t < 60 by omega) hky
  rw [hbt] at s1
  have s2 := sp_reads (X := X) (d := d + 3) (I := I) (J := J) (A := A) (B := B) (n := n) (sl := sl) hM (show t < 60 by omega)
  rw [hrd] at s2
  have s3 := sp_batch (X := X) (d := d) (J := J) (B := B) (n := n) (sl := sl) (put := false) hM hm hcm hla hl hix hi3 (by omega) hbe hE hn1 hn2 (fun z => by cases z)
  show Ev X mX9_commit (d + 4) 0 [some (rV (some 11)), some (iV (nI t)), none] [] (K, I, J, R, A, B, Ln, n, sl) _
  refine ev_aload_n dX9_commit_0 rfl ?_
  refine ev_iload_n dX9_commit_1 rfl ?_
  refine ev_callV dX9_commit_2 okX9_open inX9_open seX9_open mlX9_123 hM.m (by decide) rfl [iV _] rfl rfl (Nat.le_of_ble_eq_true rfl) (Nat.le_of_ble_eq_true rfl) (sp_open_yes hM ht hb hj hs) (fun r_ G_ h_ => ?_)
  obtain ⟨rfl, rfl⟩ := h_
  try dsimp only [Option.toList, List.cons_append, List.nil_append]
  refine ev_if_ne 10 dX9_commit_5 (by decide) (fun c5 => ?_) (fun c5 => absurd c5 (by decide))
  refine ev_aload_n dX9_commit_10 rfl ?_
  refine ev_iload_n dX9_commit_11 rfl ?_
  refine ev_callV dX9_commit_12 okX9_beaten inX9_beaten seX9_beaten mlX9_142 hM.m (by decide) rfl [iV _] rfl rfl (Nat.le_of_ble_eq_true rfl) (Nat.le_of_ble_eq_true rfl) (s1) (fun r_ G_ h_ => ?_)
  obtain ⟨rfl, rfl⟩ := h_
  try dsimp only [Option.toList, List.cons_append, List.nil_append]
  refine ev_if_eq 28 dX9_commit_15 (by decide) (fun c15 => ?_) (fun c15 => absurd c15 (fun z => z rfl))
  refine ev_aload_n dX9_commit_28 rfl ?_
  refine ev_iload_n dX9_commit_29 rfl ?_
  refine ev_callV dX9_commit_30 okX9_reads inX9_reads seX9_reads mlX9_145 hM.m (by decide) rfl [iV _] rfl rfl (Nat.le_of_ble_eq_true rfl) (Nat.le_of_ble_eq_true rfl) (s2) (fun r_ G_ h_ => ?_)
  obtain ⟨rfl, rfl⟩ := h_
  try dsimp only [Option.toList, List.cons_append, List.nil_append]
  refine ev_if_eq 50 dX9_commit_33 (by decide) (fun c33 => ?_) (fun c33 => absurd c33 (fun z => z rfl))
  refine ev_aload_n dX9_commit_50 rfl ?_
  refine ev_iload_n dX9_commit_51 rfl ?_
  refine ev_iconstN 0 dX9_commit_52 (by decide) ?_
  refine ev_callV dX9_commit_53 okX9_batch inX9_batch seX9_batch mlX9_138 hM.m (by decide) rfl [iV _, iV _] rfl rfl (Nat.le_of_ble_eq_true rfl) (Nat.le_of_ble_eq_true rfl) (s3) (fun r_ G_ h_ => ?_)
  obtain ⟨rfl, I', A', rfl, q1, q2, q3⟩ := h_
  have q2 : I' 582 11 = nI many := q2
  try dsimp only [Option.toList, List.cons_append, List.nil_append]
  refine ev_istore_nS dX9_commit_56 (by decide) rfl ?_
  refine ev_aload_n dX9_commit_57 rfl ?_
  refine ev_getIv dX9_commit_58 fX9_106 hM.m q2 ?_
  refine ev_iload_n dX9_commit_61 rfl ?_
  refine ev_iaddN dX9_commit_62 ?_
  refine ev_sipushN 500 dX9_commit_63 (by decide) ?_
  refine ev_icmp_leN 72 dX9_commit_66 (by decide) (by omega) (by omega) (fun c66 => absurd c66 (by omega)) (fun c66 => ?_)
  refine ev_bipush (-3) dX9_commit_69 (by decide) ?_
  refine ev_ireturn dX9_commit_71 rfl ?_
  exact ⟨rfl, I', A', rfl, q1, q2, q3⟩
theorem BatI.rfl_congr {A A1 : Nat → Nat → Int32} {many la : Nat} (h : BatI A many la A1 []) (hla : la + 1 < 2147483648) {t : Nat} (hbe : A 26 t ≤ nI la) (ie : Nat → EX) (ixn : Nat) : batA A1 t many la ie ixn 32 = batA A t many la ie ixn 32 := by
  have h1 : ∀ k, raN A1 (nI k) (nI la) many = raN A (nI k) (nI la) many := fun k => h.ra hla (Int32.le_refl _)
  have h2 : ∀ k, rfO A1 t k many = rfO A t k many := fun k => h.rfo hla hbe
  have h3 : ∀ k f, f < 3 → rfV A1 t k many f = rfV A t k many f := fun k f hf => h.rfv hla hbe hf
  have h4 : ∀ k f, f < 3 → rwV A1 (raN A (nI k) (nI la) many) f = rwV A (raN A (nI k) (nI la) many) f := fun k f hf => h.rw hf
  unfold batA batL
  refine congrArg (fun F => (List.range 32).flatMap F) (funext (fun k => ?_))
  dsimp only
  rw [h1 k, h2 k, h.1 27 (by decide)]
  have hv1 : ∀ e, vlE (rwV A1 (raN A (nI k) (nI la) many)) e = vlE (rwV A (raN A (nI k) (nI la) many)) e := fun e => by unfold vlE; rw [evE_congr (h4 k)]
  have hv2 : ∀ e, vlE (rfV A1 t k many) e = vlE (rfV A t k many) e := fun e => by unfold vlE; rw [evE_congr (h3 k)]
  have hmk : mkE la (rfV A1 t k many) = mkE la (rfV A t k many) := funext (fun x => by unfold mkE; rw [h3 k 0 (by decide), h3 k 1 (by decide), h3 k 2 (by decide)])
  unfold keyE ixL
  simp only [hv1, hv2, hmk]
theorem BatI.trans {A A1 A2 : Nat → Nat → Int32} {many la : Nat} {em : List EE} (h : BatI A many la A1 []) (h2 : BatI A1 many la A2 em) : BatI A many la A2 em := ⟨fun i hi => (h2.1 i hi).trans (h.1 i hi), fun e he => (h2.2.1 e he).trans (h.2.1 e he), h2.2.2.1, h2.2.2.2⟩
set_option maxRecDepth 100000 in
set_option maxHeartbeats 4000000 in
theorem sp_commit_put {Q : Option LV → GH → Prop} (hM : MFix K R Ln) {many la t ixn : Nat} {ie : Nat → EX} (hm : I 582 11 = nI many) (hcm : many ≤ 520) (hla : la + 1 < 2147483648) (hl : I 594 11 = nI la) (hix : I 577 11 = nI ixn) (hi3 : ixn ≤ 3) (hbe : A 26 t ≤ nI la) (hE : ∀ i, i < ixn → ExA A (8 + i) (ie i) ∧ TreeE (ie i)) (hn1 : ∀ k, k < 32 → ∃ nm, nm < 2147483648 ∧ rwV A (raN A (nI k) (nI la) many) 2 = nI nm) (hn2 : ∀ k, k < 32 → ∃ nm, nm < 2147483648 ∧ rfV A t k many 2 = nI nm) {tn : Nat} (ht : I 595 11 = nI tn) (hb : tn ≤ 60) (hj : t < tn) (hs : A 25 t = 1) {ky : Nat → Nat} (hky : ∀ e, e < many → A 18 e = nI (ky e) ∧ ky e < 32) (hbt : anyN (btP A t ky) many = false) (hrd : allN (fun k => decide (A 27 (32 * t + k) = 0)) 32 = false) (hful : ¬ 500 < many + (batA A t many la ie ixn 32).length) (hfin : ∀ I' A', BatI A many la A' (batA A t many la ie ixn 32) → I' 582 11 = nI (many + (batA A t many la ie ixn 32).length) → (∀ f i, ¬ (f = 582 ∧ i = 11) → I' f i = I f i) → (cnt (fun e => decide (A' 22 e = 0)) (many + (batA A t many la ie ixn 32).length) < 20 ∧ Q (some (iV (nI (la + 1)))) (K, u2 I' 594 11 (nI (la + 1)), J, R, u2 A' 25 t 2, B, Ln, n, sl)) ∨ (20 ≤ cnt (fun e => decide (A' 22 e = 0)) (many + (batA A t many la ie ixn 32).length) ∧ EvM X mX9_flush (d + 5) [rV (some 11)] (K, u2 I' 594 11 (nI (la + 1)), J, R, u2 A' 25 t 2, B, Ln, n, sl) (fun r G1 => ∃ x I1 A1, r = some (iV x) ∧ G1 = (K, I1, J, R, A1, B, Ln, n, sl) ∧ EvM X mX9_settle (d + 5) [rV (some 11)] (K, I1, J, R, A1, B, Ln, n, sl) (fun r G2 => r = none ∧ ∃ I2 A2, G2 = (K, I2, J, R, A2, B, Ln, n, sl) ∧ Q (some (iV (I2 594 11))) (K, I2, J, R, A2, B, Ln, n, sl))))) : EvM X mX9_commit (d + 6) [rV (some 11), iV (nI t)] (K, I, J, R, A, B, Ln, n, sl) Q := by
  have s1 := sp_beaten (X := X) (d := d + 5) (J := J) (B := B) (n := n) (sl := sl) hM hm hcm (show t < 60 by omega) hky
  rw [hbt] at s1
  have s2 := sp_reads (X := X) (d := d + 5) (I := I) (J := J) (A := A) (B := B) (n := n) (sl := sl) hM (show t < 60 by omega)
  rw [hrd] at s2
  have s3 := sp_batch (X := X) (d := d + 2) (J := J) (B := B) (n := n) (sl := sl) (put := false) hM hm hcm hla hl hix hi3 (by omega) hbe hE hn1 hn2 (fun z => by cases z)
  show Ev X mX9_commit (d + 6) 0 [some (rV (some 11)), some (iV (nI t)), none] [] (K, I, J, R, A, B, Ln, n, sl) _
  refine ev_aload_n dX9_commit_0 rfl ?_
  refine ev_iload_n dX9_commit_1 rfl ?_
  refine ev_callV dX9_commit_2 okX9_open inX9_open seX9_open mlX9_123 hM.m (by decide) rfl [iV _] rfl rfl (Nat.le_of_ble_eq_true rfl) (Nat.le_of_ble_eq_true rfl) (sp_open_yes hM ht hb hj hs) (fun r_ G_ h_ => ?_)
  obtain ⟨rfl, rfl⟩ := h_
  try dsimp only [Option.toList, List.cons_append, List.nil_append]
  refine ev_if_ne 10 dX9_commit_5 (by decide) (fun c5 => ?_) (fun c5 => absurd c5 (by decide))
  refine ev_aload_n dX9_commit_10 rfl ?_
  refine ev_iload_n dX9_commit_11 rfl ?_
  refine ev_callV dX9_commit_12 okX9_beaten inX9_beaten seX9_beaten mlX9_142 hM.m (by decide) rfl [iV _] rfl rfl (Nat.le_of_ble_eq_true rfl) (Nat.le_of_ble_eq_true rfl) (s1) (fun r_ G_ h_ => ?_)
  obtain ⟨rfl, rfl⟩ := h_
  try dsimp only [Option.toList, List.cons_append, List.nil_append]
  refine ev_if_eq 28 dX9_commit_15 (by decide) (fun c15 => ?_) (fun c15 => absurd c15 (fun z => z rfl))
  refine ev_aload_n dX9_commit_28 rfl ?_
  refine ev_iload_n dX9_commit_29 rfl ?_
  refine ev_callV dX9_commit_30 okX9_reads inX9_reads seX9_reads mlX9_145 hM.m (by decide) rfl [iV _] rfl rfl (Nat.le_of_ble_eq_true rfl) (Nat.le_of_ble_eq_true rfl) (s2) (fun r_ G_ h_ => ?_)
  obtain ⟨rfl, rfl⟩ := h_
  try dsimp only [Option.toList, List.cons_append, List.nil_append]
  refine ev_if_eq 50 dX9_commit_33 (by decide) (fun c33 => ?_) (fun c33 => absurd c33 (fun z => z rfl))
  refine ev_aload_n dX9_commit_50 rfl ?_
  refine ev_iload_n dX9_commit_51 rfl ?_
  refine ev_iconstN 0 dX9_commit_52 (by decide) ?_
  refine ev_callV dX9_commit_53 okX9_batch inX9_batch seX9_batch mlX9_138 hM.m (by decide) rfl [iV _, iV _] rfl rfl (Nat.le_of_ble_eq_true rfl) (Nat.le_of_ble_eq_true rfl) (s3) (fun r_ G_ h_ => ?_)
  obtain ⟨rfl, I1, A1, rfl, q1, q2, q3⟩ := h_
  have q1 : BatI A many la A1 [] := q1
  have q2 : I1 582 11 = nI many := q2
  have hbc := q1.rfl_congr hla hbe ie ixn
  have hn1' : ∀ k, k < 32 → ∃ nm, nm < 2147483648 ∧ rwV A1 (raN A1 (nI k) (nI la) many) 2 = nI nm := fun k hk => by
    have hra : raN A1 (nI k) (nI la) many = raN A (nI k) (nI la) many := q1.ra hla (Int32.le_refl _)
    rw [hra, q1.rw (by decide)]
    exact hn1 k hk
  have hn2' : ∀ k, k < 32 → ∃ nm, nm < 2147483648 ∧ rfV A1 t k many 2 = nI nm := fun k hk => by
    have hrf : rfV A1 t k many 2 = rfV A t k many 2 := q1.rfv hla hbe (by decide)
    rw [hrf]
    exact hn2 k hk
  have s4 := sp_comes (X := X) (d := d + 1) (J := J) (B := B) (n := n) (sl := sl) (I := I1) (A := A1) (many := many) (la := la) (t := t) (ixn := ixn) (ie := ie) hM q2 hcm hla ((q3 594 11 (by omega)).trans hl) ((q3 577 11 (by omega)).trans hix) hi3 (by rw [q1.1 26 (by decide)]; exact hbe) (fun i hi => ⟨(hE i hi).1.congr (q1.1 12 (by decide)) (q1.1 13 (by decide)) (q1.1 14 (by decide)), (hE i hi).2⟩) hn1' hn2' (by omega) (by rw [hbc]; omega)
  rw [hbc] at s4
  try dsimp only [Option.toList, List.cons_append, List.nil_append]
  refine ev_istore_nS dX9_commit_56 (by decide) rfl ?_
  refine ev_aload_n dX9_commit_57 rfl ?_
  refine ev_getIv dX9_commit_58 fX9_106 hM.m q2 ?_
  refine ev_iload_n dX9_commit_61 rfl ?_
  refine ev_iaddN dX9_commit_62 ?_
  refine ev_sipushN 500 dX9_commit_63 (by decide) ?_
  refine ev_icmp_leN 72 dX9_commit_66 (by decide) (by omega) (by omega) (fun c66 => ?_) (fun c66 => absurd c66 (by omega))
  refine ev_aload_n dX9_commit_72 rfl ?_
  refine ev_iload_n dX9_commit_73 rfl ?_
  refine ev_callV dX9_commit_74 okX9_comes inX9_comes seX9_comes mlX9_148 hM.m (by decide) rfl [iV _] rfl rfl (Nat.le_of_ble_eq_true rfl) (Nat.le_of_ble_eq_true rfl) (s4) (fun r_ G_ h_ => ?_)
  obtain ⟨rfl, I2, A2, rfl, p1, p2, p3⟩ := h_
  have hfi := hfin I2 A2 (q1.trans p1) p2 (fun f i hfi => (p3 f i hfi).trans (q3 f i hfi))
  have hmx : u2 I2 594 11 (nI (la + 1)) 582 11 = nI (many + (batA A t many la ie ixn 32).length) := (u2_ne1 (by decide)).trans p2
  have s5 := sp_inFile (X := X) (d := d + 5) (J := J) (A := u2 A2 25 t 2) (B := B) (n := n) (sl := sl) (x := 0) hM hmx (by omega)
  rw [show (u2 A2 25 t 2) 22 = A2 22 from u2_row' (by decide)] at s5
  have hcl : cnt (fun e => decide (A2 22 e = 0)) (many + (batA A t many la ie ixn 32).length) ≤ many + (batA A t many la ie ixn 32).length := cnt_le _ _
  try dsimp only [Option.toList, List.cons_append, List.nil_append]
  refine ev_aload_n dX9_commit_77 rfl ?_
  refine ev_iconstN 0 dX9_commit_78 (by decide) ?_
  refine ev_callV dX9_commit_79 okX9_inFile inX9_inFile seX9_inFile mlX9_152 hM.m (by decide) rfl [iV _] rfl rfl (Nat.le_of_ble_eq_true rfl) (Nat.le_of_ble_eq_true rfl) (s5) (fun r_ G_ h_ => ?_)
  obtain ⟨rfl, rfl⟩ := h_
  try dsimp only [Option.toList, List.cons_append, List.nil_append]
  rcases hfi with ⟨hlt, hQ⟩ | ⟨hge, hfl⟩
  · refine ev_bipushN 20 dX9_commit_82 (by decide) ?_
    refine ev_icmp_ltN 96 dX9_commit_84 (by decide) (by omega) (by omega) (fun c84 => ?_) (fun c84 => absurd c84 (by omega))
    refine ev_aload_n dX9_commit_96 rfl ?_
    refine ev_getIv dX9_commit_97 fX9_103 hM.m u2_self ?_
    refine ev_ireturn dX9_commit_100 rfl ?_
    exact hQ
  · refine ev_bipushN 20 dX9_commit_82 (by decide) ?_
    refine ev_icmp_ltN 96 dX9_commit_84 (by decide) (by omega) (by omega) (fun c84 => absurd c84 (by omega)) (fun c84 => ?_)
    refine ev_aload_n dX9_commit_87 rfl ?_
    refine ev_callV dX9_commit_88 okX9_flush inX9_flush seX9_flush mlX9_155 hM.m (by decide) rfl [] rfl rfl (Nat.le_of_ble_eq_true rfl) (Nat.le_of_ble_eq_true rfl) (hfl) (fun r_ G_ h_ => ?_)
    obtain ⟨x, I3, A3, rfl, rfl, hse⟩ := h_
    try dsimp only [Option.toList, List.cons_append, List.nil_append]
    refine ev_pop dX9_commit_91 rfl ?_
    refine ev_aload_n dX9_commit_92 rfl ?_
    refine ev_callV dX9_commit_93 okX9_settle inX9_settle seX9_settle mlX9_158 hM.m (by decide) rfl [] rfl rfl (Nat.le_of_ble_eq_true rfl) (Nat.le_of_ble_eq_true rfl) (hse) (fun r_ G_ h_ => ?_)
    obtain ⟨rfl, I4, A4, rfl, hQ⟩ := h_
    try dsimp only [Option.toList, List.cons_append, List.nil_append]
    refine ev_aload_n dX9_commit_96 rfl ?_
    refine ev_getI dX9_commit_97 fX9_103 hM.m ?_
    refine ev_ireturn dX9_commit_100 rfl ?_
    exact hQ
end M32
