section M33
variable {X : CX} {d : Nat} {K : Nat → Nat} {I : Nat → Nat → Int32} {J : Nat → Nat → Int64} {R : Nat → Nat → Option Nat} {A : Nat → Nat → Int32} {B : Nat → Nat → Option Nat} {Ln : Nat → Nat} {n sl : Nat}
set_option maxRecDepth 100000 in
set_option maxHeartbeats 4000000 in
theorem sp_tear_no (hM : MFix K R Ln) {tn : Nat} (ht : I 595 11 = nI tn) (hb : tn ≤ 60) {t x : Int32} (hs : ∀ j, j < tn → t = nI j → ¬ A 25 j = 1) : EvM X mX9_tear (d + 1) [rV (some 11), iV t, iV x] (K, I, J, R, A, B, Ln, n, sl) (fun r G' => r = some (iV (-1)) ∧ G' = (K, I, J, R, A, B, Ln, n, sl)) := by
  show Ev X mX9_tear (d + 1) 0 [some (rV (some 11)), some (iV t), some (iV x), none, none, none] [] (K, I, J, R, A, B, Ln, n, sl) _
  refine ev_aload_n dX9_tear_0 rfl ?_
  refine ev_iload_n dX9_tear_1 rfl ?_
  refine ev_callV dX9_tear_2 okX9_open inX9_open seX9_open mlX9_123 hM.m (by decide) rfl [iV _] rfl rfl (Nat.le_of_ble_eq_true rfl) (Nat.le_of_ble_eq_true rfl) (sp_open_no hM ht hb hs) (fun r_ G_ h_ => ?_)
  obtain ⟨rfl, rfl⟩ := h_
  try dsimp only [Option.toList, List.cons_append, List.nil_append]
  refine ev_if_eq 28 dX9_tear_5 (by decide) (fun c5 => ?_) (fun c5 => absurd c5 (fun z => z rfl))
  refine ev_iconst (-1) dX9_tear_28 (by decide) ?_
  refine ev_ireturn dX9_tear_29 rfl ?_
  exact ⟨rfl, rfl⟩
theorem sp_tear_no2 (hM : MFix K R Ln) {many t : Nat} {x : Int32} (hm : I 582 11 = nI many) (hcm : many ≤ 520) {tn : Nat} (ht : I 595 11 = nI tn) (hb : tn ≤ 60) (hj : t < tn) (hs : A 25 t = 1) {ky : Nat → Nat} (hky : ∀ e, e < many → A 18 e = nI (ky e) ∧ ky e < 32) (hno : allN (fun k => decide (A 27 (32 * t + k) = 0)) 32 = true ∨ anyN (btP A t ky) many = true ∨ x < 0) : EvM X mX9_tear (d + 1) [rV (some 11), iV (nI t), iV x] (K, I, J, R, A, B, Ln, n, sl) (fun r G' => r = some (iV (-1)) ∧ G' = (K, I, J, R, A, B, Ln, n, sl)) := by
  have s1 := sp_beaten (X := X) (d := d) (J := J) (B := B) (n := n) (sl := sl) hM hm hcm (show t < 60 by omega) hky
  have s2 := sp_reads (X := X) (d := d) (I := I) (J := J) (A := A) (B := B) (n := n) (sl := sl) hM (show t < 60 by omega)
  show Ev X mX9_tear (d + 1) 0 [some (rV (some 11)), some (iV (nI t)), some (iV x), none, none, none] [] (K, I, J, R, A, B, Ln, n, sl) _
  cases hrd : allN (fun k => decide (A 27 (32 * t + k) = 0)) 32 with
  | true =>
    rw [hrd] at s2
    refine ev_aload_n dX9_tear_0 rfl ?_
    refine ev_iload_n dX9_tear_1 rfl ?_
    refine ev_callV dX9_tear_2 okX9_open inX9_open seX9_open mlX9_123 hM.m (by decide) rfl [iV _] rfl rfl (Nat.le_of_ble_eq_true rfl) (Nat.le_of_ble_eq_true rfl) (sp_open_yes hM ht hb hj hs) (fun r_ G_ h_ => ?_)
    obtain ⟨rfl, rfl⟩ := h_
    try dsimp only [Option.toList, List.cons_append, List.nil_append]
    refine ev_if_eq 28 dX9_tear_5 (by decide) (fun c5 => absurd c5 (by decide)) (fun c5 => ?_)
    refine ev_aload_n dX9_tear_8 rfl ?_
    refine ev_iload_n dX9_tear_9 rfl ?_
    refine ev_callV dX9_tear_10 okX9_reads inX9_reads seX9_reads mlX9_145 hM.m (by decide) rfl [iV _] rfl rfl (Nat.le_of_ble_eq_true rfl) (Nat.le_of_ble_eq_true rfl) (s2) (fun r_ G_ h_ => ?_)
    obtain ⟨rfl, rfl⟩ := h_
    try dsimp only [Option.toList, List.cons_append, List.nil_append]
    refine ev_if_ne 28 dX9_tear_13 (by decide) (fun c13 => ?_) (fun c13 => absurd c13 (by decide))
    refine ev_iconst (-1) dX9_tear_28 (by decide) ?_
    refine ev_ireturn dX9_tear_29 rfl ?_
    exact ⟨rfl, rfl⟩
  | false =>
    rw [hrd] at s2
    cases hbt : anyN (btP A t ky) many with
    | true =>
      rw [hbt] at s1
      refine ev_aload_n dX9_tear_0 rfl ?_
      refine ev_iload_n dX9_tear_1 rfl ?_
      refine ev_callV dX9_tear_2 okX9_open inX9_open seX9_open mlX9_123 hM.m (by decide) rfl [iV _] rfl rfl (Nat.le_of_ble_eq_true rfl) (Nat.le_of_ble_eq_true rfl) (sp_open_yes hM ht hb hj hs) (fun r_ G_ h_ => ?_)
      obtain ⟨rfl, rfl⟩ := h_
      try dsimp only [Option.toList, List.cons_append, List.nil_append]
      refine ev_if_eq 28 dX9_tear_5 (by decide) (fun c5 => absurd c5 (by decide)) (fun c5 => ?_)
      refine ev_aload_n dX9_tear_8 rfl ?_
      refine ev_iload_n dX9_tear_9 rfl ?_
      refine ev_callV dX9_tear_10 okX9_reads inX9_reads seX9_reads mlX9_145 hM.m (by decide) rfl [iV _] rfl rfl (Nat.le_of_ble_eq_true rfl) (Nat.le_of_ble_eq_true rfl) (s2) (fun r_ G_ h_ => ?_)
      obtain ⟨rfl, rfl⟩ := h_
      try dsimp only [Option.toList, List.cons_append, List.nil_append]
      refine ev_if_ne 28 dX9_tear_13 (by decide) (fun c13 => absurd c13 (fun z => z rfl)) (fun c13 => ?_)
      refine ev_aload_n dX9_tear_16 rfl ?_
      refine ev_iload_n dX9_tear_17 rfl ?_
      refine ev_callV dX9_tear_18 okX9_beaten inX9_beaten seX9_beaten mlX9_142 hM.m (by decide) rfl [iV _] rfl rfl (Nat.le_of_ble_eq_true rfl) (Nat.le_of_ble_eq_true rfl) (s1) (fun r_ G_ h_ => ?_)
      obtain ⟨rfl, rfl⟩ := h_
      try dsimp only [Option.toList, List.cons_append, List.nil_append]
      refine ev_if_ne 28 dX9_tear_21 (by decide) (fun c21 => ?_) (fun c21 => absurd c21 (by decide))
      refine ev_iconst (-1) dX9_tear_28 (by decide) ?_
      refine ev_ireturn dX9_tear_29 rfl ?_
      exact ⟨rfl, rfl⟩
    | false =>
      rw [hbt] at s1
      have hx : x < 0 := (hno.resolve_left (by rw [hrd]; decide)).resolve_left (by rw [hbt]; decide)
      refine ev_aload_n dX9_tear_0 rfl ?_
      refine ev_iload_n dX9_tear_1 rfl ?_
      refine ev_callV dX9_tear_2 okX9_open inX9_open seX9_open mlX9_123 hM.m (by decide) rfl [iV _] rfl rfl (Nat.le_of_ble_eq_true rfl) (Nat.le_of_ble_eq_true rfl) (sp_open_yes hM ht hb hj hs) (fun r_ G_ h_ => ?_)
      obtain ⟨rfl, rfl⟩ := h_
      try dsimp only [Option.toList, List.cons_append, List.nil_append]
      refine ev_if_eq 28 dX9_tear_5 (by decide) (fun c5 => absurd c5 (by decide)) (fun c5 => ?_)
      refine ev_aload_n dX9_tear_8 rfl ?_
      refine ev_iload_n dX9_tear_9 rfl ?_
      refine ev_callV dX9_tear_10 okX9_reads inX9_reads seX9_reads mlX9_145 hM.m (by decide) rfl [iV _] rfl rfl (Nat.le_of_ble_eq_true rfl) (Nat.le_of_ble_eq_true rfl) (s2) (fun r_ G_ h_ => ?_)
      obtain ⟨rfl, rfl⟩ := h_
      try dsimp only [Option.toList, List.cons_append, List.nil_append]
      refine ev_if_ne 28 dX9_tear_13 (by decide) (fun c13 => absurd c13 (fun z => z rfl)) (fun c13 => ?_)
      refine ev_aload_n dX9_tear_16 rfl ?_
      refine ev_iload_n dX9_tear_17 rfl ?_
      refine ev_callV dX9_tear_18 okX9_beaten inX9_beaten seX9_beaten mlX9_142 hM.m (by decide) rfl [iV _] rfl rfl (Nat.le_of_ble_eq_true rfl) (Nat.le_of_ble_eq_true rfl) (s1) (fun r_ G_ h_ => ?_)
      obtain ⟨rfl, rfl⟩ := h_
      try dsimp only [Option.toList, List.cons_append, List.nil_append]
      refine ev_if_ne 28 dX9_tear_21 (by decide) (fun c21 => absurd c21 (fun z => z rfl)) (fun c21 => ?_)
      refine ev_iload_n dX9_tear_24 rfl ?_
      refine ev_if_ge 30 dX9_tear_25 (by decide) (fun c25 => absurd (Int32.not_lt.mpr c25) (fun z => z hx)) (fun c25 => ?_)
      refine ev_iconst (-1) dX9_tear_28 (by decide) ?_
      refine ev_ireturn dX9_tear_29 rfl ?_
      exact ⟨rfl, rfl⟩
theorem sp_tear_full (hM : MFix K R Ln) {many la t ixn : Nat} {ie : Nat → EX} (hm : I 582 11 = nI many) (hcm : many ≤ 520) (hla : la + 1 < 2147483648) (hl : I 594 11 = nI la) (hix : I 577 11 = nI ixn) (hi3 : ixn ≤ 3) (hbe : A 26 t ≤ nI la) (hE : ∀ i, i < ixn → ExA A (8 + i) (ie i) ∧ TreeE (ie i)) (hn1 : ∀ k, k < 32 → ∃ nm, nm < 2147483648 ∧ rwV A (raN A (nI k) (nI la) many) 2 = nI nm) (hn2 : ∀ k, k < 32 → ∃ nm, nm < 2147483648 ∧ rfV A t k many 2 = nI nm) {tn : Nat} (ht : I 595 11 = nI tn) (hb : tn ≤ 60) (hj : t < tn) (hs : A 25 t = 1) {ky : Nat → Nat} (hky : ∀ e, e < many → A 18 e = nI (ky e) ∧ ky e < 32) {z : Nat} (hz : z < 2147483648) (hbt : anyN (btP A t ky) many = false) (hrd : allN (fun k => decide (A 27 (32 * t + k) = 0)) 32 = false) (hful : 500 < many + (batA A t many la ie ixn 32).length) (hml : many + (batA A t many la ie ixn 32).length < 2147483648) : EvM X mX9_tear (d + 4) [rV (some 11), iV (nI t), iV (nI z)] (K, I, J, R, A, B, Ln, n, sl) (fun r G' => r = some (iV (-1)) ∧ ∃ I' A', G' = (K, I', J, R, A', B, Ln, n, sl) ∧ BatI A many la A' [] ∧ I' 582 11 = nI many ∧ ∀ f i, ¬ (f = 582 ∧ i = 11) → I' f i = I f i) := by
  have s1 := sp_beaten (X := X) (d := d + 3) (J := J) (B := B) (n := n) (sl := sl) hM hm hcm (show t < 60 by omega) hky
  rw [hbt] at s1
  have s2 := sp_reads (X := X) (d := d + 3) (I := I) (J := J) (A := A) (B := B) (n := n) (sl := sl) hM (show t < 60 by omega)
  rw [hrd] at s2
  have s3 := sp_batch (X := X) (d := d) (J := J) (B := B) (n := n) (sl := sl) (put := false) hM hm hcm hla hl hix hi3 (by omega) hbe hE hn1 hn2 (fun z => by cases z)
  show Ev X mX9_tear (d + 4) 0 [some (rV (some 11)), some (iV (nI t)), some (iV (nI z)), none, none, none] [] (K, I, J, R, A, B, Ln, n, sl) _
  refine ev_aload_n dX9_tear_0 rfl ?_
  refine ev_iload_n dX9_tear_1 rfl ?_
  refine ev_callV dX9_tear_2 okX9_open inX9_open seX9_open mlX9_123 hM.m (by decide) rfl [iV _] rfl rfl (Nat.le_of_ble_eq_true rfl) (Nat.le_of_ble_eq_true rfl) (sp_open_yes hM ht hb hj hs) (fun r_ G_ h_ => ?_)
  obtain ⟨rfl, rfl⟩ := h_
  try dsimp only [Option.toList, List.cons_append, List.nil_append]
  refine ev_if_eq 28 dX9_tear_5 (by decide) (fun c5 => absurd c5 (by decide)) (fun c5 => ?_)
  refine ev_aload_n dX9_tear_8 rfl ?_
  refine ev_iload_n dX9_tear_9 rfl ?_
  refine ev_callV dX9_tear_10 okX9_reads inX9_reads seX9_reads mlX9_145 hM.m (by decide) rfl [iV _] rfl rfl (Nat.le_of_ble_eq_true rfl) (Nat.le_of_ble_eq_true rfl) (s2) (fun r_ G_ h_ => ?_)
  obtain ⟨rfl, rfl⟩ := h_
  try dsimp only [Option.toList, List.cons_append, List.nil_append]
  refine ev_if_ne 28 dX9_tear_13 (by decide) (fun c13 => absurd c13 (fun z => z rfl)) (fun c13 => ?_)
  refine ev_aload_n dX9_tear_16 rfl ?_
  refine ev_iload_n dX9_tear_17 rfl ?_
  refine ev_callV dX9_tear_18 okX9_beaten inX9_beaten seX9_beaten mlX9_142 hM.m (by decide) rfl [iV _] rfl rfl (Nat.le_of_ble_eq_true rfl) (Nat.le_of_ble_eq_true rfl) (s1) (fun r_ G_ h_ => ?_)
  obtain ⟨rfl, rfl⟩ := h_
  try dsimp only [Option.toList, List.cons_append, List.nil_append]
  refine ev_if_ne 28 dX9_tear_21 (by decide) (fun c21 => absurd c21 (fun z => z rfl)) (fun c21 => ?_)
  refine ev_iload_n dX9_tear_24 rfl ?_
  refine ev_if_geN 30 dX9_tear_25 (by decide) (by omega) ?_
  refine ev_aload_n dX9_tear_30 rfl ?_
  refine ev_iload_n dX9_tear_31 rfl ?_
  refine ev_iconstN 0 dX9_tear_32 (by decide) ?_
  refine ev_callV dX9_tear_33 okX9_batch inX9_batch seX9_batch mlX9_138 hM.m (by decide) rfl [iV _, iV _] rfl rfl (Nat.le_of_ble_eq_true rfl) (Nat.le_of_ble_eq_true rfl) (s3) (fun r_ G_ h_ => ?_)
  obtain ⟨rfl, I', A', rfl, q1, q2, q3⟩ := h_
  have q2 : I' 582 11 = nI many := q2
  try dsimp only [Option.toList, List.cons_append, List.nil_append]
  refine ev_istore_nS dX9_tear_36 (by decide) rfl ?_
  refine ev_aload_n dX9_tear_37 rfl ?_
  refine ev_getIv dX9_tear_38 fX9_106 hM.m q2 ?_
  refine ev_iload_n dX9_tear_41 rfl ?_
  refine ev_iaddN dX9_tear_42 ?_
  refine ev_sipushN 500 dX9_tear_43 (by decide) ?_
  refine ev_icmp_leN 51 dX9_tear_46 (by decide) (by omega) (by omega) (fun c46 => absurd c46 (by omega)) (fun c46 => ?_)
  refine ev_iconst (-1) dX9_tear_49 (by decide) ?_
  refine ev_ireturn dX9_tear_50 rfl ?_
  exact ⟨rfl, I', A', rfl, q1, q2, q3⟩
theorem sp_tear_torn (hM : MFix K R Ln) {many la t ixn : Nat} {ie : Nat → EX} (hm : I 582 11 = nI many) (hcm : many ≤ 520) (hla : la + 1 < 2147483648) (hl : I 594 11 = nI la) (hix : I 577 11 = nI ixn) (hi3 : ixn ≤ 3) (hbe : A 26 t ≤ nI la) (hE : ∀ i, i < ixn → ExA A (8 + i) (ie i) ∧ TreeE (ie i)) (hn1 : ∀ k, k < 32 → ∃ nm, nm < 2147483648 ∧ rwV A (raN A (nI k) (nI la) many) 2 = nI nm) (hn2 : ∀ k, k < 32 → ∃ nm, nm < 2147483648 ∧ rfV A t k many 2 = nI nm) {tn : Nat} (ht : I 595 11 = nI tn) (hb : tn ≤ 60) (hj : t < tn) (hs : A 25 t = 1) {ky : Nat → Nat} (hky : ∀ e, e < many → A 18 e = nI (ky e) ∧ ky e < 32) {z : Nat} (hz : z ≤ (batA A t many la ie ixn 32).length) (hbt : anyN (btP A t ky) many = false) (hrd : allN (fun k => decide (A 27 (32 * t + k) = 0)) 32 = false) (hful : ¬ 500 < many + (batA A t many la ie ixn 32).length) : EvM X mX9_tear (d + 4) [rV (some 11), iV (nI t), iV (nI z)] (K, I, J, R, A, B, Ln, n, sl) (fun r G' => r = some (iV 0) ∧ ∃ I' A', G' = (K, I', J, R, crA A' tn, B, Ln, n, sl) ∧ BatI A many la A' [] ∧ I' 582 11 = nI many ∧ ∀ f i, ¬ (f = 582 ∧ i = 11) → I' f i = I f i) := by
  have s1 := sp_beaten (X := X) (d := d + 3) (J := J) (B := B) (n := n) (sl := sl) hM hm hcm (show t < 60 by omega) hky
  rw [hbt] at s1
  have s2 := sp_reads (X := X) (d := d + 3) (I := I) (J := J) (A := A) (B := B) (n := n) (sl := sl) hM (show t < 60 by omega)
  rw [hrd] at s2
  have s3 := sp_batch (X := X) (d := d) (J := J) (B := B) (n := n) (sl := sl) (put := false) hM hm hcm hla hl hix hi3 (by omega) hbe hE hn1 hn2 (fun z => by cases z)
  show Ev X mX9_tear (d + 4) 0 [some (rV (some 11)), some (iV (nI t)), some (iV (nI z)), none, none, none] [] (K, I, J, R, A, B, Ln, n, sl) _
  refine ev_aload_n dX9_tear_0 rfl ?_
  refine ev_iload_n dX9_tear_1 rfl ?_
  refine ev_callV dX9_tear_2 okX9_open inX9_open seX9_open mlX9_123 hM.m (by decide) rfl [iV _] rfl rfl (Nat.le_of_ble_eq_true rfl) (Nat.le_of_ble_eq_true rfl) (sp_open_yes hM ht hb hj hs) (fun r_ G_ h_ => ?_)
  obtain ⟨rfl, rfl⟩ := h_
  try dsimp only [Option.toList, List.cons_append, List.nil_append]
  refine ev_if_eq 28 dX9_tear_5 (by decide) (fun c5 => absurd c5 (by decide)) (fun c5 => ?_)
  refine ev_aload_n dX9_tear_8 rfl ?_
  refine ev_iload_n dX9_tear_9 rfl ?_
  refine ev_callV dX9_tear_10 okX9_reads inX9_reads seX9_reads mlX9_145 hM.m (by decide) rfl [iV _] rfl rfl (Nat.le_of_ble_eq_true rfl) (Nat.le_of_ble_eq_true rfl) (s2) (fun r_ G_ h_ => ?_)
  obtain ⟨rfl, rfl⟩ := h_
  try dsimp only [Option.toList, List.cons_append, List.nil_append]
  refine ev_if_ne 28 dX9_tear_13 (by decide) (fun c13 => absurd c13 (fun z => z rfl)) (fun c13 => ?_)
  refine ev_aload_n dX9_tear_16 rfl ?_
  refine ev_iload_n dX9_tear_17 rfl ?_
  refine ev_callV dX9_tear_18 okX9_beaten inX9_beaten seX9_beaten mlX9_142 hM.m (by decide) rfl [iV _] rfl rfl (Nat.le_of_ble_eq_true rfl) (Nat.le_of_ble_eq_true rfl) (s1) (fun r_ G_ h_ => ?_)
  obtain ⟨rfl, rfl⟩ := h_
  try dsimp only [Option.toList, List.cons_append, List.nil_append]
  refine ev_if_ne 28 dX9_tear_21 (by decide) (fun c21 => absurd c21 (fun z => z rfl)) (fun c21 => ?_)
  refine ev_iload_n dX9_tear_24 rfl ?_
  refine ev_if_geN 30 dX9_tear_25 (by decide) (by omega) ?_
  refine ev_aload_n dX9_tear_30 rfl ?_
  refine ev_iload_n dX9_tear_31 rfl ?_
  refine ev_iconstN 0 dX9_tear_32 (by decide) ?_
  refine ev_callV dX9_tear_33 okX9_batch inX9_batch seX9_batch mlX9_138 hM.m (by decide) rfl [iV _, iV _] rfl rfl (Nat.le_of_ble_eq_true rfl) (Nat.le_of_ble_eq_true rfl) (s3) (fun r_ G_ h_ => ?_)
  obtain ⟨rfl, I', A', rfl, q1, q2, q3⟩ := h_
  have q2 : I' 582 11 = nI many := q2
  try dsimp only [Option.toList, List.cons_append, List.nil_append]
  refine ev_istore_nS dX9_tear_36 (by decide) rfl ?_
  refine ev_aload_n dX9_tear_37 rfl ?_
  refine ev_getIv dX9_tear_38 fX9_106 hM.m q2 ?_
  refine ev_iload_n dX9_tear_41 rfl ?_
  refine ev_iaddN dX9_tear_42 ?_
  refine ev_sipushN 500 dX9_tear_43 (by decide) ?_
  refine ev_icmp_leN 51 dX9_tear_46 (by decide) (by omega) (by omega) (fun c46 => ?_) (fun c46 => absurd c46 (by omega))
  refine ev_iload_n dX9_tear_51 rfl ?_
  refine ev_iload_n dX9_tear_52 rfl ?_
  refine ev_icmp_leN 60 dX9_tear_53 (by decide) (by omega) (by omega) (fun c53 => ?_) (fun c53 => absurd c53 (by omega))
  refine ev_iconstN 0 dX9_tear_60 (by decide) ?_
  refine ev_istoreS dX9_tear_61 (by decide) rfl ?_
  refine ev_iload dX9_tear_63 rfl ?_
  refine ev_if_eqN 73 dX9_tear_65 (by decide) (by omega) (fun c65 => ?_) (fun c65 => absurd c65 (by decide))
  refine ev_aload_n dX9_tear_73 rfl ?_
  refine ev_callV dX9_tear_74 okX9_crash inX9_crash seX9_crash mlX9_161 hM.m (by decide) rfl [] rfl rfl (Nat.le_of_ble_eq_true rfl) (Nat.le_of_ble_eq_true rfl) (sp_crash hM ((q3 595 11 (by omega)).trans ht) hb) (fun r_ G_ h_ => ?_)
  obtain ⟨rfl, rfl⟩ := h_
  try dsimp only [Option.toList, List.cons_append, List.nil_append]
  refine ev_istoreS dX9_tear_77 (by decide) rfl ?_
  refine ev_iload dX9_tear_79 rfl ?_
  refine ev_if_eqN 93 dX9_tear_81 (by decide) (by omega) (fun c81 => ?_) (fun c81 => absurd c81 (by decide))
  refine ev_iconstN 0 dX9_tear_93 (by decide) ?_
  refine ev_ireturn dX9_tear_94 rfl ?_
  exact ⟨rfl, I', A', rfl, q1, q2, q3⟩
theorem sp_tear_whole (hM : MFix K R Ln) {many la t ixn : Nat} {ie : Nat → EX} (hm : I 582 11 = nI many) (hcm : many ≤ 520) (hla : la + 1 < 2147483648) (hl : I 594 11 = nI la) (hix : I 577 11 = nI ixn) (hi3 : ixn ≤ 3) (hbe : A 26 t ≤ nI la) (hE : ∀ i, i < ixn → ExA A (8 + i) (ie i) ∧ TreeE (ie i)) (hn1 : ∀ k, k < 32 → ∃ nm, nm < 2147483648 ∧ rwV A (raN A (nI k) (nI la) many) 2 = nI nm) (hn2 : ∀ k, k < 32 → ∃ nm, nm < 2147483648 ∧ rfV A t k many 2 = nI nm) {tn : Nat} (ht : I 595 11 = nI tn) (hb : tn ≤ 60) (hj : t < tn) (hs : A 25 t = 1) {ky : Nat → Nat} (hky : ∀ e, e < many → A 18 e = nI (ky e) ∧ ky e < 32) {z : Nat} (hzb : z < 2147483648) (hz : (batA A t many la ie ixn 32).length < z) (hbt : anyN (btP A t ky) many = false) (hrd : allN (fun k => decide (A 27 (32 * t + k) = 0)) 32 = false) (hful : ¬ 500 < many + (batA A t many la ie ixn 32).length) : EvM X mX9_tear (d + 5) [rV (some 11), iV (nI t), iV (nI z)] (K, I, J, R, A, B, Ln, n, sl) (fun r G' => r = some (iV 1) ∧ ∃ I' A', G' = (K, u2 I' 594 11 (nI (la + 1)), J, R, crA (u2 A' 25 t 2) tn, B, Ln, n, sl) ∧ BatI A many la A' (batA A t many la ie ixn 32) ∧ I' 582 11 = nI (many + (batA A t many la ie ixn 32).length) ∧ ∀ f i, ¬ (f = 582 ∧ i = 11) → I' f i = I f i) := by
  have s1 := sp_beaten (X := X) (d := d + 4) (J := J) (B := B) (n := n) (sl := sl) hM hm hcm (show t < 60 by omega) hky
  rw [hbt] at s1
  have s2 := sp_reads (X := X) (d := d + 4) (I := I) (J := J) (A := A) (B := B) (n := n) (sl := sl) hM (show t < 60 by omega)
  rw [hrd] at s2
  have s3 := sp_batch (X := X) (d := d + 1) (J := J) (B := B) (n := n) (sl := sl) (put := false) hM hm hcm hla hl hix hi3 (by omega) hbe hE hn1 hn2 (fun z => by cases z)
  show Ev X mX9_tear (d + 5) 0 [some (rV (some 11)), some (iV (nI t)), some (iV (nI z)), none, none, none] [] (K, I, J, R, A, B, Ln, n, sl) _
  refine ev_aload_n dX9_tear_0 rfl ?_
  refine ev_iload_n dX9_tear_1 rfl ?_
  refine ev_callV dX9_tear_2 okX9_open inX9_open seX9_open mlX9_123 hM.m (by decide) rfl [iV _] rfl rfl (Nat.le_of_ble_eq_true rfl) (Nat.le_of_ble_eq_true rfl) (sp_open_yes hM ht hb hj hs) (fun r_ G_ h_ => ?_)
  obtain ⟨rfl, rfl⟩ := h_
  try dsimp only [Option.toList, List.cons_append, List.nil_append]
  refine ev_if_eq 28 dX9_tear_5 (by decide) (fun c5 => absurd c5 (by decide)) (fun c5 => ?_)
  refine ev_aload_n dX9_tear_8 rfl ?_
  refine ev_iload_n dX9_tear_9 rfl ?_
  refine ev_callV dX9_tear_10 okX9_reads inX9_reads seX9_reads mlX9_145 hM.m (by decide) rfl [iV _] rfl rfl (Nat.le_of_ble_eq_true rfl) (Nat.le_of_ble_eq_true rfl) (s2) (fun r_ G_ h_ => ?_)
  obtain ⟨rfl, rfl⟩ := h_
  try dsimp only [Option.toList, List.cons_append, List.nil_append]
  refine ev_if_ne 28 dX9_tear_13 (by decide) (fun c13 => absurd c13 (fun z => z rfl)) (fun c13 => ?_)
  refine ev_aload_n dX9_tear_16 rfl ?_
  refine ev_iload_n dX9_tear_17 rfl ?_
  refine ev_callV dX9_tear_18 okX9_beaten inX9_beaten seX9_beaten mlX9_142 hM.m (by decide) rfl [iV _] rfl rfl (Nat.le_of_ble_eq_true rfl) (Nat.le_of_ble_eq_true rfl) (s1) (fun r_ G_ h_ => ?_)
  obtain ⟨rfl, rfl⟩ := h_
  try dsimp only [Option.toList, List.cons_append, List.nil_append]
  refine ev_if_ne 28 dX9_tear_21 (by decide) (fun c21 => absurd c21 (fun z => z rfl)) (fun c21 => ?_)
  refine ev_iload_n dX9_tear_24 rfl ?_
  refine ev_if_geN 30 dX9_tear_25 (by decide) (by omega) ?_
  refine ev_aload_n dX9_tear_30 rfl ?_
  refine ev_iload_n dX9_tear_31 rfl ?_
  refine ev_iconstN 0 dX9_tear_32 (by decide) ?_
  refine ev_callV dX9_tear_33 okX9_batch inX9_batch seX9_batch mlX9_138 hM.m (by decide) rfl [iV _, iV _] rfl rfl (Nat.le_of_ble_eq_true rfl) (Nat.le_of_ble_eq_true rfl) (s3) (fun r_ G_ h_ => ?_)
  obtain ⟨rfl, I1, A1, rfl, q1, q2, q3⟩ := h_
  have q1 : BatI A many la A1 [] := q1
  have q2 : I1 582 11 = nI many := q2
  have hbc := q1.rfl_congr hla hbe ie ixn
  have hn1' : ∀ k, k < 32 → ∃ nm, nm < 2147483648 ∧ rwV A1 (raN A1 (nI k) (nI la) many) 2 = nI nm := fun k hk => by
    have hra : raN A1 (nI k) (nI la) many = raN A (nI k) (nI la) many := q1.ra hla (Int32.le_refl _)
    rw [hra, q1.rw (by decide)]
    exact hn1 k hk
  have hn2' : ∀ k, k < 32 → ∃ nm, nm < 2147483648 ∧ rfV A1 t k many 2 = nI nm := fun k hk => by
    have hrf : rfV A1 t k many 2 = rfV A t k many 2 := q1.rfv hla hbe (by decide)
    rw [hrf]
    exact hn2 k hk
  have s4 := sp_comes (X := X) (d := d) (J := J) (B := B) (n := n) (sl := sl) (I := I1) (A := A1) (many := many) (la := la) (t := t) (ixn := ixn) (ie := ie) hM q2 hcm hla ((q3 594 11 (by omega)).trans hl) ((q3 577 11 (by omega)).trans hix) hi3 (by rw [q1.1 26 (by decide)]; exact hbe) (fun i hi => ⟨(hE i hi).1.congr (q1.1 12 (by decide)) (q1.1 13 (by decide)) (q1.1 14 (by decide)), (hE i hi).2⟩) hn1' hn2' (by omega) (by rw [hbc]; omega)
  rw [hbc] at s4
  try dsimp only [Option.toList, List.cons_append, List.nil_append]
  refine ev_istore_nS dX9_tear_36 (by decide) rfl ?_
  refine ev_aload_n dX9_tear_37 rfl ?_
  refine ev_getIv dX9_tear_38 fX9_106 hM.m q2 ?_
  refine ev_iload_n dX9_tear_41 rfl ?_
  refine ev_iaddN dX9_tear_42 ?_
  refine ev_sipushN 500 dX9_tear_43 (by decide) ?_
  refine ev_icmp_leN 51 dX9_tear_46 (by decide) (by omega) (by omega) (fun c46 => ?_) (fun c46 => absurd c46 (by omega))
  refine ev_iload_n dX9_tear_51 rfl ?_
  refine ev_iload_n dX9_tear_52 rfl ?_
  refine ev_icmp_leN 60 dX9_tear_53 (by decide) (by omega) (by omega) (fun c53 => absurd c53 (by omega)) (fun c53 => ?_)
  refine ev_iconstN 1 dX9_tear_56 (by decide) ?_
  refine ev_goto 61 dX9_tear_57 (by decide) ?_
  refine ev_istoreS dX9_tear_61 (by decide) rfl ?_
  refine ev_iload dX9_tear_63 rfl ?_
  refine ev_if_eqN 73 dX9_tear_65 (by decide) (by omega) (fun c65 => absurd c65 (by decide)) (fun c65 => ?_)
  refine ev_aload_n dX9_tear_68 rfl ?_
  refine ev_iload_n dX9_tear_69 rfl ?_
  refine ev_callV dX9_tear_70 okX9_comes inX9_comes seX9_comes mlX9_148 hM.m (by decide) rfl [iV _] rfl rfl (Nat.le_of_ble_eq_true rfl) (Nat.le_of_ble_eq_true rfl) (s4) (fun r_ G_ h_ => ?_)
  obtain ⟨rfl, I2, A2, rfl, p1, p2, p3⟩ := h_
  have ht2 : u2 I2 594 11 (nI (la + 1)) 595 11 = nI tn := (u2_ne1 (by decide)).trans ((p3 595 11 (by omega)).trans ((q3 595 11 (by omega)).trans ht))
  have hcc : cnt (fun t_1 => decide (u2 A2 25 t 2 25 t_1 = 1)) tn ≤ tn := cnt_le _ _
  try dsimp only [Option.toList, List.cons_append, List.nil_append]
  refine ev_aload_n dX9_tear_73 rfl ?_
  refine ev_callV dX9_tear_74 okX9_crash inX9_crash seX9_crash mlX9_161 hM.m (by decide) rfl [] rfl rfl (Nat.le_of_ble_eq_true rfl) (Nat.le_of_ble_eq_true rfl) (sp_crash hM ht2 hb) (fun r_ G_ h_ => ?_)
  obtain ⟨rfl, rfl⟩ := h_
  try dsimp only [Option.toList, List.cons_append, List.nil_append]
  refine ev_istoreS dX9_tear_77 (by decide) rfl ?_
  refine ev_iload dX9_tear_79 rfl ?_
  refine ev_if_eqN 93 dX9_tear_81 (by decide) (by omega) (fun c81 => absurd c81 (by decide)) (fun c81 => ?_)
  refine ev_iload dX9_tear_84 rfl ?_
  refine ev_if_ltN 93 dX9_tear_86 (by decide) (by omega) ?_
  refine ev_iconstN 1 dX9_tear_89 (by decide) ?_
  refine ev_goto 94 dX9_tear_90 (by decide) ?_
  refine ev_ireturn dX9_tear_94 rfl ?_
  exact ⟨rfl, I2, A2, rfl, q1.trans p1, p2, fun f i hfi => (p3 f i hfi).trans (q3 f i hfi)⟩
end M33
