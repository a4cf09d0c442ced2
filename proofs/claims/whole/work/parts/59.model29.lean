section M29
variable {X : CX} {d : Nat} {K : Nat → Nat} {I : Nat → Nat → Int32} {J : Nat → Nat → Int64} {R : Nat → Nat → Option Nat} {A : Nat → Nat → Int32} {B : Nat → Nat → Option Nat} {Ln : Nat → Nat} {n sl : Nat}
set_option maxRecDepth 100000 in
set_option maxHeartbeats 4000000 in
theorem bt_1 {Q : Option LV → GH → Prop} (hM : MFix K R Ln) {A0 : Nat → Nat → Int32} {many la t k i c : Nat} {put : Bool} {em : List EE} {ie : EX} (hB : BatI A0 many la A em) (hla : la + 1 < 2147483648) (hl : I 594 11 = nI la) (hm : I 582 11 = nI (many + em.length)) (hbm : many + em.length ≤ 520) (ht : t < 60) (hk : k < 32) (hi : i < 3) (hbe : A0 26 t ≤ nI la) (hE : ExA A0 (8 + i) ie) (hT : TreeE ie) (hn1 : ∃ nm, nm < 2147483648 ∧ rwV A0 (raN A0 (nI k) (nI la) many) 2 = nI nm) (hn2 : ∃ nm, nm < 2147483648 ∧ rfV A0 t k many 2 = nI nm) {w5 w7 w8 w9 w10 w11 w12 : Option LV}
    (kont : ∀ A', BatI A0 many la A' em → (∀ f, f < 3 → A' 29 f = rfV A0 t k many f) → Ev X mX9_batch (d + 3) 89 [some (rV (some 11)), some (iV (nI t)), some (iV (bZ put)), some (iV (nI c)), some (iV (nI k)), w5, some (iV (nI i)), some (iV (bZ (raN A0 (nI k) (nI la) many).isSome)), some (iV (vlE (rwV A0 (raN A0 (nI k) (nI la) many)) ie)), some (iV (bZ (rfO A0 t k many))), some (iV (vlE (rfV A0 t k many) ie)), w11, w12] [] (K, I, J, R, A', B, Ln, n, sl) Q) : Ev X mX9_batch (d + 3) 46 [some (rV (some 11)), some (iV (nI t)), some (iV (bZ put)), some (iV (nI c)), some (iV (nI k)), w5, some (iV (nI i)), w7, w8, w9, w10, w11, w12] [] (K, I, J, R, A, B, Ln, n, sl) Q := by
  obtain ⟨nm1, hb1, hnm1⟩ := hn1
  obtain ⟨nm2, hb2, hnm2⟩ := hn2
  have s1 := sp_rowAt (X := X) (d := d + 1) (J := J) (A := A) (B := B) (n := n) (sl := sl) (k := nI k) (t := nI la) hM hm hbm
  rw [hB.ra hla (Int32.le_refl _)] at s1
  refine ev_aload_n dX9_batch_46 rfl ?_
  refine ev_iload dX9_batch_47 rfl ?_
  refine ev_aload_n dX9_batch_49 rfl ?_
  refine ev_getIv dX9_batch_50 fX9_103 hM.m hl ?_
  refine ev_callV dX9_batch_53 okX9_rowAt inX9_rowAt seX9_rowAt mlX9_113 hM.m (by decide) rfl [iV _, iV _] rfl rfl (Nat.le_of_ble_eq_true rfl) (Nat.le_of_ble_eq_true rfl) (s1) (fun r_ G_ h_ => ?_)
  obtain ⟨A1, rfl, rfl, a1, a1r⟩ := h_
  have hB1 : BatI A0 many la A1 em := hB.row (fun i hi => a1 i (fun z => hi (by rw [z]; decide)))
  have r1 : ∀ f, f < 3 → A1 29 f = rwV A0 (raN A0 (nI k) (nI la) many) f := fun f hf => (a1r f hf).trans (hB.rw hf)
  have e1 : ExA A1 (8 + i) ie := hE.congr (hB1.1 12 (by decide)) (hB1.1 13 (by decide)) (hB1.1 14 (by decide))
  try dsimp only [Option.toList, List.cons_append, List.nil_append]
  refine ev_istoreS dX9_batch_56 (by decide) rfl ?_
  refine ev_aload_n dX9_batch_58 rfl ?_
  refine ev_bipushN 8 dX9_batch_59 (by decide) ?_
  refine ev_iload dX9_batch_61 rfl ?_
  refine ev_iaddN dX9_batch_63 ?_
  refine ev_callV dX9_batch_64 okX9_value inX9_value seX9_value mlX9_132 hM.m (by decide) rfl [iV _] rfl rfl (Nat.le_of_ble_eq_true rfl) (Nat.le_of_ble_eq_true rfl) (sp_value (d := d + 1) hM (by omega) e1 hT.1 hT.2 ((r1 2 (by decide)).trans hnm1) hb1) (fun r_ G_ h_ => ?_)
  obtain ⟨A2, rfl, rfl, a2⟩ := h_
  have hB2 : BatI A0 many la A2 em := hB1.row (fun i hi => a2 i (fun z => hi (by rw [z]; decide)))
  rw [show (evE (A1 29) ie []).headD 0 = vlE (rwV A0 (raN A0 (nI k) (nI la) many)) ie by unfold vlE; rw [evE_congr r1]]
  have s3 := sp_rowFor (X := X) (d := d) (J := J) (A := A2) (B := B) (n := n) (sl := sl) hM hm hbm ht hk
  rw [hB2.rfo hla hbe] at s3
  try dsimp only [Option.toList, List.cons_append, List.nil_append]
  refine ev_istoreS dX9_batch_67 (by decide) rfl ?_
  refine ev_aload_n dX9_batch_69 rfl ?_
  refine ev_iload_n dX9_batch_70 rfl ?_
  refine ev_iload dX9_batch_71 rfl ?_
  refine ev_callV dX9_batch_73 okX9_rowFor inX9_rowFor seX9_rowFor mlX9_129 hM.m (by decide) rfl [iV _, iV _] rfl rfl (Nat.le_of_ble_eq_true rfl) (Nat.le_of_ble_eq_true rfl) (s3) (fun r_ G_ h_ => ?_)
  obtain ⟨A3, rfl, rfl, a3, a3r⟩ := h_
  have hB3 : BatI A0 many la A3 em := hB2.row (fun i hi => a3 i (fun z => hi (by rw [z]; decide)))
  have r3 : ∀ f, f < 3 → A3 29 f = rfV A0 t k many f := fun f hf => (a3r f hf).trans (hB2.rfv hla hbe hf)
  have e3 : ExA A3 (8 + i) ie := hE.congr (hB3.1 12 (by decide)) (hB3.1 13 (by decide)) (hB3.1 14 (by decide))
  try dsimp only [Option.toList, List.cons_append, List.nil_append]
  refine ev_istoreS dX9_batch_76 (by decide) rfl ?_
  refine ev_aload_n dX9_batch_78 rfl ?_
  refine ev_bipushN 8 dX9_batch_79 (by decide) ?_
  refine ev_iload dX9_batch_81 rfl ?_
  refine ev_iaddN dX9_batch_83 ?_
  refine ev_callV dX9_batch_84 okX9_value inX9_value seX9_value mlX9_132 hM.m (by decide) rfl [iV _] rfl rfl (Nat.le_of_ble_eq_true rfl) (Nat.le_of_ble_eq_true rfl) (sp_value (d := d + 1) hM (by omega) e3 hT.1 hT.2 ((r3 2 (by decide)).trans hnm2) hb2) (fun r_ G_ h_ => ?_)
  obtain ⟨A4, rfl, rfl, a4⟩ := h_
  have hB4 : BatI A0 many la A4 em := hB3.row (fun i hi => a4 i (fun z => hi (by rw [z]; decide)))
  rw [show (evE (A3 29) ie []).headD 0 = vlE (rfV A0 t k many) ie by unfold vlE; rw [evE_congr r3]]
  have kk := kont A4 hB4 (fun f hf => by rw [a4 29 (by decide)]; exact r3 f hf)
  try dsimp only [Option.toList, List.cons_append, List.nil_append]
  refine ev_istoreS dX9_batch_87 (by decide) rfl ?_
  exact kk
set_option maxRecDepth 100000 in
set_option maxHeartbeats 4000000 in
theorem bt_2 {Q : Option LV → GH → Prop} (hM : MFix K R Ln) {t k i c : Nat} {put had has : Bool} {old now : Int32} {w5 w11 w12 : Option LV} (kont : Ev X mX9_batch d 137 [some (rV (some 11)), some (iV (nI t)), some (iV (bZ put)), some (iV (nI c)), some (iV (nI k)), w5, some (iV (nI i)), some (iV (bZ had)), some (iV old), some (iV (bZ has)), some (iV now), some (iV (bZ (goneB had has old now))), some (iV (bZ (goneB has had old now)))] [] (K, I, J, R, A, B, Ln, n, sl) Q) : Ev X mX9_batch d 89 [some (rV (some 11)), some (iV (nI t)), some (iV (bZ put)), some (iV (nI c)), some (iV (nI k)), w5, some (iV (nI i)), some (iV (bZ had)), some (iV old), some (iV (bZ has)), some (iV now), w11, w12] [] (K, I, J, R, A, B, Ln, n, sl) Q := by
  cases had <;> cases has
  · show Ev X mX9_batch d 89 [some (rV (some 11)), some (iV (nI t)), some (iV (bZ put)), some (iV (nI c)), some (iV (nI k)), w5, some (iV (nI i)), some (iV (nI 0)), some (iV old), some (iV (nI 0)), some (iV now), w11, w12] [] (K, I, J, R, A, B, Ln, n, sl) Q
    refine ev_iload dX9_batch_89 rfl ?_
    refine ev_if_eqN 110 dX9_batch_91 (by decide) (by omega) (fun c91 => ?_) (fun c91 => absurd c91 (by decide))
    refine ev_iconstN 0 dX9_batch_110 (by decide) ?_
    refine ev_istoreS dX9_batch_111 (by decide) rfl ?_
    refine ev_iload dX9_batch_113 rfl ?_
    refine ev_if_eqN 134 dX9_batch_115 (by decide) (by omega) (fun c115 => ?_) (fun c115 => absurd c115 (by decide))
    refine ev_iconstN 0 dX9_batch_134 (by decide) ?_
    refine ev_istoreS dX9_batch_135 (by decide) rfl ?_
    first | exact kont | (rw [show goneB true true old now = true from by simp [goneB, *]] at kont; exact kont) | (rw [show goneB true true old now = false from by simp [goneB, *]] at kont; exact kont) | exact absurd c103 c127 | exact absurd c127 c103
  · show Ev X mX9_batch d 89 [some (rV (some 11)), some (iV (nI t)), some (iV (bZ put)), some (iV (nI c)), some (iV (nI k)), w5, some (iV (nI i)), some (iV (nI 0)), some (iV old), some (iV (nI 1)), some (iV now), w11, w12] [] (K, I, J, R, A, B, Ln, n, sl) Q
    refine ev_iload dX9_batch_89 rfl ?_
    refine ev_if_eqN 110 dX9_batch_91 (by decide) (by omega) (fun c91 => ?_) (fun c91 => absurd c91 (by decide))
    refine ev_iconstN 0 dX9_batch_110 (by decide) ?_
    refine ev_istoreS dX9_batch_111 (by decide) rfl ?_
    refine ev_iload dX9_batch_113 rfl ?_
    refine ev_if_eqN 134 dX9_batch_115 (by decide) (by omega) (fun c115 => absurd c115 (by decide)) (fun c115 => ?_)
    refine ev_iload dX9_batch_118 rfl ?_
    refine ev_if_eqN 130 dX9_batch_120 (by decide) (by omega) (fun c120 => ?_) (fun c120 => absurd c120 (by decide))
    refine ev_iconstN 1 dX9_batch_130 (by decide) ?_
    refine ev_goto 135 dX9_batch_131 (by decide) ?_
    refine ev_istoreS dX9_batch_135 (by decide) rfl ?_
    first | exact kont | (rw [show goneB true true old now = true from by simp [goneB, *]] at kont; exact kont) | (rw [show goneB true true old now = false from by simp [goneB, *]] at kont; exact kont) | exact absurd c103 c127 | exact absurd c127 c103
  · show Ev X mX9_batch d 89 [some (rV (some 11)), some (iV (nI t)), some (iV (bZ put)), some (iV (nI c)), some (iV (nI k)), w5, some (iV (nI i)), some (iV (nI 1)), some (iV old), some (iV (nI 0)), some (iV now), w11, w12] [] (K, I, J, R, A, B, Ln, n, sl) Q
    refine ev_iload dX9_batch_89 rfl ?_
    refine ev_if_eqN 110 dX9_batch_91 (by decide) (by omega) (fun c91 => absurd c91 (by decide)) (fun c91 => ?_)
    refine ev_iload dX9_batch_94 rfl ?_
    refine ev_if_eqN 106 dX9_batch_96 (by decide) (by omega) (fun c96 => ?_) (fun c96 => absurd c96 (by decide))
    refine ev_iconstN 1 dX9_batch_106 (by decide) ?_
    refine ev_goto 111 dX9_batch_107 (by decide) ?_
    refine ev_istoreS dX9_batch_111 (by decide) rfl ?_
    refine ev_iload dX9_batch_113 rfl ?_
    refine ev_if_eqN 134 dX9_batch_115 (by decide) (by omega) (fun c115 => ?_) (fun c115 => absurd c115 (by decide))
    refine ev_iconstN 0 dX9_batch_134 (by decide) ?_
    refine ev_istoreS dX9_batch_135 (by decide) rfl ?_
    first | exact kont | (rw [show goneB true true old now = true from by simp [goneB, *]] at kont; exact kont) | (rw [show goneB true true old now = false from by simp [goneB, *]] at kont; exact kont) | exact absurd c103 c127 | exact absurd c127 c103
  · show Ev X mX9_batch d 89 [some (rV (some 11)), some (iV (nI t)), some (iV (bZ put)), some (iV (nI c)), some (iV (nI k)), w5, some (iV (nI i)), some (iV (nI 1)), some (iV old), some (iV (nI 1)), some (iV now), w11, w12] [] (K, I, J, R, A, B, Ln, n, sl) Q
    refine ev_iload dX9_batch_89 rfl ?_
    refine ev_if_eqN 110 dX9_batch_91 (by decide) (by omega) (fun c91 => absurd c91 (by decide)) (fun c91 => ?_)
    refine ev_iload dX9_batch_94 rfl ?_
    refine ev_if_eqN 106 dX9_batch_96 (by decide) (by omega) (fun c96 => absurd c96 (by decide)) (fun c96 => ?_)
    refine ev_iload dX9_batch_99 rfl ?_
    refine ev_iload dX9_batch_101 rfl ?_
    refine ev_icmp_eq 110 dX9_batch_103 (by decide) (fun c103 => ?_) (fun c103 => ?_)
    · refine ev_iconstN 0 dX9_batch_110 (by decide) ?_
      refine ev_istoreS dX9_batch_111 (by decide) rfl ?_
      refine ev_iload dX9_batch_113 rfl ?_
      refine ev_if_eqN 134 dX9_batch_115 (by decide) (by omega) (fun c115 => absurd c115 (by decide)) (fun c115 => ?_)
      refine ev_iload dX9_batch_118 rfl ?_
      refine ev_if_eqN 130 dX9_batch_120 (by decide) (by omega) (fun c120 => absurd c120 (by decide)) (fun c120 => ?_)
      refine ev_iload dX9_batch_123 rfl ?_
      refine ev_iload dX9_batch_125 rfl ?_
      refine ev_icmp_eq 134 dX9_batch_127 (by decide) (fun c127 => ?_) (fun c127 => ?_)
      · refine ev_iconstN 0 dX9_batch_134 (by decide) ?_
        refine ev_istoreS dX9_batch_135 (by decide) rfl ?_
        first | exact kont | (rw [show goneB true true old now = true from by simp [goneB, *]] at kont; exact kont) | (rw [show goneB true true old now = false from by simp [goneB, *]] at kont; exact kont) | exact absurd c103 c127 | exact absurd c127 c103
      · refine ev_iconstN 1 dX9_batch_130 (by decide) ?_
        refine ev_goto 135 dX9_batch_131 (by decide) ?_
        refine ev_istoreS dX9_batch_135 (by decide) rfl ?_
        first | exact kont | (rw [show goneB true true old now = true from by simp [goneB, *]] at kont; exact kont) | (rw [show goneB true true old now = false from by simp [goneB, *]] at kont; exact kont) | exact absurd c103 c127 | exact absurd c127 c103
    · refine ev_iconstN 1 dX9_batch_106 (by decide) ?_
      refine ev_goto 111 dX9_batch_107 (by decide) ?_
      refine ev_istoreS dX9_batch_111 (by decide) rfl ?_
      refine ev_iload dX9_batch_113 rfl ?_
      refine ev_if_eqN 134 dX9_batch_115 (by decide) (by omega) (fun c115 => absurd c115 (by decide)) (fun c115 => ?_)
      refine ev_iload dX9_batch_118 rfl ?_
      refine ev_if_eqN 130 dX9_batch_120 (by decide) (by omega) (fun c120 => absurd c120 (by decide)) (fun c120 => ?_)
      refine ev_iload dX9_batch_123 rfl ?_
      refine ev_iload dX9_batch_125 rfl ?_
      refine ev_icmp_eq 134 dX9_batch_127 (by decide) (fun c127 => ?_) (fun c127 => ?_)
      · refine ev_iconstN 0 dX9_batch_134 (by decide) ?_
        refine ev_istoreS dX9_batch_135 (by decide) rfl ?_
        first | exact kont | (rw [show goneB true true old now = true from by simp [goneB, *]] at kont; exact kont) | (rw [show goneB true true old now = false from by simp [goneB, *]] at kont; exact kont) | exact absurd c103 c127 | exact absurd c127 c103
      · refine ev_iconstN 1 dX9_batch_130 (by decide) ?_
        refine ev_goto 135 dX9_batch_131 (by decide) ?_
        refine ev_istoreS dX9_batch_135 (by decide) rfl ?_
        first | exact kont | (rw [show goneB true true old now = true from by simp [goneB, *]] at kont; exact kont) | (rw [show goneB true true old now = false from by simp [goneB, *]] at kont; exact kont) | exact absurd c103 c127 | exact absurd c127 c103
set_option maxRecDepth 100000 in
set_option maxHeartbeats 4000000 in
theorem bt_3 {Q : Option LV → GH → Prop} (hM : MFix K R Ln) {t k i c : Nat} {put g h : Bool} {w5 w7 w8 w9 w10 : Option LV} (kont : Ev X mX9_batch d 161 [some (rV (some 11)), some (iV (nI t)), some (iV (bZ put)), some (iV (nI (c + ((if g = true then 1 else 0) + (if h = true then 1 else 0))))), some (iV (nI k)), w5, some (iV (nI i)), w7, w8, w9, w10, some (iV (bZ g)), some (iV (bZ h))] [] (K, I, J, R, A, B, Ln, n, sl) Q) : Ev X mX9_batch d 137 [some (rV (some 11)), some (iV (nI t)), some (iV (bZ put)), some (iV (nI c)), some (iV (nI k)), w5, some (iV (nI i)), w7, w8, w9, w10, some (iV (bZ g)), some (iV (bZ h))] [] (K, I, J, R, A, B, Ln, n, sl) Q := by
  cases g <;> cases h
  · show Ev X mX9_batch d 137 [some (rV (some 11)), some (iV (nI t)), some (iV (bZ put)), some (iV (nI c)), some (iV (nI k)), w5, some (iV (nI i)), w7, w8, w9, w10, some (iV (nI 0)), some (iV (nI 0))] [] (K, I, J, R, A, B, Ln, n, sl) Q
    refine ev_iload_n dX9_batch_137 rfl ?_
    refine ev_iload dX9_batch_138 rfl ?_
    refine ev_if_eqN 147 dX9_batch_140 (by decide) (by omega) (fun c140 => ?_) (fun c140 => absurd c140 (by decide))
    refine ev_iconstN 0 dX9_batch_147 (by decide) ?_
    refine ev_iload dX9_batch_148 rfl ?_
    refine ev_if_eqN 157 dX9_batch_150 (by decide) (by omega) (fun c150 => ?_) (fun c150 => absurd c150 (by decide))
    refine ev_iconstN 0 dX9_batch_157 (by decide) ?_
    refine ev_iaddN dX9_batch_158 ?_
    refine ev_iaddN dX9_batch_159 ?_
    refine ev_istore_nS dX9_batch_160 (by decide) rfl ?_
    exact kont
  · show Ev X mX9_batch d 137 [some (rV (some 11)), some (iV (nI t)), some (iV (bZ put)), some (iV (nI c)), some (iV (nI k)), w5, some (iV (nI i)), w7, w8, w9, w10, some (iV (nI 0)), some (iV (nI 1))] [] (K, I, J, R, A, B, Ln, n, sl) Q
    refine ev_iload_n dX9_batch_137 rfl ?_
    refine ev_iload dX9_batch_138 rfl ?_
    refine ev_if_eqN 147 dX9_batch_140 (by decide) (by omega) (fun c140 => ?_) (fun c140 => absurd c140 (by decide))
    refine ev_iconstN 0 dX9_batch_147 (by decide) ?_
    refine ev_iload dX9_batch_148 rfl ?_
    refine ev_if_eqN 157 dX9_batch_150 (by decide) (by omega) (fun c150 => absurd c150 (by decide)) (fun c150 => ?_)
    refine ev_iconstN 1 dX9_batch_153 (by decide) ?_
    refine ev_goto 158 dX9_batch_154 (by decide) ?_
    refine ev_iaddN dX9_batch_158 ?_
    refine ev_iaddN dX9_batch_159 ?_
    refine ev_istore_nS dX9_batch_160 (by decide) rfl ?_
    exact kont
  · show Ev X mX9_batch d 137 [some (rV (some 11)), some (iV (nI t)), some (iV (bZ put)), some (iV (nI c)), some (iV (nI k)), w5, some (iV (nI i)), w7, w8, w9, w10, some (iV (nI 1)), some (iV (nI 0))] [] (K, I, J, R, A, B, Ln, n, sl) Q
    refine ev_iload_n dX9_batch_137 rfl ?_
    refine ev_iload dX9_batch_138 rfl ?_
    refine ev_if_eqN 147 dX9_batch_140 (by decide) (by omega) (fun c140 => absurd c140 (by decide)) (fun c140 => ?_)
    refine ev_iconstN 1 dX9_batch_143 (by decide) ?_
    refine ev_goto 148 dX9_batch_144 (by decide) ?_
    refine ev_iload dX9_batch_148 rfl ?_
    refine ev_if_eqN 157 dX9_batch_150 (by decide) (by omega) (fun c150 => ?_) (fun c150 => absurd c150 (by decide))
    refine ev_iconstN 0 dX9_batch_157 (by decide) ?_
    refine ev_iaddN dX9_batch_158 ?_
    refine ev_iaddN dX9_batch_159 ?_
    refine ev_istore_nS dX9_batch_160 (by decide) rfl ?_
    exact kont
  · show Ev X mX9_batch d 137 [some (rV (some 11)), some (iV (nI t)), some (iV (bZ put)), some (iV (nI c)), some (iV (nI k)), w5, some (iV (nI i)), w7, w8, w9, w10, some (iV (nI 1)), some (iV (nI 1))] [] (K, I, J, R, A, B, Ln, n, sl) Q
    refine ev_iload_n dX9_batch_137 rfl ?_
    refine ev_iload dX9_batch_138 rfl ?_
    refine ev_if_eqN 147 dX9_batch_140 (by decide) (by omega) (fun c140 => absurd c140 (by decide)) (fun c140 => ?_)
    refine ev_iconstN 1 dX9_batch_143 (by decide) ?_
    refine ev_goto 148 dX9_batch_144 (by decide) ?_
    refine ev_iload dX9_batch_148 rfl ?_
    refine ev_if_eqN 157 dX9_batch_150 (by decide) (by omega) (fun c150 => absurd c150 (by decide)) (fun c150 => ?_)
    refine ev_iconstN 1 dX9_batch_153 (by decide) ?_
    refine ev_goto 158 dX9_batch_154 (by decide) ?_
    refine ev_iaddN dX9_batch_158 ?_
    refine ev_iaddN dX9_batch_159 ?_
    refine ev_istore_nS dX9_batch_160 (by decide) rfl ?_
    exact kont
set_option maxRecDepth 100000 in
set_option maxHeartbeats 4000000 in
theorem bt_4 {Q : Option LV → GH → Prop} (hM : MFix K R Ln) {A0 : Nat → Nat → Int32} {many la t k i c : Nat} {put g : Bool} {em : List EE} {v : Int32} {rr : Nat → Int32} (hB : BatI A0 many la A em) (hl : I 594 11 = nI la) (hm : I 582 11 = nI (many + em.length)) (hbm : put = true → g = true → many + em.length < 520) (hr : ∀ f, f < 3 → A 29 f = rr f) {w5 w7 w8 w9 w10 w11 w12 : Option LV}
    (kont : ∀ I' A', BatI A0 many la A' (em ++ emP put (if g = true then [mkE la rr (nI (i + 1), v, nI k, 0)] else [])) → (∀ f, f < 3 → A' 29 f = rr f) → I' 582 11 = nI (many + (em ++ emP put (if g = true then [mkE la rr (nI (i + 1), v, nI k, 0)] else [])).length) → (∀ f i, ¬ (f = 582 ∧ i = 11) → I' f i = I f i) → Ev X mX9_batch (d + 1) 183 [some (rV (some 11)), some (iV (nI t)), some (iV (bZ put)), some (iV (nI c)), some (iV (nI k)), w5, some (iV (nI i)), w7, some (iV v), w9, w10, some (iV (bZ g)), w12] [] (K, I', J, R, A', B, Ln, n, sl) Q) : Ev X mX9_batch (d + 1) 161 [some (rV (some 11)), some (iV (nI t)), some (iV (bZ put)), some (iV (nI c)), some (iV (nI k)), w5, some (iV (nI i)), w7, some (iV v), w9, w10, some (iV (bZ g)), w12] [] (K, I, J, R, A, B, Ln, n, sl) Q := by
  cases put <;> cases g
  · show Ev X mX9_batch (d + 1) 161 [some (rV (some 11)), some (iV (nI t)), some (iV (nI 0)), some (iV (nI c)), some (iV (nI k)), w5, some (iV (nI i)), w7, some (iV v), w9, w10, some (iV (nI 0)), w12] [] (K, I, J, R, A, B, Ln, n, sl) Q
    refine ev_iload_n dX9_batch_161 rfl ?_
    refine ev_if_eqN 183 dX9_batch_162 (by decide) (by omega) (fun c162 => ?_) (fun c162 => absurd c162 (by decide))
    exact kont I A (by simp [emP]; exact hB) hr (by simp [emP]; exact hm) (fun _ _ _ => rfl)
  · show Ev X mX9_batch (d + 1) 161 [some (rV (some 11)), some (iV (nI t)), some (iV (nI 0)), some (iV (nI c)), some (iV (nI k)), w5, some (iV (nI i)), w7, some (iV v), w9, w10, some (iV (nI 1)), w12] [] (K, I, J, R, A, B, Ln, n, sl) Q
    refine ev_iload_n dX9_batch_161 rfl ?_
    refine ev_if_eqN 183 dX9_batch_162 (by decide) (by omega) (fun c162 => ?_) (fun c162 => absurd c162 (by decide))
    exact kont I A (by simp [emP]; exact hB) hr (by simp [emP]; exact hm) (fun _ _ _ => rfl)
  · show Ev X mX9_batch (d + 1) 161 [some (rV (some 11)), some (iV (nI t)), some (iV (nI 1)), some (iV (nI c)), some (iV (nI k)), w5, some (iV (nI i)), w7, some (iV v), w9, w10, some (iV (nI 0)), w12] [] (K, I, J, R, A, B, Ln, n, sl) Q
    refine ev_iload_n dX9_batch_161 rfl ?_
    refine ev_if_eqN 183 dX9_batch_162 (by decide) (by omega) (fun c162 => absurd c162 (by decide)) (fun c162 => ?_)
    refine ev_iload dX9_batch_165 rfl ?_
    refine ev_if_eqN 183 dX9_batch_167 (by decide) (by omega) (fun c167 => ?_) (fun c167 => absurd c167 (by decide))
    exact kont I A (by simp [emP]; exact hB) hr (by simp [emP]; exact hm) (fun _ _ _ => rfl)
  · show Ev X mX9_batch (d + 1) 161 [some (rV (some 11)), some (iV (nI t)), some (iV (nI 1)), some (iV (nI c)), some (iV (nI k)), w5, some (iV (nI i)), w7, some (iV v), w9, w10, some (iV (nI 1)), w12] [] (K, I, J, R, A, B, Ln, n, sl) Q
    refine ev_iload_n dX9_batch_161 rfl ?_
    refine ev_if_eqN 183 dX9_batch_162 (by decide) (by omega) (fun c162 => absurd c162 (by decide)) (fun c162 => ?_)
    refine ev_iload dX9_batch_165 rfl ?_
    refine ev_if_eqN 183 dX9_batch_167 (by decide) (by omega) (fun c167 => absurd c167 (by decide)) (fun c167 => ?_)
    refine ev_aload_n dX9_batch_170 rfl ?_
    refine ev_iload dX9_batch_171 rfl ?_
    refine ev_iconstN 1 dX9_batch_173 (by decide) ?_
    refine ev_iaddN dX9_batch_174 ?_
    refine ev_iload dX9_batch_175 rfl ?_
    refine ev_iload dX9_batch_177 rfl ?_
    refine ev_iconstN 0 dX9_batch_179 (by decide) ?_
    refine ev_callV dX9_batch_180 okX9_entry inX9_entry seX9_entry mlX9_134 hM.m (by decide) rfl [iV _, iV _, iV _, iV _] rfl rfl (Nat.le_of_ble_eq_true rfl) (Nat.le_of_ble_eq_true rfl) (sp_entry (la := la) hM hm (hbm rfl rfl) hl (by first | exact Or.inl rfl | exact Or.inr rfl)) (fun r_ G_ h_ => ?_)
    obtain ⟨rfl, A1, rfl, q1, q2, q3⟩ := h_
    try dsimp only [Option.toList, List.cons_append, List.nil_append]
    exact kont _ A1 (hB.add q1 q2 (q3.trans (by unfold mkE; rw [hr 0 (by decide), hr 1 (by decide), hr 2 (by decide)]; rfl)) rfl) (fun f hf => by rw [q1 29 (by decide)]; exact hr f hf) (by rw [u2_self]; simp [emP, Nat.add_assoc]) (fun f i hfi => if_neg hfi)
set_option maxRecDepth 100000 in
set_option maxHeartbeats 4000000 in
theorem bt_5 {Q : Option LV → GH → Prop} (hM : MFix K R Ln) {A0 : Nat → Nat → Int32} {many la t k i c : Nat} {put g : Bool} {em : List EE} {v : Int32} {rr : Nat → Int32} (hB : BatI A0 many la A em) (hl : I 594 11 = nI la) (hm : I 582 11 = nI (many + em.length)) (hbm : put = true → g = true → many + em.length < 520) (hr : ∀ f, f < 3 → A 29 f = rr f) {w5 w7 w8 w9 w10 w11 w12 : Option LV}
    (kont : ∀ I' A', BatI A0 many la A' (em ++ emP put (if g = true then [mkE la rr (nI (i + 1), v, nI k, 1)] else [])) → (∀ f, f < 3 → A' 29 f = rr f) → I' 582 11 = nI (many + (em ++ emP put (if g = true then [mkE la rr (nI (i + 1), v, nI k, 1)] else [])).length) → (∀ f i, ¬ (f = 582 ∧ i = 11) → I' f i = I f i) → Ev X mX9_batch (d + 1) 205 [some (rV (some 11)), some (iV (nI t)), some (iV (bZ put)), some (iV (nI c)), some (iV (nI k)), w5, some (iV (nI i)), w7, w8, w9, some (iV v), w11, some (iV (bZ g))] [] (K, I', J, R, A', B, Ln, n, sl) Q) : Ev X mX9_batch (d + 1) 183 [some (rV (some 11)), some (iV (nI t)), some (iV (bZ put)), some (iV (nI c)), some (iV (nI k)), w5, some (iV (nI i)), w7, w8, w9, some (iV v), w11, some (iV (bZ g))] [] (K, I, J, R, A, B, Ln, n, sl) Q := by
  cases put <;> cases g
  · show Ev X mX9_batch (d + 1) 183 [some (rV (some 11)), some (iV (nI t)), some (iV (nI 0)), some (iV (nI c)), some (iV (nI k)), w5, some (iV (nI i)), w7, w8, w9, some (iV v), w11, some (iV (nI 0))] [] (K, I, J, R, A, B, Ln, n, sl) Q
    refine ev_iload_n dX9_batch_183 rfl ?_
    refine ev_if_eqN 205 dX9_batch_184 (by decide) (by omega) (fun c184 => ?_) (fun c184 => absurd c184 (by decide))
    exact kont I A (by simp [emP]; exact hB) hr (by simp [emP]; exact hm) (fun _ _ _ => rfl)
  · show Ev X mX9_batch (d + 1) 183 [some (rV (some 11)), some (iV (nI t)), some (iV (nI 0)), some (iV (nI c)), some (iV (nI k)), w5, some (iV (nI i)), w7, w8, w9, some (iV v), w11, some (iV (nI 1))] [] (K, I, J, R, A, B, Ln, n, sl) Q
    refine ev_iload_n dX9_batch_183 rfl ?_
    refine ev_if_eqN 205 dX9_batch_184 (by decide) (by omega) (fun c184 => ?_) (fun c184 => absurd c184 (by decide))
    exact kont I A (by simp [emP]; exact hB) hr (by simp [emP]; exact hm) (fun _ _ _ => rfl)
  · show Ev X mX9_batch (d + 1) 183 [some (rV (some 11)), some (iV (nI t)), some (iV (nI 1)), some (iV (nI c)), some (iV (nI k)), w5, some (iV (nI i)), w7, w8, w9, some (iV v), w11, some (iV (nI 0))] [] (K, I, J, R, A, B, Ln, n, sl) Q
    refine ev_iload_n dX9_batch_183 rfl ?_
    refine ev_if_eqN 205 dX9_batch_184 (by decide) (by omega) (fun c184 => absurd c184 (by decide)) (fun c184 => ?_)
    refine ev_iload dX9_batch_187 rfl ?_
    refine ev_if_eqN 205 dX9_batch_189 (by decide) (by omega) (fun c189 => ?_) (fun c189 => absurd c189 (by decide))
    exact kont I A (by simp [emP]; exact hB) hr (by simp [emP]; exact hm) (fun _ _ _ => rfl)
  · show Ev X mX9_batch (d + 1) 183 [some (rV (some 11)), some (iV (nI t)), some (iV (nI 1)), some (iV (nI c)), some (iV (nI k)), w5, some (iV (nI i)), w7, w8, w9, some (iV v), w11, some (iV (nI 1))] [] (K, I, J, R, A, B, Ln, n, sl) Q
    refine ev_iload_n dX9_batch_183 rfl ?_
    refine ev_if_eqN 205 dX9_batch_184 (by decide) (by omega) (fun c184 => absurd c184 (by decide)) (fun c184 => ?_)
    refine ev_iload dX9_batch_187 rfl ?_
    refine ev_if_eqN 205 dX9_batch_189 (by decide) (by omega) (fun c189 => absurd c189 (by decide)) (fun c189 => ?_)
    refine ev_aload_n dX9_batch_192 rfl ?_
    refine ev_iload dX9_batch_193 rfl ?_
    refine ev_iconstN 1 dX9_batch_195 (by decide) ?_
    refine ev_iaddN dX9_batch_196 ?_
    refine ev_iload dX9_batch_197 rfl ?_
    refine ev_iload dX9_batch_199 rfl ?_
    refine ev_iconstN 1 dX9_batch_201 (by decide) ?_
    refine ev_callV dX9_batch_202 okX9_entry inX9_entry seX9_entry mlX9_134 hM.m (by decide) rfl [iV _, iV _, iV _, iV _] rfl rfl (Nat.le_of_ble_eq_true rfl) (Nat.le_of_ble_eq_true rfl) (sp_entry (la := la) hM hm (hbm rfl rfl) hl (by first | exact Or.inl rfl | exact Or.inr rfl)) (fun r_ G_ h_ => ?_)
    obtain ⟨rfl, A1, rfl, q1, q2, q3⟩ := h_
    try dsimp only [Option.toList, List.cons_append, List.nil_append]
    exact kont _ A1 (hB.add q1 q2 (q3.trans (by unfold mkE; rw [hr 0 (by decide), hr 1 (by decide), hr 2 (by decide)]; rfl)) rfl) (fun f hf => by rw [q1 29 (by decide)]; exact hr f hf) (by rw [u2_self]; simp [emP, Nat.add_assoc]) (fun f i hfi => if_neg hfi)
end M29
