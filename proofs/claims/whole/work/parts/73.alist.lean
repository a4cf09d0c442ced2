theorem ge_l : Cond.fieldLink RJx4a65c 39 "java/util/ArrayList" "DEFAULTCAPACITY_EMPTY_ELEMENTDATA" "[Ljava/lang/Object;" ∈ lw_g := lw_g_in (t1_in (List.mem_of_getElem? (i := 52) (by decide +kernel))) rfl
/-- the list of files: its array a of length m, and what lies in it -/
def AlR (K : Nat → Nat) (I : Nat → Nat → Int32) (R B : Nat → Nat → Option Nat) (Ln : Nat → Nat) (n a m : Nat) (fs : List Nat) : Prop := I 642 9 = nI fs.length ∧ R 641 9 = some a ∧ ((a = 0 ∧ m = 0) ∨ (34 ≤ a ∧ a < n ∧ K a = 106 ∧ Ln a = m ∧ 0 < m)) ∧ fs.length ≤ m ∧ m ≤ 800 ∧ ∀ j f, fs[j]? = some f → B a j = some f ∧ K f = 5
theorem AlR.arr {K : Nat → Nat} {I : Nat → Nat → Int32} {R B : Nat → Nat → Option Nat} {Ln : Nat → Nat} {n a m : Nat} {fs : List Nat} (h : AlR K I R B Ln n a m fs) {j : Nat} (hj : j < fs.length) : K a = 106 ∧ Ln a = m ∧ B a j = some fs[j] ∧ K fs[j] = 5 := by
  obtain ⟨h1, h2, h3, h4, h5, h6⟩ := h
  obtain ⟨h7, h8⟩ := h6 j fs[j] (List.getElem?_eq_getElem hj)
  rcases h3 with ⟨-, rfl⟩ | ⟨-, -, h9, h10, -⟩
  · exact absurd hj (by omega)
  · exact ⟨h9, h10, h7, h8⟩
theorem shr1 : ∀ m : Nat, m ≤ 800 → nI m >>> (nI 1 &&& 31) = nI (m / 2) := by
  have h : ∀ m : Fin 801, nI m.1 >>> (nI 1 &&& 31) = nI (m.1 / 2) := by decide +kernel
  exact fun m hm => h ⟨m, by omega⟩
theorem nlt {a b : Nat} (ha : a < 2147483648) (hb : b < 2147483648) : nI a < nI b ↔ a < b := by
  rw [Int32.lt_iff_toInt_lt, nI_toInt ha, nI_toInt hb]; omega
theorem nle {a b : Nat} (ha : a < 2147483648) (hb : b < 2147483648) : nI a ≤ nI b ↔ a ≤ b := by
  rw [Int32.le_iff_toInt_le, nI_toInt ha, nI_toInt hb]; omega
theorem neq {a b : Nat} (ha : a < 2147483648) (hb : b < 2147483648) : nI a = nI b ↔ a = b := by
  constructor
  · intro h
    have := congrArg Int32.toInt h
    rw [nI_toInt ha, nI_toInt hb] at this
    omega
  · rintro rfl; rfl
theorem mxN {a b : Nat} (ha : a < 2147483648) (hb : b < 2147483648) : (if nI a < nI b then nI b else nI a) = nI (max a b) := by
  by_cases h : a < b
  · rw [if_pos ((nlt ha hb).mpr h), Nat.max_eq_right (by omega)]
  · rw [if_neg (fun z => h ((nlt ha hb).mp z)), Nat.max_eq_left (by omega)]
theorem mnN {a b : Nat} (ha : a < 2147483648) (hb : b < 2147483648) : (if nI b < nI a then nI b else nI a) = nI (min a b) := by
  by_cases h : b < a
  · rw [if_pos ((nlt hb ha).mpr h), Nat.min_eq_right (by omega)]
  · rw [if_neg (fun z => h ((nlt hb ha).mp z)), Nat.min_eq_left (by omega)]
section C73
variable {X : CX} {d : Nat} {K : Nat → Nat} {I : Nat → Nat → Int32} {J : Nat → Nat → Int64} {R : Nat → Nat → Option Nat} {A : Nat → Nat → Int32} {B : Nat → Nat → Option Nat} {Ln : Nat → Nat} {n sl : Nat}
set_option maxRecDepth 100000 in
set_option maxHeartbeats 4000000 in
theorem cs_size (h9 : K 9 = 10) {a m : Nat} {fs : List Nat} (h : AlR K I R B Ln n a m fs) : EvM X mJx4a65c_size_8abf5 d [rV (some 9)] (K, I, J, R, A, B, Ln, n, sl) (fun r G' => r = some (iV (nI fs.length)) ∧ G' = (K, I, J, R, A, B, Ln, n, sl)) := by
  obtain ⟨h1, -⟩ := h
  show Ev X mJx4a65c_size_8abf5 d 0 [some (rV (some 9))] [] (K, I, J, R, A, B, Ln, n, sl) _
  refine ev_aload_n dJx4a65c_size_8abf5_0 rfl ?_
  refine ev_getIv dJx4a65c_size_8abf5_1 fJx4a65c_48 h9 h1 ?_
  refine ev_ireturn dJx4a65c_size_8abf5_4 rfl ?_
  exact ⟨rfl, rfl⟩
theorem cs_chk3 {j m : Nat} (hj : j < m) (hm : m < 2147483648) {G : GH} : EvM X mJ3_checkIndex_8e157 d [iV (nI j), iV (nI m), rV none] G (fun r G' => r = some (iV (nI j)) ∧ G' = G) := by
  show Ev X mJ3_checkIndex_8e157 d 0 [some (iV (nI j)), some (iV (nI m)), some (rV none)] [] G _
  refine ev_iload_n dJ3_checkIndex_8e157_0 rfl ?_
  refine ev_if_ltN 9 dJ3_checkIndex_8e157_1 (by decide) (by omega) ?_
  refine ev_iload_n dJ3_checkIndex_8e157_4 rfl ?_
  refine ev_iload_n dJ3_checkIndex_8e157_5 rfl ?_
  refine ev_icmp_ltN 16 dJ3_checkIndex_8e157_6 (by decide) (by omega) (by omega) (fun c6 => ?_) (fun c6 => absurd c6 (by omega))
  refine ev_iload_n dJ3_checkIndex_8e157_16 rfl ?_
  refine ev_ireturn dJ3_checkIndex_8e157_17 rfl ?_
  exact ⟨rfl, rfl⟩
theorem cs_chk {j m : Nat} (hj : j < m) (hm : m < 2147483648) {G : GH} : EvM X mJ15_checkIndex_7cf53 (d + 1) [iV (nI j), iV (nI m)] G (fun r G' => r = some (iV (nI j)) ∧ G' = G) := by
  show Ev X mJ15_checkIndex_7cf53 (d + 1) 0 [some (iV (nI j)), some (iV (nI m))] [] G _
  refine ev_iload_n dJ15_checkIndex_7cf53_0 rfl ?_
  refine ev_iload_n dJ15_checkIndex_7cf53_1 rfl ?_
  refine ev_null dJ15_checkIndex_7cf53_2 ?_
  refine ev_callS dJ15_checkIndex_7cf53_3 okJ3_checkIndex_8e157 stJ3_checkIndex_8e157 mlJ15_105 [iV _, iV _, rV _] rfl rfl (Nat.le_of_ble_eq_true rfl) (Nat.le_of_ble_eq_true rfl) (cs_chk3 hj hm) (fun r_ G_ h_ => ?_)
  obtain ⟨rfl, rfl⟩ := h_
  try dsimp only [Option.toList, List.cons_append, List.nil_append]
  refine ev_ireturn dJ15_checkIndex_7cf53_6 rfl ?_
  exact ⟨rfl, rfl⟩
theorem cs_elem (h9 : K 9 = 10) {a m j : Nat} {r0 : Option Nat} (h2 : R 641 9 = some a) (hka : K a = 106) (hla : Ln a = m) (hm : m < 2147483648) (hj : j < m) (hr : B a j = r0) : EvM X mJx4a65c_elementData_915e3 d [rV (some 9), iV (nI j)] (K, I, J, R, A, B, Ln, n, sl) (fun r G' => r = some (rV r0) ∧ G' = (K, I, J, R, A, B, Ln, n, sl)) := by
  show Ev X mJx4a65c_elementData_915e3 d 0 [some (rV (some 9)), some (iV (nI j))] [] (K, I, J, R, A, B, Ln, n, sl) _
  refine ev_aload_n dJx4a65c_elementData_915e3_0 rfl ?_
  refine ev_getR dJx4a65c_elementData_915e3_1 fJx4a65c_9 h9 h2 ?_
  refine ev_iload_n dJx4a65c_elementData_915e3_4 rfl ?_
  refine ev_aald (q := 6) dJx4a65c_elementData_915e3_5 hka (by decide) (by decide) hla hm (by omega) hr ?_
  refine ev_areturn dJx4a65c_elementData_915e3_6 rfl ?_
  exact ⟨rfl, rfl⟩
theorem cs_get (h9 : K 9 = 10) {a m : Nat} {fs : List Nat} (h : AlR K I R B Ln n a m fs) {j : Nat} (hj : j < fs.length) : EvM X mJx4a65c_get_915e3 (d + 2) [rV (some 9), iV (nI j)] (K, I, J, R, A, B, Ln, n, sl) (fun r G' => r = some (rV (some fs[j])) ∧ G' = (K, I, J, R, A, B, Ln, n, sl)) := by
  have hA := h.arr hj
  obtain ⟨h1, h2, h3, h4, h5, -⟩ := h
  obtain ⟨hka, hla, hb, -⟩ := hA
  show Ev X mJx4a65c_get_915e3 (d + 2) 0 [some (rV (some 9)), some (iV (nI j))] [] (K, I, J, R, A, B, Ln, n, sl) _
  refine ev_iload_n dJx4a65c_get_915e3_0 rfl ?_
  refine ev_aload_n dJx4a65c_get_915e3_1 rfl ?_
  refine ev_getIv dJx4a65c_get_915e3_2 fJx4a65c_48 h9 h1 ?_
  refine ev_callS dJx4a65c_get_915e3_5 okJ15_checkIndex_7cf53 stJ15_checkIndex_7cf53 mlJx4a65c_118 [iV _, iV _] rfl rfl (Nat.le_of_ble_eq_true rfl) (Nat.le_of_ble_eq_true rfl) (cs_chk hj (by omega)) (fun r_ G_ h_ => ?_)
  obtain ⟨rfl, rfl⟩ := h_
  try dsimp only [Option.toList, List.cons_append, List.nil_append]
  refine ev_pop dJx4a65c_get_915e3_8 rfl ?_
  refine ev_aload_n dJx4a65c_get_915e3_9 rfl ?_
  refine ev_iload_n dJx4a65c_get_915e3_10 rfl ?_
  refine ev_callV dJx4a65c_get_915e3_11 okJx4a65c_elementData_915e3 inJx4a65c_elementData_915e3 seJx4a65c_elementData_915e3 mlJx4a65c_123 h9 (by decide) rfl [iV _] rfl rfl (Nat.le_of_ble_eq_true rfl) (Nat.le_of_ble_eq_true rfl) (cs_elem h9 h2 hka hla (by omega) (by omega) hb) (fun r_ G_ h_ => ?_)
  obtain ⟨rfl, rfl⟩ := h_
  try dsimp only [Option.toList, List.cons_append, List.nil_append]
  refine ev_areturn dJx4a65c_get_915e3_14 rfl ?_
  exact ⟨rfl, rfl⟩
theorem cs_newLen {a g p : Nat} (hb : a ≤ 10000) (hg : g ≤ 10000) (h1g : 1 ≤ g) (hp : p ≤ 10000) {G : GH} : EvM X mJ8_newLength_cabcc (d + 1) [iV (nI a), iV (nI g), iV (nI p)] G (fun r G' => r = some (iV (nI (a + max g p))) ∧ G' = G) := by
  have e1 := mxN (a := g) (b := p) (by omega) (by omega)
  show Ev X mJ8_newLength_cabcc (d + 1) 0 [some (iV (nI a)), some (iV (nI g)), some (iV (nI p)), none] [] G _
  have hx : a + max g p < 2147483639 := by omega
  have c16' : ¬ (2147483639 : Int32) < nI (a + max g p) := by
    rw [show (2147483639 : Int32) = nI 2147483639 by decide, nlt (by omega) (by omega)]; omega
  refine ev_iload_n dJ8_newLength_cabcc_0 rfl ?_
  refine ev_iload_n dJ8_newLength_cabcc_1 rfl ?_
  refine ev_iload_n dJ8_newLength_cabcc_2 rfl ?_
  refine ev_maxI dJ8_newLength_cabcc_3 mpJ8_194 (Nat.le_of_ble_eq_true rfl) ?_
  rw [e1]
  refine ev_iaddN dJ8_newLength_cabcc_6 ?_
  refine ev_istore_nS dJ8_newLength_cabcc_7 (by decide) rfl ?_
  refine ev_iconstN 0 dJ8_newLength_cabcc_8 (by decide) ?_
  refine ev_iload_n dJ8_newLength_cabcc_9 rfl ?_
  refine ev_icmp_geN 21 dJ8_newLength_cabcc_10 (by decide) (by omega) (by omega) (fun c10 => absurd c10 (by omega)) (fun c10 => ?_)
  refine ev_iload_n dJ8_newLength_cabcc_13 rfl ?_
  refine ev_ldc dJ8_newLength_cabcc_14 coJ8_200 ?_
  refine ev_icmp_gt 21 dJ8_newLength_cabcc_16 (by decide) (fun c16 => absurd c16 c16') (fun c16 => ?_)
  refine ev_iload_n dJ8_newLength_cabcc_19 rfl ?_
  refine ev_ireturn dJ8_newLength_cabcc_20 rfl ?_
  exact ⟨rfl, rfl⟩
theorem cs_copy3 {a m m' : Nat} (ha : a < n) (hka : K a = 106) (hla : Ln a = m) (hm : m ≤ m') (hm' : m' ≤ 65536) (hel : ∀ j, j < m → ∀ y, B a j = some y → K y = 5 ∧ y < n) : EvM X mJ7_copyOf_6403c (d + 1) [rV (some a), iV (nI m'), rV (some 1)] (K, I, J, R, A, B, Ln, n, sl) (fun r G' => r = some (rV (some n)) ∧ G' = (va_up K n 106, I, J, R, A, cpB B a n 0 0 m, va_up Ln n m', n + 1, sl + m')) := by
  have e1 := mnN (a := m) (b := m') (by omega) (by omega)
  rw [Nat.min_eq_left hm] at e1
  have k1 : va_up K n 106 a = 106 := by rw [va_up_ne _ _ (by omega)]; exact hka
  have k2 : va_up K n 106 n = 106 := va_up_self _ _ _
  have l1 : va_up Ln n m' a = m := by rw [va_up_ne _ _ (by omega)]; exact hla
  have l2 : va_up Ln n m' n = m' := va_up_self _ _ _
  have hel' : ∀ j, j < m → ∀ y, B a (0 + j) = some y → va_up K n 106 y = 5 := fun j hj y hy => by
    rw [Nat.zero_add] at hy
    obtain ⟨z1, z2⟩ := hel j hj y hy
    rw [va_up_ne _ _ (by omega)]; exact z1
  show Ev X mJ7_copyOf_6403c (d + 1) 0 [some (rV (some a)), some (iV (nI m')), some (rV (some 1)), none] [] (K, I, J, R, A, B, Ln, n, sl) _
  refine ev_aload_n dJ7_copyOf_6403c_0 rfl ?_
  refine ev_ldcM dJ7_copyOf_6403c_1 clJ7_110 ?_
  refine ev_acmp_neS dJ7_copyOf_6403c_3 13 (by decide) ?_
  refine ev_iload_n dJ7_copyOf_6403c_6 rfl ?_
  refine ev_newR (q := 6) dJ7_copyOf_6403c_7 clJ7_2 (by decide) (by decide) hm' ?_
  refine ev_goto 24 dJ7_copyOf_6403c_10 (by decide) ?_
  refine ev_astore_nS dJ7_copyOf_6403c_24 (by decide) rfl ?_
  refine ev_aload_n dJ7_copyOf_6403c_25 rfl ?_
  refine ev_iconstN 0 dJ7_copyOf_6403c_26 (by decide) ?_
  refine ev_aload_n dJ7_copyOf_6403c_27 rfl ?_
  refine ev_iconstN 0 dJ7_copyOf_6403c_28 (by decide) ?_
  refine ev_aload_n dJ7_copyOf_6403c_29 rfl ?_
  refine ev_alen (q := 6) dJ7_copyOf_6403c_30 k1 (by decide) l1 ?_
  refine ev_iload_n dJ7_copyOf_6403c_31 rfl ?_
  refine ev_minI dJ7_copyOf_6403c_32 mpJ7_304 (Nat.le_of_ble_eq_true rfl) ?_
  rw [e1]
  refine ev_acopy dJ7_copyOf_6403c_35 ac_lA k1 k2 l1 l2 (by omega) (by omega) (by omega) (by omega) hel' (Nat.le_of_ble_eq_true rfl) ?_
  refine ev_aload_n dJ7_copyOf_6403c_38 rfl ?_
  refine ev_areturnA dJ7_copyOf_6403c_39 rfl ?_
  exact ⟨rfl, rfl⟩
theorem cs_copy2 {a m m' : Nat} (ha : a < n) (hka : K a = 106) (hla : Ln a = m) (hm : m ≤ m') (hm' : m' ≤ 65536) (hel : ∀ j, j < m → ∀ y, B a j = some y → K y = 5 ∧ y < n) : EvM X mJ7_copyOf_1904c (d + 2) [rV (some a), iV (nI m')] (K, I, J, R, A, B, Ln, n, sl) (fun r G' => r = some (rV (some n)) ∧ G' = (va_up K n 106, I, J, R, A, cpB B a n 0 0 m, va_up Ln n m', n + 1, sl + m')) := by
  show Ev X mJ7_copyOf_1904c (d + 2) 0 [some (rV (some a)), some (iV (nI m'))] [] (K, I, J, R, A, B, Ln, n, sl) _
  refine ev_aload_n dJ7_copyOf_1904c_0 rfl ?_
  refine ev_iload_n dJ7_copyOf_1904c_1 rfl ?_
  refine ev_aload_n dJ7_copyOf_1904c_2 rfl ?_
  refine ev_getC dJ7_copyOf_1904c_3 gc_l hka (Nat.le_of_ble_eq_true rfl) ?_
  refine ev_callS dJ7_copyOf_1904c_6 okJ7_copyOf_6403c stJ7_copyOf_6403c mlJ7_300 [rV _, iV _, rV _] rfl rfl (Nat.le_of_ble_eq_true rfl) (Nat.le_of_ble_eq_true rfl) (cs_copy3 ha hka hla hm hm' hel) (fun r_ G_ h_ => ?_)
  obtain ⟨rfl, rfl⟩ := h_
  try dsimp only [Option.toList, List.cons_append, List.nil_append]
  refine ev_areturnA dJ7_copyOf_1904c_9 rfl ?_
  exact ⟨rfl, rfl⟩
theorem cs_grow0 (h9 : K 9 = 10) (h2 : R 641 9 = some 0) (hn : 34 ≤ n) : EvM X mJx4a65c_grow_92f84 (d + 3) [rV (some 9), iV (nI 1)] (K, I, J, R, A, B, Ln, n, sl) (fun r G' => r = some (rV (some n)) ∧ G' = (va_up K n 106, I, J, u2 R 641 9 (some n), A, B, va_up Ln n 10, n + 1, sl + 10)) := by
  have e1 := mxN (a := 10) (b := 1) (by omega) (by omega)
  have k9 : va_up K n 106 9 = 10 := by rw [va_up_ne _ _ (by omega)]; exact h9
  show Ev X mJx4a65c_grow_92f84 (d + 3) 0 [some (rV (some 9)), some (iV (nI 1)), none, none] [] (K, I, J, R, A, B, Ln, n, sl) _
  refine ev_aload_n dJx4a65c_grow_92f84_0 rfl ?_
  refine ev_getR dJx4a65c_grow_92f84_1 fJx4a65c_9 h9 h2 ?_
  refine ev_alenE dJx4a65c_grow_92f84_4 ?_
  refine ev_istore_nS dJx4a65c_grow_92f84_5 (by decide) rfl ?_
  refine ev_iload_n dJx4a65c_grow_92f84_6 rfl ?_
  refine ev_if_gtN 20 dJx4a65c_grow_92f84_7 (by decide) (by omega) (fun c7 => absurd c7 (by decide)) (fun c7 => ?_)
  refine ev_aload_n dJx4a65c_grow_92f84_10 rfl ?_
  refine ev_getR dJx4a65c_grow_92f84_11 fJx4a65c_9 h9 h2 ?_
  refine ev_getE dJx4a65c_grow_92f84_14 ge_l ?_
  refine ev_acmp_eq 45 dJx4a65c_grow_92f84_17 (by decide) (Or.inl rfl) (Or.inl rfl) (fun c17 => ?_) (fun c17 => absurd rfl c17)
  refine ev_aload_n dJx4a65c_grow_92f84_45 rfl ?_
  refine ev_bipushN 10 dJx4a65c_grow_92f84_46 (by decide) ?_
  refine ev_iload_n dJx4a65c_grow_92f84_48 rfl ?_
  refine ev_maxI dJx4a65c_grow_92f84_49 mpJx4a65c_79 (Nat.le_of_ble_eq_true rfl) ?_
  rw [e1]
  refine ev_newR (q := 6) dJx4a65c_grow_92f84_52 clJx4a65c_7 (by decide) (by decide) (by decide) ?_
  refine ev_dup_x1 dJx4a65c_grow_92f84_55 rfl rfl ?_
  refine ev_putR dJx4a65c_grow_92f84_56 fJx4a65c_9 (Or.inl rfl) k9 ?_
  refine ev_areturnA dJx4a65c_grow_92f84_59 rfl ?_
  exact ⟨rfl, rfl⟩
theorem cs_grow1 (h9 : K 9 = 10) {a m : Nat} (h2 : R 641 9 = some a) (ha : a < n) (ha3 : 34 ≤ a) (hka : K a = 106) (hla : Ln a = m) (hm0 : 0 < m) (hm : m ≤ 800) (hel : ∀ j, j < m → ∀ y, B a j = some y → K y = 5 ∧ y < n) : EvM X mJx4a65c_grow_92f84 (d + 3) [rV (some 9), iV (nI (m + 1))] (K, I, J, R, A, B, Ln, n, sl) (fun r G' => r = some (rV (some n)) ∧ G' = (va_up K n 106, I, J, u2 R 641 9 (some n), A, cpB B a n 0 0 m, va_up Ln n (m + max 1 (m / 2)), n + 1, sl + (m + max 1 (m / 2)))) := by
  have k9 : va_up K n 106 9 = 10 := by rw [va_up_ne _ _ (by omega)]; exact h9
  have e1 := shr1 m hm
  have e2 : m + 1 - m = 1 := by omega
  show Ev X mJx4a65c_grow_92f84 (d + 3) 0 [some (rV (some 9)), some (iV (nI (m + 1))), none, none] [] (K, I, J, R, A, B, Ln, n, sl) _
  refine ev_aload_n dJx4a65c_grow_92f84_0 rfl ?_
  refine ev_getR dJx4a65c_grow_92f84_1 fJx4a65c_9 h9 h2 ?_
  refine ev_alen (q := 6) dJx4a65c_grow_92f84_4 hka (by decide) hla ?_
  refine ev_istore_nS dJx4a65c_grow_92f84_5 (by decide) rfl ?_
  refine ev_iload_n dJx4a65c_grow_92f84_6 rfl ?_
  refine ev_if_gtN 20 dJx4a65c_grow_92f84_7 (by decide) (by omega) (fun c7 => ?_) (fun c7 => absurd c7 (by omega))
  refine ev_iload_n dJx4a65c_grow_92f84_20 rfl ?_
  refine ev_iload_n dJx4a65c_grow_92f84_21 rfl ?_
  refine ev_iload_n dJx4a65c_grow_92f84_22 rfl ?_
  refine ev_isubN dJx4a65c_grow_92f84_23 (by omega) ?_
  refine ev_iload_n dJx4a65c_grow_92f84_24 rfl ?_
  refine ev_iconstN 1 dJx4a65c_grow_92f84_25 (by decide) ?_
  refine ev_ishr dJx4a65c_grow_92f84_26 ?_
  rw [e1, e2]
  refine ev_callS dJx4a65c_grow_92f84_27 okJ8_newLength_cabcc stJ8_newLength_cabcc mlJx4a65c_73 [iV _, iV _, iV _] rfl rfl (Nat.le_of_ble_eq_true rfl) (Nat.le_of_ble_eq_true rfl) (cs_newLen (by omega) (by omega) (by omega) (by omega)) (fun r_ G_ h_ => ?_)
  obtain ⟨rfl, rfl⟩ := h_
  try dsimp only [Option.toList, List.cons_append, List.nil_append]
  refine ev_istore_nS dJx4a65c_grow_92f84_30 (by decide) rfl ?_
  refine ev_aload_n dJx4a65c_grow_92f84_31 rfl ?_
  refine ev_aload_n dJx4a65c_grow_92f84_32 rfl ?_
  refine ev_getR dJx4a65c_grow_92f84_33 fJx4a65c_9 h9 h2 ?_
  refine ev_iload_n dJx4a65c_grow_92f84_36 rfl ?_
  refine ev_callS dJx4a65c_grow_92f84_37 okJ7_copyOf_1904c stJ7_copyOf_1904c mlJx4a65c_66 [rV _, iV _] rfl rfl (Nat.le_of_ble_eq_true rfl) (Nat.le_of_ble_eq_true rfl) (cs_copy2 ha hka hla (by omega) (by omega) hel) (fun r_ G_ h_ => ?_)
  obtain ⟨rfl, rfl⟩ := h_
  try dsimp only [Option.toList, List.cons_append, List.nil_append]
  refine ev_dup_x1 dJx4a65c_grow_92f84_40 rfl rfl ?_
  refine ev_putR dJx4a65c_grow_92f84_41 fJx4a65c_9 (Or.inl rfl) k9 ?_
  refine ev_areturnA dJx4a65c_grow_92f84_44 rfl ?_
  exact ⟨rfl, rfl⟩

/-- what an addition to the list of files leaves -/
def AlF (K : Nat → Nat) (I : Nat → Nat → Int32) (R B : Nat → Nat → Option Nat) (Ln : Nat → Nat) (n sl a m : Nat) (K' : Nat → Nat) (I' : Nat → Nat → Int32) (R' B' : Nat → Nat → Option Nat) (Ln' : Nat → Nat) (n' sl' a' m' : Nat) : Prop := ((n' = n ∧ sl' = sl ∧ a' = a ∧ m' = m ∧ K' = K ∧ Ln' = Ln) ∨ (n' = n + 1 ∧ sl' = sl + m' ∧ m < m' ∧ a' = n ∧ K' = va_up K n 106 ∧ Ln' = va_up Ln n m')) ∧ (∀ f i, ¬ (i = 9 ∧ (f = 640 ∨ f = 642)) → I' f i = I f i) ∧ (∀ f i, ¬ (i = 9 ∧ f = 641) → R' f i = R f i) ∧ ∀ i, i ≠ a' → B' i = B i
theorem AlR.frI {K : Nat → Nat} {I I' : Nat → Nat → Int32} {R B : Nat → Nat → Option Nat} {Ln : Nat → Nat} {n a m : Nat} {fs : List Nat} (h : AlR K I R B Ln n a m fs) (hi : I' 642 9 = I 642 9) : AlR K I' R B Ln n a m fs := ⟨hi.trans h.1, h.2⟩
set_option maxRecDepth 100000 in
set_option maxHeartbeats 4000000 in
theorem cs_grow (h9 : K 9 = 10) {a m : Nat} {fs : List Nat} (h : AlR K I R B Ln n a m fs) (hl : fs.length < 520) (hn : 34 ≤ n) (hfull : fs.length = m) (hel : ∀ g ∈ fs, g < n) : EvM X mJx4a65c_grow_d5877 (d + 4) [rV (some 9)] (K, I, J, R, A, B, Ln, n, sl) (fun r G' => ∃ K' R' B' Ln' n' sl' a' m', AlR K' I R' B' Ln' n' a' m' fs ∧ fs.length < m' ∧ K' a' = 106 ∧ Ln' a' = m' ∧ AlF K I R B Ln n sl a m K' I R' B' Ln' n' sl' a' m' ∧ r = some (rV (some a')) ∧ G' = (K', I, J, R', A, B', Ln', n', sl')) := by
  obtain ⟨h1, h2, h3, h4, h5, h6⟩ := h
  rcases h3 with ⟨rfl, rfl⟩ | ⟨ha3, han, hka, hla, hm0⟩
  · have e0 : fs = [] := List.length_eq_zero_iff.mp hfull
    subst e0
    show Ev X mJx4a65c_grow_d5877 (d + 4) 0 [some (rV (some 9))] [] (K, I, J, R, A, B, Ln, n, sl) _
    rw [show ([] : List Nat).length = 0 from rfl] at h1
    refine ev_aload_n dJx4a65c_grow_d5877_0 rfl ?_
    refine ev_aload_n dJx4a65c_grow_d5877_1 rfl ?_
    refine ev_getIv dJx4a65c_grow_d5877_2 fJx4a65c_48 h9 h1 ?_
    refine ev_iconstN 1 dJx4a65c_grow_d5877_5 (by decide) ?_
    refine ev_iaddN dJx4a65c_grow_d5877_6 ?_
    refine ev_callV dJx4a65c_grow_d5877_7 okJx4a65c_grow_92f84 inJx4a65c_grow_92f84 seJx4a65c_grow_92f84 mlJx4a65c_69 h9 (by decide) rfl [iV _] rfl rfl (Nat.le_of_ble_eq_true rfl) (Nat.le_of_ble_eq_true rfl) (cs_grow0 h9 h2 hn) (fun r_ G_ h_ => ?_)
    obtain ⟨rfl, rfl⟩ := h_
    try dsimp only [Option.toList, List.cons_append, List.nil_append]
    refine ev_areturnA dJx4a65c_grow_d5877_10 rfl ?_
    refine ⟨_, _, _, _, _, _, n, 10, ⟨h1, u2_self, Or.inr ⟨by omega, by omega, va_up_self _ _ _, va_up_self _ _ _, by omega⟩, by decide, by omega, fun j f hj => by simp at hj⟩, by decide, va_up_self _ _ _, va_up_self _ _ _, ⟨Or.inr ⟨rfl, rfl, by omega, rfl, rfl, rfl⟩, fun f i _ => rfl, fun f i hi => ?_, fun i _ => rfl⟩, rfl, rfl⟩
    unfold u2
    rw [if_neg (fun z => hi ⟨z.2, z.1⟩)]
  · subst hfull
    have hel' : ∀ j, j < fs.length → ∀ y, B a j = some y → K y = 5 ∧ y < n := fun j hj y hy => by
      obtain ⟨z1, z2⟩ := h6 j fs[j] (List.getElem?_eq_getElem hj)
      rw [hy] at z1
      cases z1
      exact ⟨z2, hel _ (List.getElem_mem hj)⟩
    show Ev X mJx4a65c_grow_d5877 (d + 4) 0 [some (rV (some 9))] [] (K, I, J, R, A, B, Ln, n, sl) _
    refine ev_aload_n dJx4a65c_grow_d5877_0 rfl ?_
    refine ev_aload_n dJx4a65c_grow_d5877_1 rfl ?_
    refine ev_getIv dJx4a65c_grow_d5877_2 fJx4a65c_48 h9 h1 ?_
    refine ev_iconstN 1 dJx4a65c_grow_d5877_5 (by decide) ?_
    refine ev_iaddN dJx4a65c_grow_d5877_6 ?_
    refine ev_callV dJx4a65c_grow_d5877_7 okJx4a65c_grow_92f84 inJx4a65c_grow_92f84 seJx4a65c_grow_92f84 mlJx4a65c_69 h9 (by decide) rfl [iV _] rfl rfl (Nat.le_of_ble_eq_true rfl) (Nat.le_of_ble_eq_true rfl) (cs_grow1 h9 h2 han ha3 hka hla hm0 h5 hel') (fun r_ G_ h_ => ?_)
    obtain ⟨rfl, rfl⟩ := h_
    try dsimp only [Option.toList, List.cons_append, List.nil_append]
    refine ev_areturnA dJx4a65c_grow_d5877_10 rfl ?_
    refine ⟨_, _, _, _, _, _, n, fs.length + max 1 (fs.length / 2), ⟨h1, u2_self, Or.inr ⟨by omega, by omega, va_up_self _ _ _, va_up_self _ _ _, by omega⟩, by omega, by omega, fun j f hj => ?_⟩, by omega, va_up_self _ _ _, va_up_self _ _ _, ⟨Or.inr ⟨rfl, rfl, by omega, rfl, rfl, rfl⟩, fun f i _ => rfl, fun f i hi => ?_, fun i hi => ?_⟩, rfl, rfl⟩
    · obtain ⟨z1, z2⟩ := h6 j f hj
      obtain ⟨hjl, hjf⟩ := List.getElem?_eq_some_iff.mp hj
      have hfn := hel f (hjf ▸ List.getElem_mem hjl)
      refine ⟨?_, by rw [va_up_ne _ _ (by omega)]; exact z2⟩
      unfold cpB
      rw [if_pos ⟨rfl, by omega, by omega⟩]
      simpa using z1
    · unfold u2
      rw [if_neg (fun z => hi ⟨z.2, z.1⟩)]
    · funext j
      unfold cpB
      rw [if_neg (fun z => hi z.1)]
set_option maxRecDepth 100000 in
set_option maxHeartbeats 4000000 in
theorem cs_add3_11 (h9 : K 9 = 10) {a m : Nat} {fs : List Nat} (h : AlR K I R B Ln n a m fs) {f : Nat} (hl : fs.length < 520) (hf : K f = 5) (hfn : f < n) (hn : 34 ≤ n) (hel : ∀ g ∈ fs, g < n) (hlt : fs.length < m) (hka : K a = 106) (hla : Ln a = m) {w2 : Option LV} {Q : Option LV → GH → Prop} (hq : ∀ I' B', AlR K I' R B' Ln n a m (fs ++ [f]) → (∀ f i, ¬ (i = 9 ∧ f = 642) → I' f i = I f i) → (∀ i, i ≠ a → B' i = B i) → Q none (K, I', J, R, A, B', Ln, n, sl)) : Ev X mJx4a65c_add_72be8 (d + 5) 11 [some (rV (some 9)), some (rV (some f)), some (rV (some a)), some (iV (nI fs.length))] [] (K, I, J, R, A, B, Ln, n, sl) Q := by
  obtain ⟨h1, h2, h3, h4, h5, h6⟩ := h
  have hq := hq (u2 I 642 9 (nI (fs.length + 1))) (u2 B a fs.length (some f)) ⟨by rw [List.length_append]; exact u2_self, h2, h3, by rw [List.length_append]; exact hlt, h5, fun j g hj => ?_⟩ (fun f i hi => by unfold u2; rw [if_neg (fun z => hi ⟨z.2, z.1⟩)]) (fun i hi => u2_row' hi)
  refine ev_aload_n dJx4a65c_add_72be8_11 rfl ?_
  refine ev_iload_n dJx4a65c_add_72be8_12 rfl ?_
  refine ev_aload_n dJx4a65c_add_72be8_13 rfl ?_
  refine ev_aast (q := 6) dJx4a65c_add_72be8_14 hka (by decide) (by decide) hla (by omega) (by omega) hf (by decide) (Or.inr ⟨rfl, rfl⟩) ?_
  refine ev_aload_n dJx4a65c_add_72be8_15 rfl ?_
  refine ev_iload_n dJx4a65c_add_72be8_16 rfl ?_
  refine ev_iconstN 1 dJx4a65c_add_72be8_17 (by decide) ?_
  refine ev_iaddN dJx4a65c_add_72be8_18 ?_
  refine ev_putI dJx4a65c_add_72be8_19 fJx4a65c_48 (Or.inl rfl) (Or.inl rfl) h9 ?_
  refine ev_return dJx4a65c_add_72be8_22 rfl ?_
  exact hq
  by_cases hjl : j = fs.length
  · subst hjl
    rw [List.getElem?_append_right (Nat.le_refl _), Nat.sub_self] at hj
    cases hj
    exact ⟨u2_self, hf⟩
  · have hj2 : fs[j]? = some g := by
      obtain ⟨hz, -⟩ := List.getElem?_eq_some_iff.mp hj
      rw [List.length_append] at hz
      rwa [List.getElem?_append_left (by simp at hz; omega)] at hj
    obtain ⟨z1, z2⟩ := h6 j g hj2
    exact ⟨by rw [u2_ne2 hjl]; exact z1, z2⟩
theorem cs_add3 (h9 : K 9 = 10) {a m : Nat} {fs : List Nat} (h : AlR K I R B Ln n a m fs) {f : Nat} (hl : fs.length < 520) (hf : K f = 5) (hfn : f < n) (hn : 34 ≤ n) (hel : ∀ g ∈ fs, g < n) : EvM X mJx4a65c_add_72be8 (d + 5) [rV (some 9), rV (some f), rV (some a), iV (nI fs.length)] (K, I, J, R, A, B, Ln, n, sl) (fun r G' => ∃ K' I' R' B' Ln' n' sl' a' m', AlR K' I' R' B' Ln' n' a' m' (fs ++ [f]) ∧ AlF K I R B Ln n sl a m K' I' R' B' Ln' n' sl' a' m' ∧ r = none ∧ G' = (K', I', J, R', A, B', Ln', n', sl')) := by
  show Ev X mJx4a65c_add_72be8 (d + 5) 0 [some (rV (some 9)), some (rV (some f)), some (rV (some a)), some (iV (nI fs.length))] [] (K, I, J, R, A, B, Ln, n, sl) _
  by_cases hfull : fs.length = m
  · have sg := cs_grow (X := X) (d := d) (J := J) (A := A) (sl := sl) h9 h hl hn hfull hel
    have h0 := h
    obtain ⟨h1, h2, h3, h4, h5, h6⟩ := h
    rcases h3 with ⟨rfl, rfl⟩ | ⟨ha3, han, hka, hla, hm0⟩
    · have e0 : fs = [] := List.length_eq_zero_iff.mp hfull
      subst e0
      rw [show ([] : List Nat).length = 0 from rfl] at *
      refine ev_iload_n dJx4a65c_add_72be8_0 rfl ?_
      refine ev_aload_n dJx4a65c_add_72be8_1 rfl ?_
      refine ev_alenE dJx4a65c_add_72be8_2 ?_
      refine ev_icmp_neN 11 dJx4a65c_add_72be8_3 (by decide) (by omega) (by omega) (fun c3 => absurd c3 (by decide)) (fun c3 => ?_)
      refine ev_aload_n dJx4a65c_add_72be8_6 rfl ?_
      refine ev_callV dJx4a65c_add_72be8_7 okJx4a65c_grow_d5877 inJx4a65c_grow_d5877 seJx4a65c_grow_d5877 mlJx4a65c_129 h9 (by decide) rfl [] rfl rfl (Nat.le_of_ble_eq_true rfl) (Nat.le_of_ble_eq_true rfl) (sg) (fun r_ G_ h_ => ?_)
      obtain ⟨K', R', B', Ln', n', sl', a', m', g1, g2, g3, g4, g5, rfl, rfl⟩ := h_
      try dsimp only [Option.toList, List.cons_append, List.nil_append]
      refine ev_astore_nS dJx4a65c_add_72be8_10 (by decide) rfl ?_
      have hK : K' 9 = 10 ∧ K' f = 5 ∧ n ≤ n' := by
        rcases g5.1 with ⟨e1, -, -, -, e2, -⟩ | ⟨e1, -, -, -, e2, -⟩
        · subst e2; exact ⟨h9, hf, by omega⟩
        · subst e2; exact ⟨by rw [va_up_ne _ _ (by omega)]; exact h9, by rw [va_up_ne _ _ (by omega)]; exact hf, by omega⟩
      obtain ⟨k1, k2, k3⟩ := hK
      refine cs_add3_11 (w2 := none) k1 g1 hl k2 (by omega) (by omega) (fun g hg => by have := hel g hg; omega) g2 g3 g4 (fun I' B'' q1 q2 q3 => ?_)
      exact ⟨_, _, _, _, _, _, _, _, _, q1, ⟨g5.1, fun f i hi => q2 f i (fun z => hi ⟨z.1, Or.inr z.2⟩), g5.2.2.1, fun i hi => (q3 i hi).trans (g5.2.2.2 i hi)⟩, rfl, rfl⟩
    · subst hfull
      refine ev_iload_n dJx4a65c_add_72be8_0 rfl ?_
      refine ev_aload_n dJx4a65c_add_72be8_1 rfl ?_
      refine ev_alen (q := 6) dJx4a65c_add_72be8_2 hka (by decide) hla ?_
      refine ev_icmp_neN 11 dJx4a65c_add_72be8_3 (by decide) (by omega) (by omega) (fun c3 => absurd c3 (fun z => z rfl)) (fun c3 => ?_)
      refine ev_aload_n dJx4a65c_add_72be8_6 rfl ?_
      refine ev_callV dJx4a65c_add_72be8_7 okJx4a65c_grow_d5877 inJx4a65c_grow_d5877 seJx4a65c_grow_d5877 mlJx4a65c_129 h9 (by decide) rfl [] rfl rfl (Nat.le_of_ble_eq_true rfl) (Nat.le_of_ble_eq_true rfl) (sg) (fun r_ G_ h_ => ?_)
      obtain ⟨K', R', B', Ln', n', sl', a', m', g1, g2, g3, g4, g5, rfl, rfl⟩ := h_
      try dsimp only [Option.toList, List.cons_append, List.nil_append]
      refine ev_astore_nS dJx4a65c_add_72be8_10 (by decide) rfl ?_
      have hK : K' 9 = 10 ∧ K' f = 5 ∧ n ≤ n' := by
        rcases g5.1 with ⟨e1, -, -, -, e2, -⟩ | ⟨e1, -, -, -, e2, -⟩
        · subst e2; exact ⟨h9, hf, by omega⟩
        · subst e2; exact ⟨by rw [va_up_ne _ _ (by omega)]; exact h9, by rw [va_up_ne _ _ (by omega)]; exact hf, by omega⟩
      obtain ⟨k1, k2, k3⟩ := hK
      refine cs_add3_11 (w2 := none) k1 g1 hl k2 (by omega) (by omega) (fun g hg => by have := hel g hg; omega) g2 g3 g4 (fun I' B'' q1 q2 q3 => ?_)
      exact ⟨_, _, _, _, _, _, _, _, _, q1, ⟨g5.1, fun f i hi => q2 f i (fun z => hi ⟨z.1, Or.inr z.2⟩), g5.2.2.1, fun i hi => (q3 i hi).trans (g5.2.2.2 i hi)⟩, rfl, rfl⟩
  · have hlt : fs.length < m := by have := h.2.2.2.1; omega
    have h0 := h
    obtain ⟨h1, h2, h3, h4, h5, h6⟩ := h
    rcases h3 with ⟨rfl, rfl⟩ | ⟨ha3, han, hka, hla, hm0⟩
    · exact absurd hlt (by omega)
    refine ev_iload_n dJx4a65c_add_72be8_0 rfl ?_
    refine ev_aload_n dJx4a65c_add_72be8_1 rfl ?_
    refine ev_alen (q := 6) dJx4a65c_add_72be8_2 hka (by decide) hla ?_
    refine ev_icmp_neN 11 dJx4a65c_add_72be8_3 (by decide) (by omega) (by omega) (fun c3 => ?_) (fun c3 => absurd c3 hfull)
    refine cs_add3_11 (w2 := none) h9 h0 hl hf hfn hn hel hlt hka hla (fun I' B'' q1 q2 q3 => ?_)
    exact ⟨_, _, _, _, _, _, _, _, _, q1, ⟨Or.inl ⟨rfl, rfl, rfl, rfl, rfl, rfl⟩, fun f i hi => q2 f i (fun z => hi ⟨z.1, Or.inr z.2⟩), fun _ _ _ => rfl, q3⟩, rfl, rfl⟩
set_option maxRecDepth 100000 in
set_option maxHeartbeats 4000000 in
theorem cs_alAdd (h9 : K 9 = 10) {a m : Nat} {fs : List Nat} (h : AlR K I R B Ln n a m fs) {f : Nat} (hl : fs.length < 520) (hf : K f = 5) (hfn : f < n) (hn : 34 ≤ n) (hel : ∀ g ∈ fs, g < n) : EvM X mJx4a65c_add_9ea2d (d + 6) [rV (some 9), rV (some f)] (K, I, J, R, A, B, Ln, n, sl) (fun r G' => ∃ K' I' R' B' Ln' n' sl' a' m', AlR K' I' R' B' Ln' n' a' m' (fs ++ [f]) ∧ AlF K I R B Ln n sl a m K' I' R' B' Ln' n' sl' a' m' ∧ r = some (iV 1) ∧ G' = (K', I', J, R', A, B', Ln', n', sl')) := by
  show Ev X mJx4a65c_add_9ea2d (d + 6) 0 [some (rV (some 9)), some (rV (some f))] [] (K, I, J, R, A, B, Ln, n, sl) _
  have sa := cs_add3 (X := X) (d := d) (J := J) (A := A) (sl := sl) (I := u2 I 640 9 (I 640 9 + nI 1)) h9 (h.frI (u2_ne1 (by decide))) hl hf hfn hn hel
  obtain ⟨h1, h2, -⟩ := h
  refine ev_aload_n dJx4a65c_add_9ea2d_0 rfl ?_
  refine ev_dup dJx4a65c_add_9ea2d_1 rfl ?_
  refine ev_getM dJx4a65c_add_9ea2d_2 mc_l h9 ?_
  refine ev_iconstN 1 dJx4a65c_add_9ea2d_5 (by decide) ?_
  refine ev_iadd (y := 1) dJx4a65c_add_9ea2d_6 ?_
  refine ev_putM dJx4a65c_add_9ea2d_7 mc_l h9 ?_
  refine ev_aload_n dJx4a65c_add_9ea2d_10 rfl ?_
  refine ev_aload_n dJx4a65c_add_9ea2d_11 rfl ?_
  refine ev_aload_n dJx4a65c_add_9ea2d_12 rfl ?_
  refine ev_getR dJx4a65c_add_9ea2d_13 fJx4a65c_9 h9 h2 ?_
  refine ev_aload_n dJx4a65c_add_9ea2d_16 rfl ?_
  refine ev_getIv dJx4a65c_add_9ea2d_17 fJx4a65c_48 h9 ((u2_ne1 (by decide)).trans h1) ?_
  refine ev_callV dJx4a65c_add_9ea2d_20 okJx4a65c_add_72be8 inJx4a65c_add_72be8 seJx4a65c_add_72be8 mlJx4a65c_131 h9 (by decide) rfl [rV _, rV _, iV _] rfl rfl (Nat.le_of_ble_eq_true rfl) (Nat.le_of_ble_eq_true rfl) (sa) (fun r_ G_ h_ => ?_)
  obtain ⟨K', I', R', B', Ln', n', sl', a', m', g1, g2, rfl, rfl⟩ := h_
  try dsimp only [Option.toList, List.cons_append, List.nil_append]
  refine ev_iconstN 1 dJx4a65c_add_9ea2d_23 (by decide) ?_
  refine ev_zreturn dJx4a65c_add_9ea2d_24 rfl (by decide) ?_
  exact ⟨_, _, _, _, _, _, _, _, _, g1, ⟨g2.1, fun f i hi => (g2.2.1 f i hi).trans (by unfold u2; rw [if_neg (fun z => hi ⟨z.2, Or.inl z.1⟩)]), g2.2.2⟩, rfl, rfl⟩
theorem cs_fast (h9 : K 9 = 10) {a m : Nat} {fs : List Nat} (h : AlR K I R B Ln n a m fs) {j : Nat} (hj : j < fs.length) : EvM X mJx4a65c_fastRemove_b59b0 (d + 1) [rV (some 9), rV (some a), iV (nI j)] (K, I, J, R, A, B, Ln, n, sl) (fun r G' => r = none ∧ ∃ I' B', AlR K I' R B' Ln n a m (fs.eraseIdx j) ∧ (∀ f i, ¬ (i = 9 ∧ (f = 640 ∨ f = 642)) → I' f i = I f i) ∧ (∀ i, i ≠ a → B' i = B i) ∧ G' = (K, I', J, R, A, B', Ln, n, sl)) := by
  have hA := h.arr hj
  obtain ⟨hka, hla, -, -⟩ := hA
  obtain ⟨h1, h2, h3, h4, h5, h6⟩ := h
  show Ev X mJx4a65c_fastRemove_b59b0 (d + 1) 0 [some (rV (some 9)), some (rV (some a)), some (iV (nI j)), none] [] (K, I, J, R, A, B, Ln, n, sl) _
  have hel : ∀ k, k < fs.length - 1 - j → ∀ y, B a (j + 1 + k) = some y → K y = 5 := fun k hk y hy => by
    obtain ⟨z1, z2⟩ := h6 (j + 1 + k) fs[j + 1 + k] (List.getElem?_eq_getElem (by omega))
    rw [hy] at z1
    cases z1
    exact z2
  have hle : (fs.eraseIdx j).length = fs.length - 1 := List.length_eraseIdx_of_lt hj
  have fin : ∀ B1 : Nat → Nat → Option Nat, (∀ i, i ≠ a → B1 i = B i) → (∀ k, k < fs.length - 1 → B1 a k = B a (if k < j then k else k + 1)) → ∀ v, ∃ I' B', AlR K I' R B' Ln n a m (fs.eraseIdx j) ∧ (∀ f i, ¬ (i = 9 ∧ (f = 640 ∨ f = 642)) → I' f i = I f i) ∧ (∀ i, i ≠ a → B' i = B i) ∧ (K, (u2 (u2 I 640 9 v) 642 9 (nI (fs.length - 1))), J, R, A, (u2 B1 a (fs.length - 1) none), Ln, n, sl) = (K, I', J, R, A, B', Ln, n, sl) := by
    intro B1 b1 b2 v
    refine ⟨_, _, ⟨by rw [hle]; exact u2_self, h2, h3, by omega, h5, fun k f hk => ?_⟩, fun f i hi => ?_, fun i hi => (u2_row' hi).trans (b1 i hi), rfl⟩
    · obtain ⟨hk1, -⟩ := List.getElem?_eq_some_iff.mp hk
      rw [hle] at hk1
      rw [u2_ne2 (by omega), b2 k hk1]
      rw [List.getElem?_eraseIdx] at hk
      by_cases c : k < j
      · rw [if_pos c] at hk ⊢; exact h6 _ _ hk
      · rw [if_neg c] at hk ⊢; exact h6 _ _ hk
    · unfold u2
      rw [if_neg (fun z => hi ⟨z.2, Or.inr z.1⟩), if_neg (fun z => hi ⟨z.2, Or.inl z.1⟩)]
  refine ev_aload_n dJx4a65c_fastRemove_b59b0_0 rfl ?_
  refine ev_dup dJx4a65c_fastRemove_b59b0_1 rfl ?_
  refine ev_getM dJx4a65c_fastRemove_b59b0_2 mc_l h9 ?_
  refine ev_iconstN 1 dJx4a65c_fastRemove_b59b0_5 (by decide) ?_
  refine ev_iadd (y := 1) dJx4a65c_fastRemove_b59b0_6 ?_
  refine ev_putM dJx4a65c_fastRemove_b59b0_7 mc_l h9 ?_
  refine ev_aload_n dJx4a65c_fastRemove_b59b0_10 rfl ?_
  refine ev_getIv dJx4a65c_fastRemove_b59b0_11 fJx4a65c_48 h9 ((u2_ne1 (by decide)).trans h1) ?_
  refine ev_iconstN 1 dJx4a65c_fastRemove_b59b0_14 (by decide) ?_
  refine ev_isubN dJx4a65c_fastRemove_b59b0_15 (by omega) ?_
  refine ev_dup dJx4a65c_fastRemove_b59b0_16 rfl ?_
  refine ev_istore_nS dJx4a65c_fastRemove_b59b0_17 (by decide) rfl ?_
  refine ev_iload_n dJx4a65c_fastRemove_b59b0_18 rfl ?_
  refine ev_icmp_leN 34 dJx4a65c_fastRemove_b59b0_19 (by decide) (by omega) (by omega) (fun c19 => ?_) (fun c19 => ?_)
  · refine ev_aload_n dJx4a65c_fastRemove_b59b0_34 rfl ?_
    refine ev_aload_n dJx4a65c_fastRemove_b59b0_35 rfl ?_
    refine ev_iload_n dJx4a65c_fastRemove_b59b0_36 rfl ?_
    refine ev_dup_x1 dJx4a65c_fastRemove_b59b0_37 rfl rfl ?_
    refine ev_putI dJx4a65c_fastRemove_b59b0_38 fJx4a65c_48 (Or.inl rfl) (Or.inl rfl) h9 ?_
    refine ev_null dJx4a65c_fastRemove_b59b0_41 ?_
    refine ev_aastN (q := 6) dJx4a65c_fastRemove_b59b0_42 hka (by decide) (by decide) hla (by omega) (by omega) ?_
    refine ev_return dJx4a65c_fastRemove_b59b0_43 rfl ?_
    refine ⟨rfl, ?_⟩
    first
    | (refine fin _ (fun i hi => ?_) (fun k hk => ?_) _
       · funext x; unfold cpB; rw [if_neg (fun z => hi z.1)]
       · unfold cpB
         by_cases c : k < j
         · rw [if_pos c, if_neg (fun z => by omega)]
         · rw [if_neg c, if_pos ⟨rfl, by omega, by omega⟩]
           congr 1
           omega)
    | exact fin B (fun _ _ => rfl) (fun k hk => by rw [if_pos (by omega)]) _
  · refine ev_aload_n dJx4a65c_fastRemove_b59b0_22 rfl ?_
    refine ev_iload_n dJx4a65c_fastRemove_b59b0_23 rfl ?_
    refine ev_iconstN 1 dJx4a65c_fastRemove_b59b0_24 (by decide) ?_
    refine ev_iaddN dJx4a65c_fastRemove_b59b0_25 ?_
    refine ev_aload_n dJx4a65c_fastRemove_b59b0_26 rfl ?_
    refine ev_iload_n dJx4a65c_fastRemove_b59b0_27 rfl ?_
    refine ev_iload_n dJx4a65c_fastRemove_b59b0_28 rfl ?_
    refine ev_iload_n dJx4a65c_fastRemove_b59b0_29 rfl ?_
    refine ev_isubN dJx4a65c_fastRemove_b59b0_30 (by omega) ?_
    refine ev_acopy dJx4a65c_fastRemove_b59b0_31 ac_lL hka hka hla hla (by omega) (by omega) (by omega) (by omega) hel (Nat.le_of_ble_eq_true rfl) ?_
    refine ev_aload_n dJx4a65c_fastRemove_b59b0_34 rfl ?_
    refine ev_aload_n dJx4a65c_fastRemove_b59b0_35 rfl ?_
    refine ev_iload_n dJx4a65c_fastRemove_b59b0_36 rfl ?_
    refine ev_dup_x1 dJx4a65c_fastRemove_b59b0_37 rfl rfl ?_
    refine ev_putI dJx4a65c_fastRemove_b59b0_38 fJx4a65c_48 (Or.inl rfl) (Or.inl rfl) h9 ?_
    refine ev_null dJx4a65c_fastRemove_b59b0_41 ?_
    refine ev_aastN (q := 6) dJx4a65c_fastRemove_b59b0_42 hka (by decide) (by decide) hla (by omega) (by omega) ?_
    refine ev_return dJx4a65c_fastRemove_b59b0_43 rfl ?_
    refine ⟨rfl, ?_⟩
    first
    | (refine fin _ (fun i hi => ?_) (fun k hk => ?_) _
       · funext x; unfold cpB; rw [if_neg (fun z => hi z.1)]
       · unfold cpB
         by_cases c : k < j
         · rw [if_pos c, if_neg (fun z => by omega)]
         · rw [if_neg c, if_pos ⟨rfl, by omega, by omega⟩]
           congr 1
           omega)
    | exact fin B (fun _ _ => rfl) (fun k hk => by rw [if_pos (by omega)]) _
set_option maxRecDepth 100000 in
set_option maxHeartbeats 4000000 in
theorem cs_alRemove (h9 : K 9 = 10) {a m : Nat} {fs : List Nat} (h : AlR K I R B Ln n a m fs) {j : Nat} (hj : j < fs.length) : EvM X mJx4a65c_remove_915e3 (d + 2) [rV (some 9), iV (nI j)] (K, I, J, R, A, B, Ln, n, sl) (fun r G' => r = some (rV (some fs[j])) ∧ ∃ I' B', AlR K I' R B' Ln n a m (fs.eraseIdx j) ∧ (∀ f i, ¬ (i = 9 ∧ (f = 640 ∨ f = 642)) → I' f i = I f i) ∧ (∀ i, i ≠ a → B' i = B i) ∧ G' = (K, I', J, R, A, B', Ln, n, sl)) := by
  have hA := h.arr hj
  have sf := cs_fast (X := X) (d := d) (J := J) (A := A) (sl := sl) h9 h hj
  obtain ⟨hka, hla, hb, -⟩ := hA
  obtain ⟨h1, h2, h3, h4, h5, h6⟩ := h
  show Ev X mJx4a65c_remove_915e3 (d + 2) 0 [some (rV (some 9)), some (iV (nI j)), none, none] [] (K, I, J, R, A, B, Ln, n, sl) _
  refine ev_iload_n dJx4a65c_remove_915e3_0 rfl ?_
  refine ev_aload_n dJx4a65c_remove_915e3_1 rfl ?_
  refine ev_getIv dJx4a65c_remove_915e3_2 fJx4a65c_48 h9 h1 ?_
  refine ev_callS dJx4a65c_remove_915e3_5 okJ15_checkIndex_7cf53 stJ15_checkIndex_7cf53 mlJx4a65c_118 [iV _, iV _] rfl rfl (Nat.le_of_ble_eq_true rfl) (Nat.le_of_ble_eq_true rfl) (cs_chk hj (by omega)) (fun r_ G_ h_ => ?_)
  obtain ⟨rfl, rfl⟩ := h_
  try dsimp only [Option.toList, List.cons_append, List.nil_append]
  refine ev_pop dJx4a65c_remove_915e3_8 rfl ?_
  refine ev_aload_n dJx4a65c_remove_915e3_9 rfl ?_
  refine ev_getR dJx4a65c_remove_915e3_10 fJx4a65c_9 h9 h2 ?_
  refine ev_astore_nS dJx4a65c_remove_915e3_13 (by decide) rfl ?_
  refine ev_aload_n dJx4a65c_remove_915e3_14 rfl ?_
  refine ev_iload_n dJx4a65c_remove_915e3_15 rfl ?_
  refine ev_aald (q := 6) dJx4a65c_remove_915e3_16 hka (by decide) (by decide) hla (by omega) (by omega) hb ?_
  refine ev_astore_nS dJx4a65c_remove_915e3_17 (by decide) rfl ?_
  refine ev_aload_n dJx4a65c_remove_915e3_18 rfl ?_
  refine ev_aload_n dJx4a65c_remove_915e3_19 rfl ?_
  refine ev_iload_n dJx4a65c_remove_915e3_20 rfl ?_
  refine ev_callV dJx4a65c_remove_915e3_21 okJx4a65c_fastRemove_b59b0 inJx4a65c_fastRemove_b59b0 seJx4a65c_fastRemove_b59b0 mlJx4a65c_144 h9 (by decide) rfl [rV _, iV _] rfl rfl (Nat.le_of_ble_eq_true rfl) (Nat.le_of_ble_eq_true rfl) (sf) (fun r_ G_ h_ => ?_)
  obtain ⟨rfl, I', B', g1, g2, g3, rfl⟩ := h_
  try dsimp only [Option.toList, List.cons_append, List.nil_append]
  refine ev_aload_n dJx4a65c_remove_915e3_24 rfl ?_
  refine ev_areturn dJx4a65c_remove_915e3_25 rfl ?_
  exact ⟨rfl, _, _, g1, g2, g3, rfl⟩
end C73
