theorem ge_l : Cond.fieldLink RJx4a65c 39 "java/util/ArrayList" "DEFAULTCAPACITY_EMPTY_ELEMENTDATA" "[Ljava/lang/Object;" ∈ lw_g := lw_g_in (t1_in (List.mem_of_getElem? (i := 52) (by decide +kernel))) rfl
/-- the list of files: its array a of length m, and what lies in it -/
def AlR (K : Nat → Nat) (I : Nat → Nat → Int32) (R B : Nat → Nat → Option Nat) (Ln : Nat → Nat) (n a m : Nat) (fs : List Nat) : Prop := I 642 9 = nI fs.length ∧ R 641 9 = some a ∧ ((a = 0 ∧ m = 0) ∨ (34 ≤ a ∧ a < n ∧ K a = 106 ∧ Ln a = m ∧ 0 < m)) ∧ fs.length ≤ m ∧ m ≤ 800 ∧ ∀ j f, fs[j]? = some f → B a j = some f ∧ K f = 5
theorem AlR.arr {K : Nat → Nat} {I : Nat → Nat → Int32} {R B : Nat → Nat → Option Nat} {Ln : Nat → Nat} {n a m : Nat} {fs : List Nat} (h : AlR K I R B Ln n a m fs) {j : Nat} (hj : j < fs.length) : K a = 106 ∧ Ln a = m ∧ B a j = some fs[j] ∧ K fs[j] = 5 := by
  obtain ⟨h1, h2, h3, h4, h5, h6⟩ := h
  obtain ⟨h7, h8⟩ := h6 j fs[j] (List.getElem?_eq_getElem hj)
  rcases h3 with ⟨-, rfl⟩ | ⟨-, -, h9, h10, -⟩
  · exact absurd hj (by omega)
  · exact ⟨h9, h10, h7, h8⟩
theorem shr1 : ∀ m : Nat, m ≤ 800 → nI m >>> (nI 1 &&& 31) = nI (m / 2) := by
  have h : ∀ m : Fin 801, nI m.1 >>> (nI 1 &&& 31) = nI (m.1 / 2) := by decide +kernel
  exact fun m hm => h ⟨m, by omega⟩
theorem mxN {a b : Nat} (ha : a < 2147483648) (hb : b < 2147483648) : (if nI a < nI b then nI b else nI a) = nI (max a b) := by
  by_cases h : a < b
  · rw [if_pos ((nI_lt ha hb).mpr h), Nat.max_eq_right (by omega)]
  · rw [if_neg (fun z => h ((nI_lt ha hb).mp z)), Nat.max_eq_left (by omega)]
theorem mnN {a b : Nat} (ha : a < 2147483648) (hb : b < 2147483648) : (if nI b < nI a then nI b else nI a) = nI (min a b) := by
  by_cases h : b < a
  · rw [if_pos ((nI_lt hb ha).mpr h), Nat.min_eq_right (by omega)]
  · rw [if_neg (fun z => h ((nI_lt hb ha).mp z)), Nat.min_eq_left (by omega)]
section C73
variable {X : CX} {d : Nat} {K : Nat → Nat} {I : Nat → Nat → Int32} {J : Nat → Nat → Int64} {R : Nat → Nat → Option Nat} {A : Nat → Nat → Int32} {B : Nat → Nat → Option Nat} {Ln : Nat → Nat} {n sl : Nat}
set_option maxRecDepth 100000 in
set_option maxHeartbeats 4000000 in
theorem cs_size (h9 : K 9 = 10) {a m : Nat} {fs : List Nat} (h : AlR K I R B Ln n a m fs) : EvM X mJx4a65c_size_8abf5 d [rV (some 9)] (K, I, J, R, A, B, Ln, n, sl) (fun r G' => r = some (iV (nI fs.length)) ∧ G' = (K, I, J, R, A, B, Ln, n, sl)) := by
  obtain ⟨h1, -⟩ := h
  show Ev X mJx4a65c_size_8abf5 d 0 [some (rV (some 9))] [] (K, I, J, R, A, B, Ln, n, sl) _
  refine ev_aload_n dJx4a65c_size_8abf5_0 rfl ?_
  refine ev_getIv dJx4a65c_size_8abf5_1 fJx4a65c_48 h9 h1 ?_
  refine ev_ireturn dJx4a65c_size_8abf5_4 rfl ?_
  exact ⟨rfl, rfl⟩
theorem cs_chk3 {j m : Nat} (hj : j < m) (hm : m < 2147483648) {G : GH} : EvM X mJ3_checkIndex_8e157 d [iV (nI j), iV (nI m), rV none] G (fun r G' => r = some (iV (nI j)) ∧ G' = G) := by
  show Ev X mJ3_checkIndex_8e157 d 0 [some (iV (nI j)), some (iV (nI m)), some (rV none)] [] G _
  refine ev_iload_n dJ3_checkIndex_8e157_0 rfl ?_
  refine ev_if_ltN 9 dJ3_checkIndex_8e157_1 (by decide) (by omega) ?_
  refine ev_iload_n dJ3_checkIndex_8e157_4 rfl ?_
  refine ev_iload_n dJ3_checkIndex_8e157_5 rfl ?_
  refine ev_icmp_ltN 16 dJ3_checkIndex_8e157_6 (by decide) (by omega) (by omega) (fun c6 => ?_) (fun c6 => absurd c6 (by omega))
  refine ev_iload_n dJ3_checkIndex_8e157_16 rfl ?_
  refine ev_ireturn dJ3_checkIndex_8e157_17 rfl ?_
  exact ⟨rfl, rfl⟩
theorem cs_chk {j m : Nat} (hj : j < m) (hm : m < 2147483648) {G : GH} : EvM X mJ15_checkIndex_7cf53 (d + 1) [iV (nI j), iV (nI m)] G (fun r G' => r = some (iV (nI j)) ∧ G' = G) := by
  show Ev X mJ15_checkIndex_7cf53 (d + 1) 0 [some (iV (nI j)), some (iV (nI m))] [] G _
  refine ev_iload_n dJ15_checkIndex_7cf53_0 rfl ?_
  refine ev_iload_n dJ15_checkIndex_7cf53_1 rfl ?_
  refine ev_null dJ15_checkIndex_7cf53_2 ?_
  refine ev_callS dJ15_checkIndex_7cf53_3 okJ3_checkIndex_8e157 stJ3_checkIndex_8e157 mlJ15_105 [iV _, iV _, rV _] rfl rfl (Nat.le_of_ble_eq_true rfl) (Nat.le_of_ble_eq_true rfl) (cs_chk3 hj hm) (fun r_ G_ h_ => ?_)
  obtain ⟨rfl, rfl⟩ := h_
  try dsimp only [Option.toList, List.cons_append, List.nil_append]
  refine ev_ireturn dJ15_checkIndex_7cf53_6 rfl ?_
  exact ⟨rfl, rfl⟩
theorem cs_elem (h9 : K 9 = 10) {a m j : Nat} {r : Option Nat} (h2 : R 641 9 = some a) (hka : K a = 106) (hla : Ln a = m) (hm : m < 2147483648) (hj : j < m) (hr : B a j = r) : EvM X mJx4a65c_elementData_915e3 d [rV (some 9), iV (nI j)] (K, I, J, R, A, B, Ln, n, sl) (fun r G' => r = some (rV r) ∧ G' = (K, I, J, R, A, B, Ln, n, sl)) := by
  show Ev X mJx4a65c_elementData_915e3 d 0 [some (rV (some 9)), some (iV (nI j))] [] (K, I, J, R, A, B, Ln, n, sl) _
  refine ev_aload_n dJx4a65c_elementData_915e3_0 rfl ?_
  refine ev_getR dJx4a65c_elementData_915e3_1 fJx4a65c_9 h9 h2 ?_
  refine ev_iload_n dJx4a65c_elementData_915e3_4 rfl ?_
  refine ev_aald (q := 6) dJx4a65c_elementData_915e3_5 hka (by decide) (by decide) hla hm (by omega) hr ?_
  refine ev_areturn dJx4a65c_elementData_915e3_6 rfl ?_
  exact ⟨rfl, rfl⟩
theorem cs_get (h9 : K 9 = 10) {a m : Nat} {fs : List Nat} (h : AlR K I R B Ln n a m fs) {j : Nat} (hj : j < fs.length) : EvM X mJx4a65c_get_915e3 (d + 2) [rV (some 9), iV (nI j)] (K, I, J, R, A, B, Ln, n, sl) (fun r G' => r = some (rV (some fs[j])) ∧ G' = (K, I, J, R, A, B, Ln, n, sl)) := by
  have hA := h.arr hj
  obtain ⟨h1, h2, h3, h4, h5, -⟩ := h
  obtain ⟨hka, hla, hb, -⟩ := hA
  show Ev X mJx4a65c_get_915e3 (d + 2) 0 [some (rV (some 9)), some (iV (nI j))] [] (K, I, J, R, A, B, Ln, n, sl) _
  refine ev_iload_n dJx4a65c_get_915e3_0 rfl ?_
  refine ev_aload_n dJx4a65c_get_915e3_1 rfl ?_
  refine ev_getIv dJx4a65c_get_915e3_2 fJx4a65c_48 h9 h1 ?_
  refine ev_callS dJx4a65c_get_915e3_5 okJ15_checkIndex_7cf53 stJ15_checkIndex_7cf53 mlJx4a65c_118 [iV _, iV _] rfl rfl (Nat.le_of_ble_eq_true rfl) (Nat.le_of_ble_eq_true rfl) (cs_chk hj (by omega)) (fun r_ G_ h_ => ?_)
  obtain ⟨rfl, rfl⟩ := h_
  try dsimp only [Option.toList, List.cons_append, List.nil_append]
  refine ev_pop dJx4a65c_get_915e3_8 rfl ?_
  refine ev_aload_n dJx4a65c_get_915e3_9 rfl ?_
  refine ev_iload_n dJx4a65c_get_915e3_10 rfl ?_
  refine ev_callV dJx4a65c_get_915e3_11 okJx4a65c_elementData_915e3 inJx4a65c_elementData_915e3 seJx4a65c_elementData_915e3 mlJx4a65c_123 h9 (by decide) rfl [iV _] rfl rfl (Nat.le_of_ble_eq_true rfl) (Nat.le_of_ble_eq_true rfl) (cs_elem h9 h2 hka hla (by omega) (by omega) hb) (fun r_ G_ h_ => ?_)
  obtain ⟨rfl, rfl⟩ := h_
  try dsimp only [Option.toList, List.cons_append, List.nil_append]
  refine ev_areturn dJx4a65c_get_915e3_14 rfl ?_
  exact ⟨rfl, rfl⟩
theorem cs_newLen {a g p : Nat} (hb : a ≤ 10000) (hg : g ≤ 10000) (hp : p ≤ 10000) {G : GH} : EvM X mJ8_newLength_cabcc (d + 1) [iV (nI a), iV (nI g), iV (nI p)] G (fun r G' => r = some (iV (nI (a + max g p))) ∧ G' = G) := by
  have e1 := mxN (a := g) (b := p) (by omega) (by omega)
  show Ev X mJ8_newLength_cabcc (d + 1) 0 [some (iV (nI a)), some (iV (nI g)), some (iV (nI p)), none] [] G _
  have hx : a + max g p < 2147483639 := by omega
  have c16' : ¬ (2147483639 : Int32) < nI (a + max g p) := by
    rw [show (2147483639 : Int32) = nI 2147483639 by decide, nI_lt (by omega) (by omega)]; omega
  refine ev_iload_n dJ8_newLength_cabcc_0 rfl ?_
  refine ev_iload_n dJ8_newLength_cabcc_1 rfl ?_
  refine ev_iload_n dJ8_newLength_cabcc_2 rfl ?_
  refine ev_maxI dJ8_newLength_cabcc_3 mpJ8_194 (Nat.le_of_ble_eq_true rfl) ?_
  rw [e1]
  refine ev_iaddN dJ8_newLength_cabcc_6 ?_
  refine ev_istore_nS dJ8_newLength_cabcc_7 (by decide) rfl ?_
  refine ev_iconstN 0 dJ8_newLength_cabcc_8 (by decide) ?_
  refine ev_iload_n dJ8_newLength_cabcc_9 rfl ?_
  refine ev_icmp_geN 21 dJ8_newLength_cabcc_10 (by decide) (by omega) (by omega) (fun c10 => absurd c10 (by omega)) (fun c10 => ?_)
  refine ev_iload_n dJ8_newLength_cabcc_13 rfl ?_
  refine ev_ldc dJ8_newLength_cabcc_14 coJ8_200 ?_
  refine ev_icmp_gt 21 dJ8_newLength_cabcc_16 (by decide) (fun c16 => absurd c16 c16') (fun c16 => ?_)
  refine ev_iload_n dJ8_newLength_cabcc_19 rfl ?_
  refine ev_ireturn dJ8_newLength_cabcc_20 rfl ?_
  exact ⟨rfl, rfl⟩
theorem cs_copy3 {a m m' : Nat} (ha : a < n) (hka : K a = 106) (hla : Ln a = m) (hm : m ≤ m') (hm' : m' ≤ 65536) (hel : ∀ j, j < m → ∀ y, B a j = some y → K y = 5 ∧ y < n) : EvM X mJ7_copyOf_6403c (d + 1) [rV (some a), iV (nI m'), rV (some 1)] (K, I, J, R, A, B, Ln, n, sl) (fun r G' => r = some (rV (some n)) ∧ G' = (va_up K n 106, I, J, R, A, cpB B a n 0 0 m, va_up Ln n m', n + 1, sl + m')) := by
  have e1 := mnN (a := m) (b := m') (by omega) (by omega)
  rw [Nat.min_eq_left hm] at e1
  have k1 : va_up K n 106 a = 106 := by rw [va_up_ne _ _ (by omega)]; exact hka
  have k2 : va_up K n 106 n = 106 := va_up_self _ _
  have l1 : va_up Ln n m' a = m := by rw [va_up_ne _ _ (by omega)]; exact hla
  have l2 : va_up Ln n m' n = m' := va_up_self _ _
  have hel' : ∀ j, j < m → ∀ y, B a (0 + j) = some y → va_up K n 106 y = 5 := fun j hj y hy => by
    rw [Nat.zero_add] at hy
    obtain ⟨z1, z2⟩ := hel j hj y hy
    rw [va_up_ne _ _ (by omega)]; exact z1
  show Ev X mJ7_copyOf_6403c (d + 1) 0 [some (rV (some a)), some (iV (nI m')), some (rV (some 1)), none] [] (K, I, J, R, A, B, Ln, n, sl) _
  refine ev_aload_n dJ7_copyOf_6403c_0 rfl ?_
  refine ev_ldcM dJ7_copyOf_6403c_1 clJ7_110 ?_
  refine ev_acmp_neS dJ7_copyOf_6403c_3 13 (by decide) ?_
  refine ev_iload_n dJ7_copyOf_6403c_6 rfl ?_
  refine ev_newR (q := 6) dJ7_copyOf_6403c_7 clJ7_2 (by decide) (by decide) hm' ?_
  refine ev_goto 24 dJ7_copyOf_6403c_10 (by decide) ?_
  refine ev_astore_nS dJ7_copyOf_6403c_24 (by decide) rfl ?_
  refine ev_aload_n dJ7_copyOf_6403c_25 rfl ?_
  refine ev_iconstN 0 dJ7_copyOf_6403c_26 (by decide) ?_
  refine ev_aload_n dJ7_copyOf_6403c_27 rfl ?_
  refine ev_iconstN 0 dJ7_copyOf_6403c_28 (by decide) ?_
  refine ev_aload_n dJ7_copyOf_6403c_29 rfl ?_
  refine ev_alen (q := 6) dJ7_copyOf_6403c_30 k1 (by decide) l1 ?_
  refine ev_iload_n dJ7_copyOf_6403c_31 rfl ?_
  refine ev_minI dJ7_copyOf_6403c_32 mpJ7_304 (Nat.le_of_ble_eq_true rfl) ?_
  rw [e1]
  refine ev_acopy dJ7_copyOf_6403c_35 ac_lA k1 k2 l1 l2 (by omega) (by omega) (by omega) (by omega) hel' (Nat.le_of_ble_eq_true rfl) ?_
  refine ev_aload_n dJ7_copyOf_6403c_38 rfl ?_
  refine ev_areturnA dJ7_copyOf_6403c_39 rfl ?_
  exact ⟨rfl, rfl⟩
theorem cs_copy2 {a m m' : Nat} (ha : a < n) (hka : K a = 106) (hla : Ln a = m) (hm : m ≤ m') (hm' : m' ≤ 65536) (hel : ∀ j, j < m → ∀ y, B a j = some y → K y = 5 ∧ y < n) : EvM X mJ7_copyOf_1904c (d + 2) [rV (some a), iV (nI m')] (K, I, J, R, A, B, Ln, n, sl) (fun r G' => r = some (rV (some n)) ∧ G' = (va_up K n 106, I, J, R, A, cpB B a n 0 0 m, va_up Ln n m', n + 1, sl + m')) := by
  show Ev X mJ7_copyOf_1904c (d + 2) 0 [some (rV (some a)), some (iV (nI m'))] [] (K, I, J, R, A, B, Ln, n, sl) _
  refine ev_aload_n dJ7_copyOf_1904c_0 rfl ?_
  refine ev_iload_n dJ7_copyOf_1904c_1 rfl ?_
  refine ev_aload_n dJ7_copyOf_1904c_2 rfl ?_
  refine ev_getC dJ7_copyOf_1904c_3 gc_l hka (Nat.le_of_ble_eq_true rfl) ?_
  refine ev_callS dJ7_copyOf_1904c_6 okJ7_copyOf_6403c stJ7_copyOf_6403c mlJ7_300 [rV _, iV _, rV _] rfl rfl (Nat.le_of_ble_eq_true rfl) (Nat.le_of_ble_eq_true rfl) (cs_copy3 ha hka hla hm hm' hel) (fun r_ G_ h_ => ?_)
  obtain ⟨rfl, rfl⟩ := h_
  try dsimp only [Option.toList, List.cons_append, List.nil_append]
  refine ev_areturnA dJ7_copyOf_1904c_9 rfl ?_
  exact ⟨rfl, rfl⟩
theorem cs_grow0 (h9 : K 9 = 10) (h2 : R 641 9 = some 0) (hn : 9 < n) : EvM X mJx4a65c_grow_92f84 (d + 3) [rV (some 9), iV (nI 1)] (K, I, J, R, A, B, Ln, n, sl) (fun r G' => r = some (rV (some n)) ∧ G' = (va_up K n 106, I, J, u2 R 641 9 (some n), A, B, va_up Ln n 10, n + 1, sl + 10)) := by
  have e1 := mxN (a := 10) (b := 1) (by omega) (by omega)
  have k9 : va_up K n 106 9 = 10 := by rw [va_up_ne _ _ (by omega)]; exact h9
  show Ev X mJx4a65c_grow_92f84 (d + 3) 0 [some (rV (some 9)), some (iV (nI 1)), none, none] [] (K, I, J, R, A, B, Ln, n, sl) _
  refine ev_aload_n dJx4a65c_grow_92f84_0 rfl ?_
  refine ev_getR dJx4a65c_grow_92f84_1 fJx4a65c_9 h9 h2 ?_
  refine ev_alenE dJx4a65c_grow_92f84_4 ?_
  refine ev_istore_nS dJx4a65c_grow_92f84_5 (by decide) rfl ?_
  refine ev_iload_n dJx4a65c_grow_92f84_6 rfl ?_
  refine ev_if_gtN 20 dJx4a65c_grow_92f84_7 (by decide) (by omega) (fun c7 => absurd c7 (by decide)) (fun c7 => ?_)
  refine ev_aload_n dJx4a65c_grow_92f84_10 rfl ?_
  refine ev_getR dJx4a65c_grow_92f84_11 fJx4a65c_9 h9 h2 ?_
  refine ev_getE dJx4a65c_grow_92f84_14 ge_l ?_
  refine ev_acmp_eq 45 dJx4a65c_grow_92f84_17 (by decide) (Or.inl rfl) (Or.inl rfl) (fun c17 => ?_) (fun c17 => absurd rfl c17)
  refine ev_aload_n dJx4a65c_grow_92f84_45 rfl ?_
  refine ev_bipushN 10 dJx4a65c_grow_92f84_46 (by decide) ?_
  refine ev_iload_n dJx4a65c_grow_92f84_48 rfl ?_
  refine ev_maxI dJx4a65c_grow_92f84_49 mpJx4a65c_79 (Nat.le_of_ble_eq_true rfl) ?_
  rw [e1]
  refine ev_newR (q := 6) dJx4a65c_grow_92f84_52 clJx4a65c_7 (by decide) (by decide) (by decide) ?_
  refine ev_dup_x1 dJx4a65c_grow_92f84_55 rfl rfl ?_
  refine ev_putR dJx4a65c_grow_92f84_56 fJx4a65c_9 (Or.inl rfl) k9 ?_
  refine ev_areturnA dJx4a65c_grow_92f84_59 rfl ?_
  exact ⟨rfl, rfl⟩
theorem cs_grow1 (h9 : K 9 = 10) {a m : Nat} (h2 : R 641 9 = some a) (ha : a < n) (ha3 : 34 ≤ a) (hka : K a = 106) (hla : Ln a = m) (hm0 : 0 < m) (hm : m ≤ 800) (hel : ∀ j, j < m → ∀ y, B a j = some y → K y = 5 ∧ y < n) : EvM X mJx4a65c_grow_92f84 (d + 3) [rV (some 9), iV (nI (m + 1))] (K, I, J, R, A, B, Ln, n, sl) (fun r G' => r = some (rV (some n)) ∧ G' = (va_up K n 106, I, J, u2 R 641 9 (some n), A, cpB B a n 0 0 m, va_up Ln n (m + max 1 (m / 2)), n + 1, sl + (m + max 1 (m / 2)))) := by
  have k9 : va_up K n 106 9 = 10 := by rw [va_up_ne _ _ (by omega)]; exact h9
  have e1 := shr1 m hm
  have e2 : m + 1 - m = 1 := by omega
  show Ev X mJx4a65c_grow_92f84 (d + 3) 0 [some (rV (some 9)), some (iV (nI (m + 1))), none, none] [] (K, I, J, R, A, B, Ln, n, sl) _
  refine ev_aload_n dJx4a65c_grow_92f84_0 rfl ?_
  refine ev_getR dJx4a65c_grow_92f84_1 fJx4a65c_9 h9 h2 ?_
  refine ev_alen (q := 6) dJx4a65c_grow_92f84_4 hka (by decide) hla ?_
  refine ev_istore_nS dJx4a65c_grow_92f84_5 (by decide) rfl ?_
  refine ev_iload_n dJx4a65c_grow_92f84_6 rfl ?_
  refine ev_if_gtN 20 dJx4a65c_grow_92f84_7 (by decide) (by omega) (fun c7 => ?_) (fun c7 => absurd c7 (by omega))
  refine ev_iload_n dJx4a65c_grow_92f84_20 rfl ?_
  refine ev_iload_n dJx4a65c_grow_92f84_21 rfl ?_
  refine ev_iload_n dJx4a65c_grow_92f84_22 rfl ?_
  refine ev_isubN dJx4a65c_grow_92f84_23 (by omega) ?_
  refine ev_iload_n dJx4a65c_grow_92f84_24 rfl ?_
  refine ev_iconstN 1 dJx4a65c_grow_92f84_25 (by decide) ?_
  refine ev_ishr dJx4a65c_grow_92f84_26 ?_
  rw [e1, e2]
  refine ev_callS dJx4a65c_grow_92f84_27 okJ8_newLength_cabcc stJ8_newLength_cabcc mlJx4a65c_73 [iV _, iV _, iV _] rfl rfl (Nat.le_of_ble_eq_true rfl) (Nat.le_of_ble_eq_true rfl) (cs_newLen (by omega) (by omega) (by omega)) (fun r_ G_ h_ => ?_)
  obtain ⟨rfl, rfl⟩ := h_
  try dsimp only [Option.toList, List.cons_append, List.nil_append]
  refine ev_istore_nS dJx4a65c_grow_92f84_30 (by decide) rfl ?_
  refine ev_aload_n dJx4a65c_grow_92f84_31 rfl ?_
  refine ev_aload_n dJx4a65c_grow_92f84_32 rfl ?_
  refine ev_getR dJx4a65c_grow_92f84_33 fJx4a65c_9 h9 h2 ?_
  refine ev_iload_n dJx4a65c_grow_92f84_36 rfl ?_
  refine ev_callS dJx4a65c_grow_92f84_37 okJ7_copyOf_1904c stJ7_copyOf_1904c mlJx4a65c_66 [rV _, iV _] rfl rfl (Nat.le_of_ble_eq_true rfl) (Nat.le_of_ble_eq_true rfl) (cs_copy2 ha hka hla (by omega) (by omega) hel) (fun r_ G_ h_ => ?_)
  obtain ⟨rfl, rfl⟩ := h_
  try dsimp only [Option.toList, List.cons_append, List.nil_append]
  refine ev_dup_x1 dJx4a65c_grow_92f84_40 rfl rfl ?_
  refine ev_putR dJx4a65c_grow_92f84_41 fJx4a65c_9 (Or.inl rfl) k9 ?_
  refine ev_areturnA dJx4a65c_grow_92f84_44 rfl ?_
  exact ⟨rfl, rfl⟩

end C73
