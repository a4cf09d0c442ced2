section PURE
variable {X : CX} {M : MD} {d pc : Nat} {L : List (Option LV)} {S : List LV} {G : GH} {Q : Option LV → GH → Prop}
theorem ev_iconst {n : Int} (v : Int32) (hd : decode M.2.1 pc = .ok (.iconst n, 1)) (hv : Int32.ofInt n = v) (k : Ev X M d (pc + 1) L (iV v :: S) G Q) : Ev X M d pc L (S) G Q := k.ps (fun _ _ _ _ _ _ _ _ _ C _ _ _ _ ls _ hS hl kk => lv_iconst C.1 C.2.1 hd hv (kk ls hl))
theorem ev_bipush {n : Int} (v : Int32) (hd : decode M.2.1 pc = .ok (.bipush n, 2)) (hv : (Int8.ofInt n).toInt32 = v) (k : Ev X M d (pc + 2) L (iV v :: S) G Q) : Ev X M d pc L (S) G Q := k.ps (fun _ _ _ _ _ _ _ _ _ C _ _ _ _ ls _ hS hl kk => lv_bipush C.1 C.2.1 hd hv (kk ls hl))
theorem ev_sipush {n : Int} (v : Int32) (hd : decode M.2.1 pc = .ok (.sipush n, 3)) (hv : (Int16.ofInt n).toInt32 = v) (k : Ev X M d (pc + 3) L (iV v :: S) G Q) : Ev X M d pc L (S) G Q := k.ps (fun _ _ _ _ _ _ _ _ _ C _ _ _ _ ls _ hS hl kk => lv_sipush C.1 C.2.1 hd hv (kk ls hl))
theorem ev_lconst {n : Fin 2} (v : Int64) (hd : decode M.2.1 pc = .ok (.lconst n, 1)) (hv : Int64.ofNat (n : Nat) = v) (k : Ev X M d (pc + 1) L (lV v :: S) G Q) : Ev X M d pc L (S) G Q := k.ps (fun _ _ _ _ _ _ _ _ _ C _ _ _ _ ls _ hS hl kk => lv_lconst C.1 C.2.1 hd hv (kk ls hl))
theorem ev_null  (hd : decode M.2.1 pc = .ok (.aconst_null, 1)) (k : Ev X M d (pc + 1) L (rV none :: S) G Q) : Ev X M d pc L (S) G Q := k.ps (fun _ _ _ _ _ _ _ _ _ C _ _ _ _ ls _ hS hl kk => lv_null C.1 C.2.1 hd (kk ls hl))
theorem ev_ldc {i : Nat} {v : Int32} (hd : decode M.2.1 pc = .ok (.ldc i, 2)) (hc : Cond.constant M.1.cls i v ∈ lw_g) (k : Ev X M d (pc + 2) L (iV v :: S) G Q) : Ev X M d pc L S G Q := k.ps (fun _ _ _ _ _ _ _ _ _ C _ _ _ _ ls _ hS hl kk => lv_ldc C.1 C.2.1 C.2.2.2.2.1 (C.2.2.2.2.2.1 _ hc) hd (kk ls hl))
theorem ev_ldcw {i : Nat} {v : Int32} (hd : decode M.2.1 pc = .ok (.ldc_w i, 3)) (hc : Cond.constant M.1.cls i v ∈ lw_g) (k : Ev X M d (pc + 3) L (iV v :: S) G Q) : Ev X M d pc L S G Q := k.ps (fun _ _ _ _ _ _ _ _ _ C _ _ _ _ ls _ hS hl kk => lv_ldcw C.1 C.2.1 C.2.2.2.2.1 (C.2.2.2.2.2.1 _ hc) hd (kk ls hl))
theorem ev_ldc2 {i : Nat} {v : Int64} (hd : decode M.2.1 pc = .ok (.ldc2_w i, 3)) (hc : Cond.constantLong M.1.cls i v ∈ lw_g) (k : Ev X M d (pc + 3) L (lV v :: S) G Q) : Ev X M d pc L S G Q := k.ps (fun _ _ _ _ _ _ _ _ _ C _ _ _ _ ls _ hS hl kk => lv_ldc2 C.1 C.2.1 C.2.2.2.2.1 (C.2.2.2.2.2.1 _ hc) hd (kk ls hl))
theorem ev_iload_n {j : Fin 4} {x : Int32} (hd : decode M.2.1 pc = .ok (.iload_n j, 1)) (hv : L[(j : Nat)]? = some (some (iV x))) (k : Ev X M d (pc + 1) L (iV x :: S) G Q) : Ev X M d pc L (S) G Q := k.ps (fun _ _ _ _ _ _ _ _ _ C _ _ _ _ ls _ hS hl kk => lv_iload_n C.1 C.2.1 hd rfl (hl.2.2 _ _ hv) (kk ls hl))
theorem ev_iload {j : Nat} {x : Int32} (hd : decode M.2.1 pc = .ok (.iload j, 2)) (hv : L[j]? = some (some (iV x))) (k : Ev X M d (pc + 2) L (iV x :: S) G Q) : Ev X M d pc L (S) G Q := k.ps (fun _ _ _ _ _ _ _ _ _ C _ _ _ _ ls _ hS hl kk => lv_iload C.1 C.2.1 hd (hl.2.2 _ _ hv) (kk ls hl))
theorem ev_lload_n {j : Fin 4} {x : Int64} (hd : decode M.2.1 pc = .ok (.lload_n j, 1)) (hv : L[(j : Nat)]? = some (some (lV x))) (k : Ev X M d (pc + 1) L (lV x :: S) G Q) : Ev X M d pc L (S) G Q := k.ps (fun _ _ _ _ _ _ _ _ _ C _ _ _ _ ls _ hS hl kk => lv_lload_n C.1 C.2.1 hd rfl (hl.2.2 _ _ hv) (kk ls hl))
theorem ev_lload {j : Nat} {x : Int64} (hd : decode M.2.1 pc = .ok (.lload j, 2)) (hv : L[j]? = some (some (lV x))) (k : Ev X M d (pc + 2) L (lV x :: S) G Q) : Ev X M d pc L (S) G Q := k.ps (fun _ _ _ _ _ _ _ _ _ C _ _ _ _ ls _ hS hl kk => lv_lload C.1 C.2.1 hd (hl.2.2 _ _ hv) (kk ls hl))
theorem ev_aload_n {j : Fin 4} {r : Option Nat} (hd : decode M.2.1 pc = .ok (.aload_n j, 1)) (hv : L[(j : Nat)]? = some (some (rV r))) (k : Ev X M d (pc + 1) L (rV r :: S) G Q) : Ev X M d pc L S G Q := by
  cases r with
  | none => exact k.ps (fun _ _ _ _ _ _ _ _ _ C _ _ _ _ ls _ hS hl kk => lv_aload_nN C.1 C.2.1 hd rfl (hl.2.2 _ _ hv) (kk ls hl))
  | some x => exact k.ps (fun _ _ _ _ _ _ _ _ _ C _ _ _ _ ls _ hS hl kk => lv_aload_n C.1 C.2.1 hd rfl (hl.2.2 _ _ hv) (kk ls hl))
theorem ev_aload {j : Nat} {r : Option Nat} (hd : decode M.2.1 pc = .ok (.aload j, 2)) (hv : L[j]? = some (some (rV r))) (k : Ev X M d (pc + 2) L (rV r :: S) G Q) : Ev X M d pc L S G Q := by
  cases r with
  | none => exact k.ps (fun _ _ _ _ _ _ _ _ _ C _ _ _ _ ls _ hS hl kk => lv_aloadN C.1 C.2.1 hd (hl.2.2 _ _ hv) (kk ls hl))
  | some x => exact k.ps (fun _ _ _ _ _ _ _ _ _ C _ _ _ _ ls _ hS hl kk => lv_aload C.1 C.2.1 hd (hl.2.2 _ _ hv) (kk ls hl))
theorem ev_iadd {x y : Int32} (hd : decode M.2.1 pc = .ok (.iadd, 1)) (k : Ev X M d (pc + 1) L (iV (x + y) :: S) G Q) : Ev X M d pc L (iV y :: iV x :: S) G Q := k.ps (fun _ _ _ _ _ _ _ _ _ C _ _ _ _ ls _ hS hl kk => lv_iadd C.1 C.2.1 hd (kk ls hl))
theorem ev_isub {x y : Int32} (hd : decode M.2.1 pc = .ok (.isub, 1)) (k : Ev X M d (pc + 1) L (iV (x - y) :: S) G Q) : Ev X M d pc L (iV y :: iV x :: S) G Q := k.ps (fun _ _ _ _ _ _ _ _ _ C _ _ _ _ ls _ hS hl kk => lv_isub C.1 C.2.1 hd (kk ls hl))
theorem ev_imul {x y : Int32} (hd : decode M.2.1 pc = .ok (.imul, 1)) (k : Ev X M d (pc + 1) L (iV (x * y) :: S) G Q) : Ev X M d pc L (iV y :: iV x :: S) G Q := k.ps (fun _ _ _ _ _ _ _ _ _ C _ _ _ _ ls _ hS hl kk => lv_imul C.1 C.2.1 hd (kk ls hl))
theorem ev_iand {x y : Int32} (hd : decode M.2.1 pc = .ok (.iand, 1)) (k : Ev X M d (pc + 1) L (iV (x &&& y) :: S) G Q) : Ev X M d pc L (iV y :: iV x :: S) G Q := k.ps (fun _ _ _ _ _ _ _ _ _ C _ _ _ _ ls _ hS hl kk => lv_iand C.1 C.2.1 hd (kk ls hl))
theorem ev_ior {x y : Int32} (hd : decode M.2.1 pc = .ok (.ior, 1)) (k : Ev X M d (pc + 1) L (iV (x ||| y) :: S) G Q) : Ev X M d pc L (iV y :: iV x :: S) G Q := k.ps (fun _ _ _ _ _ _ _ _ _ C _ _ _ _ ls _ hS hl kk => lv_ior C.1 C.2.1 hd (kk ls hl))
theorem ev_ixor {x y : Int32} (hd : decode M.2.1 pc = .ok (.ixor, 1)) (k : Ev X M d (pc + 1) L (iV (x ^^^ y) :: S) G Q) : Ev X M d pc L (iV y :: iV x :: S) G Q := k.ps (fun _ _ _ _ _ _ _ _ _ C _ _ _ _ ls _ hS hl kk => lv_ixor C.1 C.2.1 hd (kk ls hl))
theorem ev_idiv {x y : Int32} (hd : decode M.2.1 pc = .ok (.idiv, 1)) (hy : ¬ y = 0) (k : Ev X M d (pc + 1) L (iV (x / y) :: S) G Q) : Ev X M d pc L (iV y :: iV x :: S) G Q := k.ps (fun _ _ _ _ _ _ _ _ _ C _ _ _ _ ls _ hS hl kk => lv_idiv C.1 C.2.1 hd hy (kk ls hl))
theorem ev_irem {x y : Int32} (hd : decode M.2.1 pc = .ok (.irem, 1)) (hy : ¬ y = 0) (k : Ev X M d (pc + 1) L (iV (x - x / y * y) :: S) G Q) : Ev X M d pc L (iV y :: iV x :: S) G Q := k.ps (fun _ _ _ _ _ _ _ _ _ C _ _ _ _ ls _ hS hl kk => lv_irem C.1 C.2.1 hd hy (kk ls hl))
theorem ev_ineg {x : Int32} (hd : decode M.2.1 pc = .ok (.ineg, 1)) (k : Ev X M d (pc + 1) L (iV (-x) :: S) G Q) : Ev X M d pc L (iV x :: S) G Q := k.ps (fun _ _ _ _ _ _ _ _ _ C _ _ _ _ ls _ hS hl kk => lv_ineg C.1 C.2.1 hd (kk ls hl))
theorem ev_ishr {x y : Int32} (hd : decode M.2.1 pc = .ok (.ishr, 1)) (k : Ev X M d (pc + 1) L (iV (x >>> (y &&& 31)) :: S) G Q) : Ev X M d pc L (iV y :: iV x :: S) G Q := k.ps (fun _ _ _ _ _ _ _ _ _ C _ _ _ _ ls _ hS hl kk => lv_ishr C.1 C.2.1 hd (kk ls hl))
theorem ev_ladd {x y : Int64} (hd : decode M.2.1 pc = .ok (.ladd, 1)) (k : Ev X M d (pc + 1) L (lV (x + y) :: S) G Q) : Ev X M d pc L (lV y :: lV x :: S) G Q := k.ps (fun _ _ _ _ _ _ _ _ _ C _ _ _ _ ls _ hS hl kk => lv_ladd C.1 C.2.1 hd (kk ls hl))
theorem ev_lsub {x y : Int64} (hd : decode M.2.1 pc = .ok (.lsub, 1)) (k : Ev X M d (pc + 1) L (lV (x - y) :: S) G Q) : Ev X M d pc L (lV y :: lV x :: S) G Q := k.ps (fun _ _ _ _ _ _ _ _ _ C _ _ _ _ ls _ hS hl kk => lv_lsub C.1 C.2.1 hd (kk ls hl))
theorem ev_lshl {x : Int64} {y : Int32} (hd : decode M.2.1 pc = .ok (.lshl, 1)) (k : Ev X M d (pc + 1) L (lV (x <<< (y.toInt64 &&& 63)) :: S) G Q) : Ev X M d pc L (iV y :: lV x :: S) G Q := k.ps (fun _ _ _ _ _ _ _ _ _ C _ _ _ _ ls _ hS hl kk => lv_lshl C.1 C.2.1 hd rfl (kk ls hl))
theorem ev_i2l {x : Int32} (hd : decode M.2.1 pc = .ok (.i2l, 1)) (k : Ev X M d (pc + 1) L (lV x.toInt64 :: S) G Q) : Ev X M d pc L (iV x :: S) G Q := k.ps (fun _ _ _ _ _ _ _ _ _ C _ _ _ _ ls _ hS hl kk => lv_i2l C.1 C.2.1 hd rfl (kk ls hl))
theorem cx_cat1 (X : CX) : ∀ v : LV, (∀ y, v ≠ lV y) → (cx_v X v).category = 1
  | .inl _, _ => rfl
  | .inr (.inl y), h => absurd rfl (h y)
  | .inr (.inr none), _ => rfl
  | .inr (.inr (some _)), _ => rfl
def LV1 : LV → Bool
  | .inr (.inl _) => false
  | _ => true
theorem cx_c1 {X : CX} {v : LV} (h : LV1 v = true) : (cx_v X v).category = 1 := cx_cat1 X v (fun y e => by rw [e] at h; cases h)
theorem ev_dup {v : LV} (hd : decode M.2.1 pc = .ok (.dup, 1)) (hv : LV1 v = true) (k : Ev X M d (pc + 1) L (v :: v :: S) G Q) : Ev X M d pc L (v :: S) G Q := k.ps (fun _ _ _ _ _ _ _ _ _ C _ _ _ _ ls _ hS hl kk => lv_dup C.1 C.2.1 hd (cx_c1 hv) (kk ls hl))
theorem ev_pop {v : LV} (hd : decode M.2.1 pc = .ok (.pop, 1)) (hv : LV1 v = true) (k : Ev X M d (pc + 1) L (S) G Q) : Ev X M d pc L (v :: S) G Q := k.ps (fun _ _ _ _ _ _ _ _ _ C _ _ _ _ ls _ hS hl kk => lv_pop C.1 C.2.1 hd (cx_c1 hv) (kk ls hl))
theorem ev_dup_x1 {v v2 : LV} (hd : decode M.2.1 pc = .ok (.dup_x1, 1)) (hv : LV1 v = true) (hv2 : LV1 v2 = true) (k : Ev X M d (pc + 1) L (v :: v2 :: v :: S) G Q) : Ev X M d pc L (v :: v2 :: S) G Q := k.ps (fun _ _ _ _ _ _ _ _ _ C _ _ _ _ ls _ hS hl kk => lv_dup_x1 C.1 C.2.1 hd (cx_c1 hv) (cx_c1 hv2) (kk ls hl))
theorem ev_dup2_11 {v v2 : LV} (hd : decode M.2.1 pc = .ok (.dup2, 1)) (hv : LV1 v = true) (hv2 : LV1 v2 = true) (k : Ev X M d (pc + 1) L (v :: v2 :: v :: v2 :: S) G Q) : Ev X M d pc L (v :: v2 :: S) G Q := k.ps (fun _ _ _ _ _ _ _ _ _ C _ _ _ _ ls _ hS hl kk => lv_dup2_11 C.1 C.2.1 hd (cx_c1 hv) (cx_c1 hv2) (kk ls hl))
theorem ev_if_eq {x : Int32} {o : Int} (t : Nat) (hd : decode M.2.1 pc = .ok (.ifCond .eq o, 3)) (ht : (pc : Int) + o = (t : Int)) (kt : x = 0 → Ev X M d t L S G Q) (kf : ¬ (x = 0) → Ev X M d (pc + 3) L S G Q) : Ev X M d pc L (iV x :: S) G Q := by
  by_cases h : x = 0
  · exact (kt h).ps (fun _ _ _ _ _ _ _ _ _ C _ _ _ _ ls _ hS hl kk => lv_if_eq C.1 C.2.1 hd ht (fun _ => kk ls hl) (fun z => absurd h z))
  · exact (kf h).ps (fun _ _ _ _ _ _ _ _ _ C _ _ _ _ ls _ hS hl kk => lv_if_eq C.1 C.2.1 hd ht (fun z => absurd z h) (fun _ => kk ls hl))
theorem ev_if_lt {x : Int32} {o : Int} (t : Nat) (hd : decode M.2.1 pc = .ok (.ifCond .lt o, 3)) (ht : (pc : Int) + o = (t : Int)) (kt : x < 0 → Ev X M d t L S G Q) (kf : ¬ (x < 0) → Ev X M d (pc + 3) L S G Q) : Ev X M d pc L (iV x :: S) G Q := by
  by_cases h : x < 0
  · exact (kt h).ps (fun _ _ _ _ _ _ _ _ _ C _ _ _ _ ls _ hS hl kk => lv_if_lt C.1 C.2.1 hd ht (fun _ => kk ls hl) (fun z => absurd h z))
  · exact (kf h).ps (fun _ _ _ _ _ _ _ _ _ C _ _ _ _ ls _ hS hl kk => lv_if_lt C.1 C.2.1 hd ht (fun z => absurd z h) (fun _ => kk ls hl))
theorem ev_if_ge {x : Int32} {o : Int} (t : Nat) (hd : decode M.2.1 pc = .ok (.ifCond .ge o, 3)) (ht : (pc : Int) + o = (t : Int)) (kt : 0 ≤ x → Ev X M d t L S G Q) (kf : ¬ (0 ≤ x) → Ev X M d (pc + 3) L S G Q) : Ev X M d pc L (iV x :: S) G Q := by
  by_cases h : 0 ≤ x
  · exact (kt h).ps (fun _ _ _ _ _ _ _ _ _ C _ _ _ _ ls _ hS hl kk => lv_if_ge C.1 C.2.1 hd ht (fun _ => kk ls hl) (fun z => absurd h z))
  · exact (kf h).ps (fun _ _ _ _ _ _ _ _ _ C _ _ _ _ ls _ hS hl kk => lv_if_ge C.1 C.2.1 hd ht (fun z => absurd z h) (fun _ => kk ls hl))
theorem ev_if_gt {x : Int32} {o : Int} (t : Nat) (hd : decode M.2.1 pc = .ok (.ifCond .gt o, 3)) (ht : (pc : Int) + o = (t : Int)) (kt : 0 < x → Ev X M d t L S G Q) (kf : ¬ (0 < x) → Ev X M d (pc + 3) L S G Q) : Ev X M d pc L (iV x :: S) G Q := by
  by_cases h : 0 < x
  · exact (kt h).ps (fun _ _ _ _ _ _ _ _ _ C _ _ _ _ ls _ hS hl kk => lv_if_gt C.1 C.2.1 hd ht (fun _ => kk ls hl) (fun z => absurd h z))
  · exact (kf h).ps (fun _ _ _ _ _ _ _ _ _ C _ _ _ _ ls _ hS hl kk => lv_if_gt C.1 C.2.1 hd ht (fun z => absurd z h) (fun _ => kk ls hl))
theorem ev_if_le {x : Int32} {o : Int} (t : Nat) (hd : decode M.2.1 pc = .ok (.ifCond .le o, 3)) (ht : (pc : Int) + o = (t : Int)) (kt : x ≤ 0 → Ev X M d t L S G Q) (kf : ¬ (x ≤ 0) → Ev X M d (pc + 3) L S G Q) : Ev X M d pc L (iV x :: S) G Q := by
  by_cases h : x ≤ 0
  · exact (kt h).ps (fun _ _ _ _ _ _ _ _ _ C _ _ _ _ ls _ hS hl kk => lv_if_le C.1 C.2.1 hd ht (fun _ => kk ls hl) (fun z => absurd h z))
  · exact (kf h).ps (fun _ _ _ _ _ _ _ _ _ C _ _ _ _ ls _ hS hl kk => lv_if_le C.1 C.2.1 hd ht (fun z => absurd z h) (fun _ => kk ls hl))
theorem ev_icmp_eq {x y : Int32} {o : Int} (t : Nat) (hd : decode M.2.1 pc = .ok (.if_icmp .eq o, 3)) (ht : (pc : Int) + o = (t : Int)) (kt : x = y → Ev X M d t L S G Q) (kf : ¬ (x = y) → Ev X M d (pc + 3) L S G Q) : Ev X M d pc L (iV y :: iV x :: S) G Q := by
  by_cases h : x = y
  · exact (kt h).ps (fun _ _ _ _ _ _ _ _ _ C _ _ _ _ ls _ hS hl kk => lv_icmp_eq C.1 C.2.1 hd ht (fun _ => kk ls hl) (fun z => absurd h z))
  · exact (kf h).ps (fun _ _ _ _ _ _ _ _ _ C _ _ _ _ ls _ hS hl kk => lv_icmp_eq C.1 C.2.1 hd ht (fun z => absurd z h) (fun _ => kk ls hl))
theorem ev_icmp_lt {x y : Int32} {o : Int} (t : Nat) (hd : decode M.2.1 pc = .ok (.if_icmp .lt o, 3)) (ht : (pc : Int) + o = (t : Int)) (kt : x < y → Ev X M d t L S G Q) (kf : ¬ (x < y) → Ev X M d (pc + 3) L S G Q) : Ev X M d pc L (iV y :: iV x :: S) G Q := by
  by_cases h : x < y
  · exact (kt h).ps (fun _ _ _ _ _ _ _ _ _ C _ _ _ _ ls _ hS hl kk => lv_icmp_lt C.1 C.2.1 hd ht (fun _ => kk ls hl) (fun z => absurd h z))
  · exact (kf h).ps (fun _ _ _ _ _ _ _ _ _ C _ _ _ _ ls _ hS hl kk => lv_icmp_lt C.1 C.2.1 hd ht (fun z => absurd z h) (fun _ => kk ls hl))
theorem ev_icmp_ge {x y : Int32} {o : Int} (t : Nat) (hd : decode M.2.1 pc = .ok (.if_icmp .ge o, 3)) (ht : (pc : Int) + o = (t : Int)) (kt : y ≤ x → Ev X M d t L S G Q) (kf : ¬ (y ≤ x) → Ev X M d (pc + 3) L S G Q) : Ev X M d pc L (iV y :: iV x :: S) G Q := by
  by_cases h : y ≤ x
  · exact (kt h).ps (fun _ _ _ _ _ _ _ _ _ C _ _ _ _ ls _ hS hl kk => lv_icmp_ge C.1 C.2.1 hd ht (fun _ => kk ls hl) (fun z => absurd h z))
  · exact (kf h).ps (fun _ _ _ _ _ _ _ _ _ C _ _ _ _ ls _ hS hl kk => lv_icmp_ge C.1 C.2.1 hd ht (fun z => absurd z h) (fun _ => kk ls hl))
theorem ev_icmp_gt {x y : Int32} {o : Int} (t : Nat) (hd : decode M.2.1 pc = .ok (.if_icmp .gt o, 3)) (ht : (pc : Int) + o = (t : Int)) (kt : y < x → Ev X M d t L S G Q) (kf : ¬ (y < x) → Ev X M d (pc + 3) L S G Q) : Ev X M d pc L (iV y :: iV x :: S) G Q := by
  by_cases h : y < x
  · exact (kt h).ps (fun _ _ _ _ _ _ _ _ _ C _ _ _ _ ls _ hS hl kk => lv_icmp_gt C.1 C.2.1 hd ht (fun _ => kk ls hl) (fun z => absurd h z))
  · exact (kf h).ps (fun _ _ _ _ _ _ _ _ _ C _ _ _ _ ls _ hS hl kk => lv_icmp_gt C.1 C.2.1 hd ht (fun z => absurd z h) (fun _ => kk ls hl))
theorem ev_icmp_le {x y : Int32} {o : Int} (t : Nat) (hd : decode M.2.1 pc = .ok (.if_icmp .le o, 3)) (ht : (pc : Int) + o = (t : Int)) (kt : x ≤ y → Ev X M d t L S G Q) (kf : ¬ (x ≤ y) → Ev X M d (pc + 3) L S G Q) : Ev X M d pc L (iV y :: iV x :: S) G Q := by
  by_cases h : x ≤ y
  · exact (kt h).ps (fun _ _ _ _ _ _ _ _ _ C _ _ _ _ ls _ hS hl kk => lv_icmp_le C.1 C.2.1 hd ht (fun _ => kk ls hl) (fun z => absurd h z))
  · exact (kf h).ps (fun _ _ _ _ _ _ _ _ _ C _ _ _ _ ls _ hS hl kk => lv_icmp_le C.1 C.2.1 hd ht (fun z => absurd z h) (fun _ => kk ls hl))
theorem ev_if_ne {x : Int32} {o : Int} (t : Nat) (hd : decode M.2.1 pc = .ok (.ifCond .ne o, 3)) (ht : (pc : Int) + o = (t : Int)) (kt : ¬ x = 0 → Ev X M d t L S G Q) (kf : x = 0 → Ev X M d (pc + 3) L S G Q) : Ev X M d pc L (iV x :: S) G Q := by
  by_cases h : x = 0
  · exact (kf h).ps (fun _ _ _ _ _ _ _ _ _ C _ _ _ _ ls _ hS hl kk => lv_if_ne C.1 C.2.1 hd ht (fun z => absurd h z) (fun _ => kk ls hl))
  · exact (kt h).ps (fun _ _ _ _ _ _ _ _ _ C _ _ _ _ ls _ hS hl kk => lv_if_ne C.1 C.2.1 hd ht (fun _ => kk ls hl) (fun z => absurd z h))
theorem ev_icmp_ne {x y : Int32} {o : Int} (t : Nat) (hd : decode M.2.1 pc = .ok (.if_icmp .ne o, 3)) (ht : (pc : Int) + o = (t : Int)) (kt : ¬ x = y → Ev X M d t L S G Q) (kf : x = y → Ev X M d (pc + 3) L S G Q) : Ev X M d pc L (iV y :: iV x :: S) G Q := by
  by_cases h : x = y
  · exact (kf h).ps (fun _ _ _ _ _ _ _ _ _ C _ _ _ _ ls _ hS hl kk => lv_icmp_ne C.1 C.2.1 hd ht (fun z => absurd h z) (fun _ => kk ls hl))
  · exact (kt h).ps (fun _ _ _ _ _ _ _ _ _ C _ _ _ _ ls _ hS hl kk => lv_icmp_ne C.1 C.2.1 hd ht (fun _ => kk ls hl) (fun z => absurd z h))
theorem ev_goto {o : Int} (t : Nat) (hd : decode M.2.1 pc = .ok (.goto o, 3)) (ht : (pc : Int) + o = (t : Int)) (k : Ev X M d t L S G Q) : Ev X M d pc L S G Q := k.ps (fun _ _ _ _ _ _ _ _ _ C _ _ _ _ ls _ hS hl kk => lv_goto C.1 C.2.1 hd ht (kk ls hl))
theorem ev_ifnull {r : Option Nat} {o : Int} (t : Nat) (hd : decode M.2.1 pc = .ok (.ifnull o, 3)) (ht : (pc : Int) + o = (t : Int)) (kt : r = none → Ev X M d t L S G Q) (kf : ∀ x, r = some x → Ev X M d (pc + 3) L S G Q) : Ev X M d pc L (rV r :: S) G Q := by
  cases r with
  | none => exact (kt rfl).ps (fun _ _ _ _ _ _ _ _ _ C _ _ _ _ ls _ hS hl kk => lv_ifnullN C.1 C.2.1 hd ht (kk ls hl))
  | some x => exact (kf x rfl).ps (fun _ _ _ _ _ _ _ _ _ C _ _ _ _ ls _ hS hl kk => lv_ifnull C.1 C.2.1 hd (kk ls hl))
theorem ev_ifnonnull {r : Option Nat} {o : Int} (t : Nat) (hd : decode M.2.1 pc = .ok (.ifnonnull o, 3)) (ht : (pc : Int) + o = (t : Int)) (kt : ∀ x, r = some x → Ev X M d t L S G Q) (kf : r = none → Ev X M d (pc + 3) L S G Q) : Ev X M d pc L (rV r :: S) G Q := by
  cases r with
  | none => exact (kf rfl).ps (fun _ _ _ _ _ _ _ _ _ C _ _ _ _ ls _ hS hl kk => lv_ifnonnullN C.1 C.2.1 hd (kk ls hl))
  | some x => exact (kt x rfl).ps (fun _ _ _ _ _ _ _ _ _ C _ _ _ _ ls _ hS hl kk => lv_ifnonnull C.1 C.2.1 hd ht (kk ls hl))
theorem ev_lcmp {x y : Int64} (hd : decode M.2.1 pc = .ok (.lcmp, 1)) (k : Ev X M d (pc + 1) L (iV (lg_cmp x y) :: S) G Q) : Ev X M d pc L (lV y :: lV x :: S) G Q := k.ps (fun _ _ _ _ _ _ _ _ _ C _ _ _ _ ls _ hS hl kk => W.lcmp C.1 C.2.1 hd (kk ls hl))
theorem ev_tswOut {x : Int32} {f lo hi : Int} {os : Array Int} {n : Nat} (t : Nat) (hd : decode M.2.1 pc = .ok (.tableswitch f lo hi os, n)) (h : x.toInt < lo ∨ hi < x.toInt) (ht : (pc : Int) + f = (t : Int)) (k : Ev X M d t L S G Q) : Ev X M d pc L (iV x :: S) G Q := k.ps (fun _ _ _ _ _ _ _ _ _ C _ _ _ _ ls _ hS hl kk => lv_tableOut C.1 C.2.1 hd h ht (kk ls hl))
theorem ev_tswIn {x : Int32} {f lo hi : Int} {os : Array Int} {n : Nat} {o : Int} (t : Nat) (hd : decode M.2.1 pc = .ok (.tableswitch f lo hi os, n)) (h1 : ¬ x.toInt < lo) (h2 : ¬ hi < x.toInt) (ho : os[(x.toInt - lo).toNat]? = some o) (ht : (pc : Int) + o = (t : Int)) (k : Ev X M d t L S G Q) : Ev X M d pc L (iV x :: S) G Q := k.ps (fun _ _ _ _ _ _ _ _ _ C _ _ _ _ ls _ hS hl kk => lv_tableIn C.1 C.2.1 hd h1 h2 ho ht (kk ls hl))
/-- an id that acmp may look at: null, the empty array, a made cell -/
def acId : Option Nat → Prop
  | none => True
  | some i => i = 0 ∨ 3 ≤ i
theorem acId.inj {X : CX} {a b : Option Nat} (h0 : cx_ad X 0 < cx_b X) (ha : acId a) (hb : acId b) (h : a.map (cx_ad X) = b.map (cx_ad X)) : a = b := by
  cases a with
  | none => cases b with
    | none => rfl
    | some j => cases h
  | some i => cases b with
    | none => cases h
    | some j =>
      have h := Option.some.inj h
      have e : ∀ k : Nat, 3 ≤ k → cx_ad X k = cx_b X + (k - 3) := fun k hk => by unfold cx_ad; rw [if_neg (by omega), if_neg (by omega), if_neg (by omega)]
      rcases ha with rfl | ha <;> rcases hb with rfl | hb
      · rfl
      · rw [e j hb] at h; omega
      · rw [e i ha] at h; omega
      · rw [e i ha, e j hb] at h
        exact congrArg some (by omega)
theorem ev_acmp_eq {a b : Option Nat} {o : Int} (t : Nat) (hd : decode M.2.1 pc = .ok (.if_acmp .eq o, 3)) (ht : (pc : Int) + o = (t : Int)) (ha : acId a) (hb : acId b) (kt : a = b → Ev X M d t L S G Q) (kf : ¬ a = b → Ev X M d (pc + 3) L S G Q) : Ev X M d pc L (rV b :: rV a :: S) G Q := by
  by_cases h : a = b
  · exact (kt h).ps (fun _ _ _ _ _ _ _ _ _ C _ _ _ _ ls _ hS hl kk => lv_acmp_eq C.1 C.2.1 hd ht (fun _ => kk ls hl) (fun z => absurd (by rw [h]) z))
  · exact (kf h).ps (fun _ _ _ _ _ _ _ _ _ C _ _ _ _ ls _ hS hl kk => lv_acmp_eq C.1 C.2.1 hd ht (fun z => absurd (acId.inj (Nat.not_le.mp (va_T.out C.2.2.2.2.2.2.2.2.1.2.2.2.2.1.2.1)) ha hb z) h) (fun _ => kk ls hl))
theorem ev_acmp_ne {a b : Option Nat} {o : Int} (t : Nat) (hd : decode M.2.1 pc = .ok (.if_acmp .ne o, 3)) (ht : (pc : Int) + o = (t : Int)) (ha : acId a) (hb : acId b) (kt : ¬ a = b → Ev X M d t L S G Q) (kf : a = b → Ev X M d (pc + 3) L S G Q) : Ev X M d pc L (rV b :: rV a :: S) G Q := by
  by_cases h : a = b
  · exact (kf h).ps (fun _ _ _ _ _ _ _ _ _ C _ _ _ _ ls _ hS hl kk => lv_acmp_ne C.1 C.2.1 hd ht (fun z => absurd (by rw [h]) z) (fun _ => kk ls hl))
  · exact (kt h).ps (fun _ _ _ _ _ _ _ _ _ C _ _ _ _ ls _ hS hl kk => lv_acmp_ne C.1 C.2.1 hd ht (fun _ => kk ls hl) (fun z => absurd (acId.inj (Nat.not_le.mp (va_T.out C.2.2.2.2.2.2.2.2.1.2.2.2.2.1.2.1)) ha hb z) h))
theorem ev_acmp_neS {a : Option Nat} {o : Int} (hd : decode M.2.1 pc = .ok (.if_acmp .ne o, 3)) (t : Nat) (ht : (pc : Int) + o = (t : Int)) (k : Ev X M d (pc + 3) L S G Q) : Ev X M d pc L (rV a :: rV a :: S) G Q := k.ps (fun _ _ _ _ _ _ _ _ _ C _ _ _ _ ls _ hS hl kk => lv_acmp_ne C.1 C.2.1 hd ht (fun z => absurd rfl z) (fun _ => kk ls hl))
def stL (L : List (Option LV)) (i : Nat) (v : LV) : List (Option LV) := match i with
  | 0 => L.set 0 (some v)
  | j + 1 => match L[j]? with
    | some (some (.inr (.inl _))) => (L.set j none).set (j + 1) (some v)
    | _ => L.set (j + 1) (some v)
/-- the listed values of the locals, as the kit has them -/
def lvl (X : CX) (L : List (Option LV)) : List (Nat × Value) := (List.range L.length).filterMap (fun i => match L[i]? with
  | some (some v) => some (i, cx_v X v)
  | _ => none)
theorem lvl_mem {X : CX} {L : List (Option LV)} {q : Nat × Value} : q ∈ lvl X L ↔ ∃ v, L[q.1]? = some (some v) ∧ q.2 = cx_v X v := by
  unfold lvl
  rw [List.mem_filterMap]
  constructor
  · rintro ⟨i, hi, h⟩
    split at h
    · next v hv => cases h; exact ⟨v, hv, rfl⟩
    · cases h
  · rintro ⟨v, hv, h⟩
    refine ⟨q.1, List.mem_range.mpr (List.getElem?_eq_some_iff.mp hv).1, ?_⟩
    rw [hv]
    exact congrArg some (Prod.ext rfl h.symm)
theorem lvOK.has {X : CX} {ls : Array Slot} {nL : Nat} {L : List (Option LV)} (h : lvOK X ls nL L) : lv_has ls nL (lvl X L) := ⟨h.1, h.2.1, fun q hq => by
  obtain ⟨v, h1, h2⟩ := lvl_mem.mp hq
  rw [h2]
  exact h.2.2 _ _ h1⟩
theorem cx_cat2 {X : CX} {v : LV} (h : (cx_v X v).category = 2) : ∃ y, v = lV y := by
  match v, h with
  | .inl _, h => cases h
  | .inr (.inl y), _ => exact ⟨y, rfl⟩
  | .inr (.inr none), h => cases h
  | .inr (.inr (some _)), h => cases h
theorem stL_ok {X : CX} {ls' : Array Slot} {nL i : Nat} {L : List (Option LV)} {v : LV} (h : lv_has ls' nL ((i, cx_v X v) :: (lvl X L).filter (fun q => !(q.1 == i) && !(q.1 + 1 == i && q.2.category == 2)))) : lvOK X ls' nL (stL L i v) := by
  refine ⟨h.1, h.2.1, fun j w hj => ?_⟩
  have key : ∀ (P : L[j]? = some (some w)) (hji : j ≠ i) (hn : ¬ (j + 1 = i ∧ ∃ y, w = lV y)), ls'[j]? = some (.val (cx_v X w)) := by
    intro P hji hn
    refine h.2.2 (j, cx_v X w) (List.mem_cons_of_mem _ (List.mem_filter.mpr ⟨lvl_mem.mpr ⟨w, P, rfl⟩, ?_⟩))
    simp only [Bool.and_eq_true, Bool.not_eq_true', beq_eq_false_iff_ne, ne_eq, Bool.and_eq_false_iff]
    refine ⟨hji, ?_⟩
    by_cases a : j + 1 = i
    · exact Or.inr (fun c => hn ⟨a, cx_cat2 c⟩)
    · exact Or.inl a
  have self : ∀ w', some w' = some v → ls'[i]? = some (.val (cx_v X w')) := fun w' e => by
    cases e
    exact h.2.2 (i, cx_v X v) List.mem_cons_self
  cases i with
  | zero =>
    simp only [stL] at hj
    by_cases a : j = 0
    · subst a
      rw [List.getElem?_set] at hj
      simp at hj
      exact self w (by rw [hj.2])
    · rw [List.getElem?_set_ne (fun e => a e.symm)] at hj
      exact key hj a (by omega)
  | succ n =>
    simp only [stL] at hj
    split at hj
    · next y hy =>
      by_cases a : j = n + 1
      · subst a
        rw [List.getElem?_set] at hj
        simp at hj
        exact self w (by rw [hj.2])
      · rw [List.getElem?_set_ne (fun e => a e.symm)] at hj
        by_cases b : j = n
        · subst b
          rw [List.getElem?_set] at hj
          simp at hj
        · rw [List.getElem?_set_ne (fun e => b e.symm)] at hj
          exact key hj a (by omega)
    · next hy =>
      by_cases a : j = n + 1
      · subst a
        rw [List.getElem?_set] at hj
        simp at hj
        exact self w (by rw [hj.2])
      · rw [List.getElem?_set_ne (fun e => a e.symm)] at hj
        refine key hj a ?_
        rintro ⟨e, y, rfl⟩
        have : j = n := by omega
        subst this
        exact hy _ hj
theorem ev_istore_n {j : Fin 4} {x : Int32} (L' : List (Option LV)) (hd : decode M.2.1 pc = .ok (.istore_n j, 1)) (hn : (j : Nat) < M.2.2.1) (hL : stL L (j : Nat) (iV x) = L') (k : Ev X M d (pc + 1) L' S G Q) : Ev X M d pc L (iV x :: S) G Q := by
  subst hL
  exact k.ps (fun _ _ _ _ _ _ _ _ _ C _ _ _ _ ls _ hS hl kk => lv_istore_n C.1 C.2.1 hd rfl hl.has hn rfl (fun ls' h => kk ls' (stL_ok h)))
theorem ev_istore {j : Nat} {x : Int32} (L' : List (Option LV)) (hd : decode M.2.1 pc = .ok (.istore j, 2)) (hn : (j : Nat) < M.2.2.1) (hL : stL L (j : Nat) (iV x) = L') (k : Ev X M d (pc + 2) L' S G Q) : Ev X M d pc L (iV x :: S) G Q := by
  subst hL
  exact k.ps (fun _ _ _ _ _ _ _ _ _ C _ _ _ _ ls _ hS hl kk => lv_istore C.1 C.2.1 hd hl.has hn rfl (fun ls' h => kk ls' (stL_ok h)))
theorem ev_astore_n {j : Fin 4} {r : Option Nat} (L' : List (Option LV)) (hd : decode M.2.1 pc = .ok (.astore_n j, 1)) (hn : (j : Nat) < M.2.2.1) (hL : stL L (j : Nat) (rV r) = L') (k : Ev X M d (pc + 1) L' S G Q) : Ev X M d pc L (rV r :: S) G Q := by
  subst hL
  cases r with
  | none => exact k.ps (fun _ _ _ _ _ _ _ _ _ C _ _ _ _ ls _ hS hl kk => lv_astore_nN C.1 C.2.1 hd rfl hl.has hn rfl (fun ls' h => kk ls' (stL_ok (v := rV none) h)))
  | some x => exact k.ps (fun _ _ _ _ _ _ _ _ _ C _ _ _ _ ls _ hS hl kk => lv_astore_n C.1 C.2.1 hd rfl hl.has hn rfl (fun ls' h => kk ls' (stL_ok (v := rV (some x)) h)))
theorem ev_astore {j : Nat} {r : Option Nat} (L' : List (Option LV)) (hd : decode M.2.1 pc = .ok (.astore j, 2)) (hn : (j : Nat) < M.2.2.1) (hL : stL L (j : Nat) (rV r) = L') (k : Ev X M d (pc + 2) L' S G Q) : Ev X M d pc L (rV r :: S) G Q := by
  subst hL
  cases r with
  | none => exact k.ps (fun _ _ _ _ _ _ _ _ _ C _ _ _ _ ls _ hS hl kk => lv_astoreN C.1 C.2.1 hd hl.has hn rfl (fun ls' h => kk ls' (stL_ok (v := rV none) h)))
  | some x => exact k.ps (fun _ _ _ _ _ _ _ _ _ C _ _ _ _ ls _ hS hl kk => lv_astore C.1 C.2.1 hd hl.has hn rfl (fun ls' h => kk ls' (stL_ok (v := rV (some x)) h)))
end PURE
