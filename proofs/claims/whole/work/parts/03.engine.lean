/-! THE ENGINE. Logical values, a heap by fields (each field a map from ids to values), and two judgements over the machine: Sm (exact: this frame ends so) and Ev (it ends, and so). Ids: 0 the empty array of ArrayList, 1 the mirror of Object[], 2 the script, from 3 on the cells that were made since the law began, in order. -/
abbrev LV : Type := Int32 ⊕ Int64 ⊕ Option Nat
abbrev iV (x : Int32) : LV := .inl x
abbrev lV (x : Int64) : LV := .inr (.inl x)
abbrev rV (r : Option Nat) : LV := .inr (.inr r)
/-- kinds, int fields, long fields, reference fields (by field number, then id), int arrays, reference arrays, lengths, the next id, the slots made -/
abbrev GH : Type := (Nat → Nat) × (Nat → Nat → Int32) × (Nat → Nat → Int64) × (Nat → Nat → Option Nat) × (Nat → Nat → Int32) × (Nat → Nat → Option Nat) × (Nat → Nat) × Nat × Nat
abbrev gh_n (G : GH) : Nat := G.2.2.2.2.2.2.2.1
abbrev gh_s (G : GH) : Nat := G.2.2.2.2.2.2.2.2
def u2 {α : Type} (f : Nat → Nat → α) (a b : Nat) (v : α) : Nat → Nat → α := fun i j => if i = a ∧ j = b then v else f i j
/-- the launch; the tables of classes; the array classes; (base, empty array, mirror, script); the script's length and ints -/
abbrev CX : Type := Launch × va_G × (Nat → ClassId) × (Nat × Nat × Nat × Nat) × Nat × (Nat → Int32)
abbrev cx_b (X : CX) : Nat := X.2.2.2.1.1
def cx_ad (X : CX) (i : Nat) : Nat := if i = 0 then X.2.2.2.1.2.1 else if i = 1 then X.2.2.2.1.2.2.1 else if i = 2 then X.2.2.2.1.2.2.2 else cx_b X + (i - 3)
def cx_v (X : CX) : LV → Value
  | .inl x => .int x
  | .inr (.inl x) => .long x
  | .inr (.inr r) => va_rf (r.map (cx_ad X))
abbrev cx_A (X : CX) : Nat → Prop := fun q => cx_b X ≤ q
abbrev gcl : List vw_C := [(RX0, TX0, 7), (RX1, TX1, 5), (RX2, TX2, 4), (RX3, TX3, 3), (RX4, TX4, 4), (RX5, TX5, 6), (RX6, TX6, 5), (RX7, TX7, 5), (RX8, TX8, 13), (RX9, TX9, 38), (RJx4a65c, TJx4a65c, 3)]
def gty (c : Nat) : Nat → FieldType := match c with
  | 0 => tyX0 | 1 => tyX1 | 2 => tyX2 | 3 => tyX3 | 4 => tyX4 | 5 => tyX5 | 6 => tyX6 | 7 => tyX7 | 8 => tyX8 | 9 => tyX9 | _ => tyJx4a65c
def gnf (c : Nat) : Nat := match c with
  | 0 => 7 | 1 => 5 | 2 => 4 | 3 => 3 | 4 => 4 | 5 => 6 | 6 => 5 | 7 => 5 | 8 => 13 | 9 => 38 | _ => 3
/-- the array types: kind 100 + k -/
abbrev cx_ty (X : CX) : List (ClassId × FieldType) := [(X.2.2.1 0, .int), (X.2.2.1 1, .boolean), (X.2.2.1 2, .object RX1), (X.2.2.1 3, .object RX7), (X.2.2.1 4, .object RX3), (X.2.2.1 5, .object RX0), (X.2.2.1 6, .object "java/lang/Object")]
def fv (X : CX) (G : GH) (t : FieldType) (f i : Nat) : Value := match t with
  | .long => .long (G.2.2.1 f i)
  | .int => .int (G.2.1 f i)
  | .boolean => .int (G.2.1 f i)
  | _ => va_rf ((G.2.2.2.1 f i).map (cx_ad X))
def fvs (X : CX) (G : GH) (c i : Nat) : List Value := (List.range (gnf c)).map (fun k => fv X G (gty c k) (64 * c + k) i)
def cellE (X : CX) (G : GH) (i : Nat) : va_E := if G.1 i < 100 then .inr (G.1 i, fvs X G (G.1 i) i) else .inl (X.2.2.1 (G.1 i - 100), G.2.2.2.2.2.2.1 i, if G.1 i < 102 then .inl (G.2.2.2.2.1 i) else .inr (.inr (.inr (.inr (fun j => (G.2.2.2.2.2.1 i j).map (cx_ad X))))))
/-- an id that is not made yet holds nothing -/
def Fresh (G : GH) (i : Nat) : Prop := (∀ f, G.2.1 f i = 0) ∧ (∀ f, G.2.2.1 f i = 0) ∧ (∀ f, G.2.2.2.1 f i = none) ∧ (∀ j, G.2.2.2.2.1 i j = 0) ∧ (∀ j, G.2.2.2.2.2.1 i j = none) ∧ 900 ≤ G.1 i
/-- the machine's heap H is the logical heap G -/
def Rel (X : CX) (G : GH) (H : Heap) : Prop := (gh_n G + cx_b X = H.size + 3 ∧ 3 ≤ gh_n G) ∧ (∀ i, G.1 i < 900 → 3 ≤ i ∧ i < gh_n G ∧ va_at X.2.1 gcl (cx_ad X i, cellE X G i) H) ∧ ∀ i, gh_n G ≤ i → Fresh G i
def SameAt (G1 G : GH) (j : Nat) : Prop := (∀ f, G1.2.1 f j = G.2.1 f j) ∧ (∀ f, G1.2.2.1 f j = G.2.2.1 f j) ∧ (∀ f, G1.2.2.2.1 f j = G.2.2.2.1 f j) ∧ G1.2.2.2.2.1 j = G.2.2.2.2.1 j ∧ G1.2.2.2.2.2.1 j = G.2.2.2.2.2.1 j ∧ G1.2.2.2.2.2.2.1 j = G.2.2.2.2.2.2.1 j
def lw_g : List Cond := lw_tbl.filter goodWord
def isNest : Cond → Bool
  | .fieldLinkNest .. => true
  | .methodLinkNest .. => true
  | _ => false
def lw_n : List Cond := lw_tbl.filter isNest
def NWs (U : State) : Prop := ∀ w ∈ lw_n, va_Nw w U
theorem NWs.moved {s U : State} (hW : s.WarmedH U.vm) (h : NWs s) : NWs U := by
  intro w hw
  have h1 := h w hw
  have h2 := (List.mem_filter.mp hw).2
  cases w <;> first | (cases h2; done) | exact va_Nw.warmF hW h1 | exact va_Nw.warmM hW h1
abbrev alE : String × String × String := ("java/util/ArrayList", "DEFAULTCAPACITY_EMPTY_ELEMENTDATA", "[Ljava/lang/Object;")
/-- what stands outside the made cells: ArrayList's empty array and its static, the mirror, the script -/
def Ext (X : CX) (U : State) : Prop := va_Z alE.1 alE.2.1 alE.2.2 (.ref (cx_ad X 0)) (cx_A X) U U.heap ∧ va_T (.object "java/lang/Object") (cx_ad X 0) 0 (fun _ => .null) (cx_A X) U U.heap ∧ va_Mi "[Ljava/lang/Object;" (cx_ad X 1) U ∧ va_Dc U ∧ va_X (cx_ad X 2) X.2.2.2.2.1 X.2.2.2.2.2 U U.heap ∧ cx_ad X 2 < cx_b X
def AOs (U : State) : Prop := va_AO RX1 U ∧ va_AO RX7 U ∧ va_AO RX3 U ∧ va_AO RX0 U ∧ va_AO "java/lang/Object" U
def StOk (X : CX) (U : State) : Prop := va_K X.2.1 gcl (cx_ty X) U ∧ NWs U ∧ AOs U ∧ va_Nw (.castable RX5 "java/lang/Object") U ∧ Ext X U ∧ cx_b X ≤ U.heap.size
abbrev MD : Type := MethodName × ByteArray × Nat × Option FieldType × Bool
def gTn (c : Nat) : u_T := match c with
  | 0 => TX0 | 1 => TX1 | 2 => TX2 | 3 => TX3 | 4 => TX4 | 5 => TX5 | 6 => TX6 | 7 => TX7 | 8 => TX8 | 9 => TX9 | _ => TJx4a65c
def gRn (c : Nat) : String := match c with
  | 0 => RX0 | 1 => RX1 | 2 => RX2 | 3 => RX3 | 4 => RX4 | 5 => RX5 | 6 => RX6 | 7 => RX7 | 8 => RX8 | 9 => RX9 | _ => RJx4a65c
theorem gcl_at : ∀ c, c < 11 → gcl[c]? = some (gRn c, gTn c, gnf c)
  | 0, _ => rfl | 1, _ => rfl | 2, _ => rfl | 3, _ => rfl | 4, _ => rfl | 5, _ => rfl | 6, _ => rfl | 7, _ => rfl | 8, _ => rfl | 9, _ => rfl | 10, _ => rfl
  | n + 11, h => absurd h (by omega)
/-- entry idx of the class own's pool is field f: number f mod 64 of class f div 64 -/
def FLk (own : String) (idx f : Nat) : Prop := f / 64 < 11 ∧ f % 64 < gnf (f / 64) ∧ (Cond.fieldLink own idx (gTn (f / 64) (f % 64)).1 (gTn (f / 64) (f % 64)).2.1 (gTn (f / 64) (f % 64)).2.2.1 ∈ lw_g ∨ ∃ host, Cond.fieldLinkNest own idx (gTn (f / 64) (f % 64)).1 (gTn (f / 64) (f % 64)).2.1 (gTn (f / 64) (f % 64)).2.2.1 host ∈ lw_n)
def FLi (own : String) (idx f : Nat) : Prop := FLk own idx f ∧ (gty (f / 64) (f % 64) = .int ∨ gty (f / 64) (f % 64) = .boolean)
def FLj (own : String) (idx f : Nat) : Prop := FLk own idx f ∧ gty (f / 64) (f % 64) = .long
def FLr (own : String) (idx f : Nat) : Prop := FLk own idx f ∧ ((∃ n, gty (f / 64) (f % 64) = .object n) ∨ ∃ t, gty (f / 64) (f % 64) = .array t)
def FLm (own : String) (idx f : Nat) : Prop := Cond.fieldLink own idx (gTn (f / 64) (f % 64)).1 (gTn (f / 64) (f % 64)).2.1 (gTn (f / 64) (f % 64)).2.2.1 ∈ lw_g
