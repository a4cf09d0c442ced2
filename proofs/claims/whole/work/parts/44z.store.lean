/-! Stores that leave the list of locals as a row of 'set's (cheap to look into). -/
section STORE
variable {X : CX} {M : MD} {d pc : Nat} {L : List (Option LV)} {S : List LV} {G : GH} {Q : Option LV → GH → Prop}
def noLong (L : List (Option LV)) : Nat → Bool
  | 0 => true
  | i + 1 => match L[i]? with
    | some (some (.inr (.inl _))) => false
    | _ => true
theorem stL_set {L : List (Option LV)} {j : Nat} {v : LV} (h : noLong L j = true) : stL L j v = L.set j (some v) := by
  cases j with
  | zero => rfl
  | succ i =>
    cases hx : L[i]? with
    | none => simp [stL, hx]
    | some o =>
      cases o with
      | none => simp [stL, hx]
      | some w =>
        match w, hx with
        | .inl _, hx => simp [stL, hx]
        | .inr (.inl _), hx => simp [noLong, hx] at h
        | .inr (.inr _), hx => simp [stL, hx]
theorem ev_istore_nS {j : Fin 4} {x : Int32} (hd : decode M.2.1 pc = .ok (.istore_n j, 1)) (hn : (j : Nat) < M.2.2.1) (hp : noLong L j = true) (k : Ev X M d (pc + 1) (L.set j (some (iV x))) S G Q) : Ev X M d pc L (iV x :: S) G Q := ev_istore_n _ hd hn (stL_set hp) k
theorem ev_istoreS {j : Nat} {x : Int32} (hd : decode M.2.1 pc = .ok (.istore j, 2)) (hn : j < M.2.2.1) (hp : noLong L j = true) (k : Ev X M d (pc + 2) (L.set j (some (iV x))) S G Q) : Ev X M d pc L (iV x :: S) G Q := ev_istore _ hd hn (stL_set hp) k
theorem ev_astore_nS {j : Fin 4} {r : Option Nat} (hd : decode M.2.1 pc = .ok (.astore_n j, 1)) (hn : (j : Nat) < M.2.2.1) (hp : noLong L j = true) (k : Ev X M d (pc + 1) (L.set j (some (rV r))) S G Q) : Ev X M d pc L (rV r :: S) G Q := ev_astore_n _ hd hn (stL_set hp) k
theorem ev_astoreS {j : Nat} {r : Option Nat} (hd : decode M.2.1 pc = .ok (.astore j, 2)) (hn : j < M.2.2.1) (hp : noLong L j = true) (k : Ev X M d (pc + 2) (L.set j (some (rV r))) S G Q) : Ev X M d pc L (rV r :: S) G Q := ev_astore _ hd hn (stL_set hp) k
theorem ev_iincNS {a b j : Nat} {n : Int} (hd : decode M.2.1 pc = .ok (.iinc j n, 3)) (hx : L[j]? = some (some (iV (nI a)))) (hv : Int32.ofInt n = nI b) (hn : j < M.2.2.1) (hp : noLong L j = true) (k : Ev X M d (pc + 3) (L.set j (some (iV (nI (a + b))))) S G Q) : Ev X M d pc L S G Q := ev_iincN _ hd hx hv hn (stL_set hp) k
theorem ev_iincMS {a j : Nat} {n : Int} (hd : decode M.2.1 pc = .ok (.iinc j n, 3)) (hx : L[j]? = some (some (iV (nI (a + 1))))) (hv : Int32.ofInt n = -1) (hn : j < M.2.2.1) (hp : noLong L j = true) (k : Ev X M d (pc + 3) (L.set j (some (iV (nI a)))) S G Q) : Ev X M d pc L S G Q := ev_iincM _ hd hx hv hn (stL_set hp) k
theorem ev_iincS {j : Nat} {n : Int} {x : Int32} (hd : decode M.2.1 pc = .ok (.iinc j n, 3)) (hx : L[j]? = some (some (iV x))) (hn : j < M.2.2.1) (hp : noLong L j = true) (k : Ev X M d (pc + 3) (L.set j (some (iV (x + Int32.ofInt n)))) S G Q) : Ev X M d pc L S G Q := ev_iinc _ _ hd hx rfl hn (stL_set hp) k
end STORE
