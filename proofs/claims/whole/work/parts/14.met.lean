/-- what a method's run leaves: its answer, the heap, nothing old touched -/
def QcX (X : CX) (r : Option LV) (G' : GH) : Array Value → State → Outcome → State → Prop := fun _ st o t => o = .returned (r.map (cx_v X)) ∧ Rel X G' t.heap ∧ va_F (cx_A X) st t
def PcX (X : CX) (As : List LV) (G : GH) : Array Value → State → Prop := va_Pc (As.map (cx_v X)) (fun U => Rel X G U.heap ∧ StOk X U)
section MET
variable {X : CX} {M : MD} {d n : Nat} {As : List LV} {G G' : GH} {r : Option LV}
theorem met_of (hok : MOk M n) (hlen : (entL As).length ≤ M.2.2.1) (h : Sm X M d 0 (entP As M.2.2.1) [] G r G') : Met X.1 M.1 (mws M) (mrm d G G') (PcX X As G) (QcX X r G') (gh_n G' - gh_n G) (gh_s G' - gh_s G) (cx_A X) := by
  refine Met.ofW (cc := M.2.1) (maxL := M.2.2.1) (ret := M.2.2.2.1) hok.1 rfl ?_
  intro p e s m args below meth c s₁ B hml hv
  obtain ⟨rfl, hR, hK⟩ := hv
  have hts := atoms_spec (ws := mws M) B.pre
  have hC : MCx X M d p (headSpec (mws M) (mrm d G G')).room s m (As.map (cx_v X)).toArray meth c :=
    ⟨B.exec, B.bytes, B.returns, hml, findClass_of_methodNamed B.named, fun w hw => hts w (List.mem_cons_of_mem _ hw), B.notSynchronized, fun hi => (name_of_methodNamed B.named B.method).1.trans (hok.2.2.2.2.2 hi), hK, Nat.le_refl _, Nat.le_refl _⟩
  have hl := lv_entry (As.map (cx_v X)) (n := M.2.2.1) (by rw [entL_len]; exact hlen)
  rw [lg_entry_eq]
  generalize (lg_sl (As.map (cx_v X)) ++ List.replicate (M.2.2.1 - (lg_sl (As.map (cx_v X))).length) Slot.unset).toArray = ls at hl ⊢
  refine h p e _ s m _ below meth c hC s.heap [] 0 0 ls _ hR va_S.rf (entP_ok hl) (by rw [Nat.zero_add]; exact Nat.le_refl _) (by rw [Nat.zero_add]; exact Nat.le_refl _) ?_
  intro H' locs' ls' pc' hR' hS' hret
  rw [Nat.zero_add, Nat.zero_add]
  have hr := B.returns
  have hlocks := B.notSynchronized
  have hq : ∀ t : State, t.heap = H' → s.WarmedH t.vm → QcX X r G' (As.map (cx_v X)).toArray s (.returned (r.map (cx_v X))) t := fun t ht _ => ⟨rfl, by rw [ht]; exact hR', hS'.F ht⟩
  rcases hret with ⟨rfl, ht, hd⟩ | ⟨v, rfl, ht, hd⟩ | ⟨v, rfl, ht, hd⟩ | ⟨v, t, rfl, ht, hrt, hd⟩
  · exact W.vret B.exec B.bytes (hr.trans ht) hq hS'.2.2 hd
  · rcases ht with ht | ⟨ht, hv⟩
    · exact W.iret B.exec B.bytes (hr.trans ht) hq hS'.2.2 hd
    · exact W.zret B.exec B.bytes (hr.trans ht) (by rcases hv with rfl | rfl <;> rfl) hq hS'.2.2 hd
  · exact W.lret B.exec B.bytes (hr.trans ht) hq hS'.2.2 hd
  · exact W.aret B.exec B.bytes (hr.trans ht) hrt (by cases v with | none => exact Or.inl rfl | some y => exact Or.inr ⟨_, rfl⟩) hq hS'.2.2 hd
theorem PcX.blind : FrameBlind (PcX X As G) := fun a U g mk q => ⟨q.1, q.2.1, StOk.moved (s := U) (U := U.calling g mk a) (locs := []) (State.WarmedH.refl U) va_S.rf q.2.2⟩
end MET
