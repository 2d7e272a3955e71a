/-! A thrown object, caught by a row of the method's own table whose class may not be resolved yet: the search notes it. (The steps follow the library's laws of the search: Cold.lean, ColdKeeps.lean, ThrowLaws.lean.) -/
/-- the rows, read from the front: each covers pc and links to a class; the first that takes the thrown class ends the search at hp -/
def zl_R (pl : Platform) (s0 : State) (d : ClassId) (pc : Nat) (thrown : ClassId) : List ExceptionTableEntry → Nat → Prop
  | [], _ => False
  | x :: t, hp => covers x pc = true ∧ x.catchType ≠ 0 ∧ ∃ c : ClassId, s0.vm.ClassLinks pl d x.catchType c ∧ ((s0.vm.assignable thrown c = true ∧ hp = x.handlerPc) ∨ (s0.vm.assignable thrown c = false ∧ zl_R pl s0 d pc thrown t hp))
theorem zl_find {e : Env} {s0 : State} {f : JFrame} {a : Addr} {cell : Cell} {hp : Nat} (hobj : ∀ k, cell.vm ≠ .statics k) (hk0 : ∃ k, s0.vm.classes[cell.cls]? = some k) :
    ∀ (rows : List ExceptionTableEntry), zl_R e.platform s0 f.method.cls f.pc cell.cls rows hp → ∀ S : State, s0.WarmedH S.vm → S.heap[a]? = some cell →
      ∃ vm', s0.WarmedH vm' ∧ ∀ (Q : Handler → Pre) (E : CtlPost) (d : Bool) (acts : List Action), wp (findHandler.go f a rows) Q E e d acts S ↔ Q (.found hp) d acts (S.setVm vm') := by
  obtain ⟨k0, hk0⟩ := hk0
  intro rows
  induction rows with
  | nil => intro h; exact h.elim
  | cons x t ih =>
    intro h S hW hcell
    obtain ⟨hx, h0, c, hl, hc⟩ := h
    simp only [covers] at hx
    obtain ⟨dk, _, _, kt, hd, _, _, _, _, hkt, _, hopen⟩ := hl.here
    have hlS := hW.classLinks hl
    obtain ⟨ha, ht⟩ := (resolveClass_links e.toSetting hlS).op (op := VmOp.resolveClass f.method.cls x.catchType) rfl
    have hW1 := hW.noted hd hopen (State.rightAt_cls hl)
    obtain ⟨k1, hk1, -⟩ := hW1.alike.2.2 _ _ hk0
    obtain ⟨k2, hk2, -⟩ := hW1.alike.2.2 _ _ hkt
    rcases hc with ⟨hfit, rfl⟩ | ⟨hno, hrest⟩
    · have hfit' : (S.vm.noted f.method.cls x.catchType (.cls c)).assignable cell.cls c = true := by rw [hW1.alike.assignable]; exact hfit
      refine ⟨_, hW1, fun Q E d acts => ?_⟩
      simp [findHandler.go, hx, h0, ha, ht, hcell, hobj, hk1, hk2, hfit', VmOp.dirties, VmOp.acts]
    · have hno' : (S.vm.noted f.method.cls x.catchType (.cls c)).assignable cell.cls c = false := by rw [hW1.alike.assignable]; exact hno
      obtain ⟨vm', hW', hq⟩ := ih hrest (S.setVm (S.vm.noted f.method.cls x.catchType (.cls c))) hW1 hcell
      refine ⟨vm', hW', fun Q E d acts => ?_⟩
      refine Iff.trans ?_ (hq Q E d acts)
      simp [findHandler.go, hx, h0, ha, ht, hcell, hobj, hk1, hk2, hno', VmOp.dirties, VmOp.acts]
theorem zl_step {e : Env} {s : State} {a : Addr} {f : JFrame} {r : List Frame} {pc : Nat} {vm' : Vm} (hfind : ∀ (Q : Handler → Pre) (E : CtlPost) (d : Bool) (acts : List Action), wp (findHandler f a) Q E e d acts s ↔ Q (.found pc) d acts (s.setVm vm')) :
    (stepThrowing e s a (.java f :: r)).Is ((s.setVm vm').setFrames (.java { f with pc := pc, stack := [.ref a] } :: r)) [] := by
  simp only [stepThrowing, searchFrame, vmDo]
  generalize hr : Sem.go _ e false [] s = res
  obtain ⟨as, rfl, ha⟩ := Sem.eq_ok_of hr (a := Handler.found pc) (s' := s.setVm vm') (acts' := []) (by simp [hfind _ _ _ _])
  exact ⟨rfl, ha⟩
section ZL2
variable {p : Program} {l : Launch} {e : Env} {R : Room} {s : State} {m : MethodId} {args : Array Value} {below : List Frame} {meth : Method} {c : Code} {H : Heap} {locs : List Loc} {cells slots : Nat} {Q : State → Prop}
theorem zl_catch {pc hp : Nat} {ls : Array Slot} {rest : List Value} {ce : Cell} {q : Addr} (hcell : H[q]? = some ce) (hv : ce.vm = .none) (hk0 : ∃ k, s.vm.classes[ce.cls]? = some k) (hR : ∀ pl : Platform, pl.magicAccessors = ({} : Platform).magicAccessors → zl_R pl s m.cls pc ce.cls c.exceptionTable.toList hp)
    (kk : W p l e R s m args below meth c H locs cells slots Q (F0 m hp ls [.ref q])) : zt_W p l e R s m args below meth c H locs cells slots Q (F0 m pc ls rest) q := by
  intro T hT X
  have hpl : e.platform.magicAccessors = ({} : Platform).magicAccessors := by rw [X.admits.platform]
  have hobj : ∀ k, ce.vm ≠ .statics k := fun k h => by rw [hv] at h; cases h
  have hcT : ((T.setTop (F0 m pc ls rest)).pushFrame (.throwing q)).heap[q]? = some ce := by rw [Stand.throwing_heap, hT]; exact hcell
  have hWT : s.WarmedH ((T.setTop (F0 m pc ls rest)).pushFrame (.throwing q)).vm := by rw [Stand.throwing_vm]; exact X.warmed
  obtain ⟨vm', hW', hq⟩ := zl_find (e := e) (f := F0 m pc ls rest) (a := q) hobj hk0 _ (hR _ hpl) _ hWT hcT
  have hfind : ∀ (Q : Handler → Pre) (E : CtlPost) (d : Bool) (acts : List Action), wp (findHandler (F0 m pc ls rest) q) Q E e d acts ((T.setTop (F0 m pc ls rest)).pushFrame (.throwing q)) ↔ Q (.found hp) d acts (((T.setTop (F0 m pc ls rest)).pushFrame (.throwing q)).setVm vm') := fun Q E d acts => by
    rw [W.findHandler_eq (meth := meth) (code := c) (by rw [Stand.throwing_vm]; exact X.method') X.code]
    exact hq Q E d acts
  obtain ⟨t, a1, b1⟩ := kk (T.setVm vm') hT (X.noted hW')
  refine ⟨t, ?_, b1⟩
  have h : At T (F0 m pc ls rest).method c below := X.here
  obtain ⟨hgo, hw⟩ := h.throwing q
  refine Steps.head hgo hw ?_
  rw [stepThread_throwing (frames_entered h.top _), (zl_step (s := (T.setTop (F0 m pc ls rest)).pushFrame (.throwing q)) hfind).1]
  obtain ⟨g₀, hg⟩ := Option.isSome_iff_exists.mp h.top
  obtain ⟨r, hr⟩ := State.topJava?_eq_some.mp hg
  have hr' : (T.setVm vm').frames = .java g₀ :: r := hr
  rw [State.setTop_of_frames _ hr'] at a1
  have e1 : ∀ (u : State) (F G : List Frame), ((u.setFrames F).setVm vm').setFrames G = (u.setVm vm').setFrames G := fun u F G => by
    have h1 : (u.setFrames F).setVm vm' = (u.setVm vm').setFrames F := rfl
    rw [h1, State.setFrames_setFrames]
  rw [hr, List.tail_cons, State.pushFrame, e1, State.setTop_of_frames _ hr, e1]
  exact a1
end ZL2
