/-! A call of a method that surely throws. -/
/-- the method's frame fr, with q thrown over it -/
def zt_W (p : Program) (l : Launch) (e : Env) (R : Room) (s : State) (m : MethodId) (args : Array Value) (below : List Frame) (meth : Method) (c : Code) (H : Heap) (locs : List Loc) (cells slots : Nat) (Q : State → Prop) (fr : JFrame) (q : Addr) : Prop :=
  ∀ T : State, T.heap = H → Stand p l e R s m args below meth c T locs cells slots → ∃ t, Steps p.tables e below ((T.setTop fr).pushFrame (.throwing q)) t ∧ Q t
section ZB
variable {p : Program} {l : Launch} {e : Env} {R : Room} {s : State} {m : MethodId} {args : Array Value} {below : List Frame} {meth : Method} {c : Code} {H : Heap} {locs : List Loc} {cells slots : Nat}
theorem zt_back {y : MethodName} {bytes : ByteArray} {maxL mc ms len W9 : Nat} {ret : Option FieldType} {rm : Room} {Pc : Array Value → State → Prop} {g : zs_G} {A : Nat → Prop} {KX : String → zs_T → Prop}
    (hM : zt_Met l y (.code y bytes maxL ret :: zs_tb) rm Pc (zt_Q g A KX mc ms)) (hblind : FrameBlind Pc) (hrc : rm.cells = mc) (hrs : rm.slots = ms) (hframes : rm.frames + 1 ≤ R.frames) (hlocals : W9 + (maxL + 11) + rm.locals ≤ R.locals)
    (hws : ∀ w ∈ zs_tb, w.before args s = true) (hcode : Cond.code y bytes maxL ret ∈ zs_tb) (hini : Cond.initialized y.cls ∈ zs_tb)
    {U : State} {fr : JFrame} {ig : Instr} {mk : MethodId} {a : Array Value} (X : Stand p l e R s m args below meth c U locs cells slots) (hg : fr.method = m) (hsize : fr.locals.size = c.maxLocals) (hdg : decode c.code fr.pc = .ok (ig, len))
    (hW : 2 * fr.monitorRoom + (fr.stack.map fun v => v.category).sum ≤ W9) (hn : U.methodNamed? y = some mk) (h4 : cells + mc ≤ R.cells) (h5 : slots + ms ≤ R.slots) (hp : Pc a U) :
    ∃ (q : Addr) (B t : State) (L : List Loc), Stand p l e R s m args below meth c B (locs ++ L) (cells + mc) (slots + ms) ∧ B.heap = t.heap ∧ B.vm = t.vm ∧ (∀ z ∈ L, A z.base) ∧ zt_T g A KX mc ms (U.calling fr mk a) q t ∧
      Steps p.tables e below (doInvoke e (U.setTop fr) [] mk a).1 ((B.setTop fr).pushFrame (.throwing q)) := by
  have key : ∀ w ∈ (.code y bytes maxL ret :: zs_tb : List Cond), w.before a U = true := fun w hw => by
    have hz : w ∈ zs_tb := by
      rcases List.mem_cons.mp hw with h | h
      · rw [h]; exact hcode
      · exact h
    exact word_at X.warmed (zs_gd hz).2 (hws w hz)
  have h1 : (headSpec (.code y bytes maxL ret :: zs_tb) rm).pre.before a U = true := atoms_intro key
  have h2 : (Cond.code y bytes maxL ret).before a U = true := key _ List.mem_cons_self
  have h3 : (Cond.initialized y.cls).before a U = true := key _ (List.mem_cons_of_mem _ hini)
  have h4' : cells + (headSpec (.code y bytes maxL ret :: zs_tb) rm).room.cells ≤ R.cells := by rw [show (headSpec (.code y bytes maxL ret :: zs_tb) rm).room.cells = mc from hrc]; exact h4
  have h5' : slots + (headSpec (.code y bytes maxL ret :: zs_tb) rm).room.slots ≤ R.slots := by rw [show (headSpec (.code y bytes maxL ret :: zs_tb) rm).room.slots = ms from hrs]; exact h5
  obtain ⟨methY, cY, hmY, hcY, -, hlY, -, -, -, -⟩ := Cond.code_spec hn h2
  obtain ⟨kY, hkY, -⟩ := className_of_methodNamed hn
  have hinitY : kY.init = .initialized := Cond.initialized_spec (findClass_of_methodNamed hn) hkY h3
  have h : At U fr.method c below := by rw [hg]; exact X.here
  have hlocals9 : W9 + (maxL + 11) + (headSpec (.code y bytes maxL ret :: zs_tb) rm).room.locals ≤ R.locals := hlocals
  have happ : (headSpec (.code y bytes maxL ret :: zs_tb) rm).appliesLoose y e.platform (U.calling fr mk a) = true :=
    Spec.appliesLoose_calling (g := fr) h hdg hn hkY hinitY
      (X.room_calling (g := fr) (R' := (headSpec (.code y bytes maxL ret :: zs_tb) rm).room) hsize hmY hcY hframes (by rw [hlY]; omega) h4' h5') h1
  obtain ⟨mid, hmid⟩ := h.above
  have hfr : (U.setTop fr).frames = (.java fr :: mid) ++ below := by rw [State.frames_setTop' fr h.top, hmid]; rfl
  obtain ⟨o, s₂, hsteps, -, hend, hq⟩ := Steps.callFree hM p X.admits X.cas X.clock (acts := []) hfr happ (hblind _ _ _ _ hp) trivial
  rw [State.frames_setTop' fr h.top] at hend
  have hq' : zt_Q g A KX mc ms a (U.calling fr mk a) o s₂ := hq
  obtain ⟨q, rfl, hT⟩ := hq'
  obtain ⟨E, ce, u, L, hkx, hPu, hF, hce, hcv, hcl, hW₂, hsm, hL⟩ := id hT
  obtain ⟨e2, q2, q3, q4, q5, q6⟩ := id hsm
  have hW' : U.WarmedH s₂.vm := hW₂
  have e3 : s₂ = ({ (U.calling fr mk a).setFrames s₂.frames with heap := s₂.heap, slotsUsed := s₂.slotsUsed } : State).setVm s₂.vm := by
    have : s₂ = ({ s₂ with vm := (U.calling fr mk a).vm } : State).setVm s₂.vm := rfl
    rw [e2] at this
    exact this
  have hf₂ : s₂.frames = .throwing q :: .java fr :: U.frames.tail := hend
  obtain ⟨g₀, hg0⟩ := Option.isSome_iff_exists.mp h.top
  obtain ⟨r, hr⟩ := State.topJava?_eq_some.mp hg0
  have hr' : (({ U with heap := s₂.heap, slotsUsed := s₂.slotsUsed } : State).setVm s₂.vm).frames = .java g₀ :: r := hr
  have hs₂ : s₂ = ((({ U with heap := s₂.heap, slotsUsed := s₂.slotsUsed } : State).setVm s₂.vm).setTop fr).pushFrame (.throwing q) := by
    refine e3.trans ?_
    rw [hf₂, State.calling_eq h.top, State.setFrames_setFrames, State.pushFrame, State.frames_setTop _ hr', State.setTop_of_frames _ hr', State.setFrames_setFrames, hr]
    rfl
  have hsame : U.sameButNew ({ U with heap := s₂.heap, slotsUsed := s₂.slotsUsed } : State) L mc ms := by
    refine ⟨?_, q2, q3, q4, q5, q6⟩
    obtain ⟨t, ht, -⟩ := State.frames_cons hr
    show ({ U with heap := s₂.heap, slotsUsed := s₂.slotsUsed } : State) = { U.setFrames U.frames with heap := s₂.heap, slotsUsed := s₂.slotsUsed }
    rw [State.setFrames_self ht]
  subst hg
  refine ⟨q, ({ U with heap := s₂.heap, slotsUsed := s₂.slotsUsed } : State).setVm s₂.vm, s₂, L,
    ⟨X.admits, X.cas, X.clock, X.frames, X.room, X.hears, X.method, X.code, (X.here.setHeapUsed s₂.heap s₂.slotsUsed).setVm hW'.alike, X.tail, State.WarmedH.trans X.warmed hW', X.limits, X.bytes, X.same.trans (hsame.setVm s.vm)⟩, rfl, rfl, hL, hT, ?_⟩
  rw [← hs₂]
  exact hsteps
theorem zt_blind {g : zs_G} {A : Nat → Prop} {As : List Value} {st : zs_T} : FrameBlind (zt_Pc g A As st) := by
  intro a U f mk q
  obtain ⟨q0, q1, q2, q3⟩ := q
  have hz := zs_blind zs_nwk (g := g) (ly := zs_ly) (N := zs_N) (A := A) (As := As) (st := st) a U f mk ⟨q0, q1, q2⟩
  exact ⟨hz.1, hz.2.1, hz.2.2, q3.later (State.WarmedH.refl U) (Nat.le_refl _) (fun _ _ _ => rfl)⟩
theorem zt_pre {g : zs_G} {A : Nat → Prop} {As : List Value} {st : zs_T} (hK : zs_K zs_nl g s) (hZ : zx_K A s) (hP : zs_P g zs_ly zs_N A st H) (hS : va_S A s.heap H locs) {U : State} (hU : U.heap = H) (hW : s.WarmedH U.vm) : zt_Pc g A As st As.toArray U :=
  ⟨rfl, by rw [hU]; exact hP, hK.warm zs_nwk hW, hZ.later hW (by rw [hU]; exact hS.1) (fun q h1 h2 => by rw [hU]; exact hS.2.1 q h1 h2)⟩
/-- what stands behind a call that threw: the world, the cell, the frame -/
def zt_After (s : State) (g : zs_G) (A : Nat → Prop) (KX : String → zs_T → Prop) (H1 : Heap) (locs1 : List Loc) (q : Addr) : Prop :=
  ∃ (E : String) (ce : Cell) (u : zs_T), KX E u ∧ zs_P g zs_ly zs_N A u H1 ∧ va_S A s.heap H1 locs1 ∧ H1[q]? = some ce ∧ ce.vm = .none ∧ s.vm.findClass E = some ce.cls
theorem zt_after {s U st0 t B : State} {locs L : List Loc} {g : zs_G} {A : Nat → Prop} {KX : String → zs_T → Prop} {mc ms : Nat} {q : Addr} {H : Heap} (hS : va_S A s.heap H locs) (h0 : st0.heap = H) (hvm : s.vm.Alike st0.vm) (hB : B.heap = t.heap) (hL : ∀ z ∈ L, A z.base) (hT : zt_T g A KX mc ms st0 q t) : zt_After s g A KX B.heap (locs ++ L) q := by
  obtain ⟨E, ce, u, L', hkx, hPu, hF, hce, hcv, hcl, -⟩ := hT
  refine ⟨E, ce, u, hkx, by rw [hB]; exact hPu, ⟨?_, fun x h1 h2 => ?_, fun z hz => ?_⟩, by rw [hB]; exact hce, hcv, by rw [← hvm.findClass]; exact hcl⟩
  · rw [hB]; exact Nat.le_trans hS.1 (by rw [← h0]; exact hF.1)
  · rw [hB, hF.2 x (by rw [h0]; exact Nat.lt_of_lt_of_le h1 hS.1) h2, h0]
    exact hS.2.1 x h1 h2
  · rcases List.mem_append.mp hz with h | h
    · exact hS.2.2 z h
    · exact hL z h
/-- a static method of ours, called: it throws -/
theorem zt_callS {Q : State → Prop} {y : MethodName} {bytes cc : ByteArray} {maxL mc ms nL pc index n : Nat} {ret : Option FieldType} {rm : Room} {g : zs_G} {A : Nat → Prop} {st : zs_T} {KX : String → zs_T → Prop} {own : String} {As rest st0 : List Value} {ls : Array Slot}
    (S : CallFix p m c cc nL s args zs_tb own) (hM : zt_Met l y (.code y bytes maxL ret :: zs_tb) rm (zt_Pc g A As st) (zt_Q g A KX mc ms)) (hrc : rm.cells = mc) (hrs : rm.slots = ms) (hR : rm.frames + 1 ≤ R.frames ∧ 8 + (maxL + 11) + rm.locals ≤ R.locals)
    (hcode : Cond.code y bytes maxL ret ∈ zs_tb) (hini : Cond.initialized y.cls ∈ zs_tb) (hlk : Cond.methodLink own index y ∈ zs_tb) (hst : Cond.static y ∈ zs_tb) (hy : y.cls ≠ "java/lang/invoke/MethodHandle" ∧ y.cls ≠ "java/lang/invoke/VarHandle" ∧ (parseMethodDescriptor y.desc).map (fun d => d.parameters.length) = some n) (hn : As.length = n)
    (hK : zs_K zs_nl g s) (hZ : zx_K A s) (hP : zs_P g zs_ly zs_N A st H) (hS : va_S A s.heap H locs) (hsz : ls.size = nL) (hstack : st0 = As.reverse ++ rest) (hW : (rest.map fun v => v.category).sum ≤ 8) (hdg : decode cc pc = .ok (.invokestatic index, 3)) (hf : cells + mc ≤ R.cells ∧ slots + ms ≤ R.slots)
    (kk : ∀ (q : Addr) (H1 : Heap) (locs1 : List Loc), zt_After s g A KX H1 locs1 q → zt_W p l e R s m args below meth c H1 locs1 (cells + mc) (slots + ms) Q (F0 m pc ls rest) q) : W p l e R s m args below meth c H locs cells slots Q (F0 m pc ls st0) := by
  obtain ⟨hx, hb, hml, hown, hts⟩ := S
  intro T hT X
  subst hstack
  obtain ⟨mk, hnamed⟩ := Cond.code_named (hts _ hcode)
  obtain ⟨methM, cM, hmethM, -, -, -, -, -, -, hsigM⟩ := Cond.code_spec hnamed (hts _ hcode)
  have hstatic : methM.isStatic = true := Cond.static_spec hnamed hmethM (hts _ hst)
  obtain ⟨kP, hkP, -⟩ := className_of_methodNamed hnamed
  have hinitP : kP.init = .initialized := Cond.initialized_spec (findClass_of_methodNamed hnamed) hkP (hts _ hini)
  have hlen : As.length = methM.sig.parameters.length := by
    have h2 := hy.2.2
    rw [hsigM] at h2
    exact hn.trans (Option.some.inj h2).symm
  obtain ⟨vm₁, X₁, hstep₁⟩ := X.invokestatic hx hown (hts _ hlk) hnamed hmethM hstatic hkP hinitP ⟨hy.1, hy.2.1⟩ (g := F0 m pc ls (As.reverse ++ rest)) rfl (argsL := As) (rest := rest) hlen rfl (by rw [hb]; exact hdg)
  obtain ⟨q, B, t, L, X', e1, e2, hL, hTt, hsteps⟩ := zt_back hM zt_blind hrc hrs hR.1 (W9 := 8) hR.2 hts hcode hini (fr := F0 m pc ls rest) (ig := .invokestatic index) (len := 3) X₁ rfl (hsz.trans hml.symm) (by rw [hb]; exact hdg) (lv_room hW) (X₁.named hnamed) hf.1 hf.2 (zt_pre hK hZ hP hS hT X₁.warmed)
  obtain ⟨t2, a1, b1⟩ := kk q B.heap (locs ++ L) (zt_after (U := T) hS (show ((T.setVm vm₁).calling _ _ _).heap = H from hT) (show s.vm.Alike vm₁ from X₁.warmed.alike) e1 hL hTt) B rfl X'
  exact ⟨t2, hstep₁ _ fun acts => by rw [doInvoke_state]; exact hsteps.trans a1, b1⟩
/-- a method of an object of the world, called: it throws -/
theorem zt_callV {Q : State → Prop} {y : MethodName} {bytes cc : ByteArray} {maxL mc ms nL pc index n d ci M : Nat} {fs : List Nat} {C : String} {Tt : u_T} {ret : Option FieldType} {rm : Room} {g : zs_G} {A : Nat → Prop} {st : zs_T} {KX : String → zs_T → Prop} {own : String} {As rest st0 : List Value} {ls : Array Slot}
    (S : CallFix p m c cc nL s args zs_tb own) (hM : zt_Met l y (.code y bytes maxL ret :: zs_tb) rm (zt_Pc g A (.ref (g.2.1 d) :: As) st) (zt_Q g A KX mc ms)) (hrc : rm.cells = mc) (hrs : rm.slots = ms) (hR : rm.frames + 1 ≤ R.frames ∧ 8 + (maxL + 11) + rm.locals ≤ R.locals)
    (hcode : Cond.code y bytes maxL ret ∈ zs_tb) (hini : Cond.initialized y.cls ∈ zs_tb) (hlk : Cond.methodLink own index y ∈ zs_tb) (hin : Cond.instanceMethod y ∈ zs_tb) (hse : Cond.selects C y y ∈ zs_tb) (hy : y.cls ≠ "java/lang/invoke/MethodHandle" ∧ y.cls ≠ "java/lang/invoke/VarHandle" ∧ (parseMethodDescriptor y.desc).map (fun d => d.parameters.length) = some n) (hn : As.length = n)
    (hd : d < zs_N) (hl : zs_ly d = (0, ci, fs)) (hc : zs_cl[ci]? = some (C, Tt, M))
    (hK : zs_K zs_nl g s) (hZ : zx_K A s) (hP : zs_P g zs_ly zs_N A st H) (hS : va_S A s.heap H locs) (hsz : ls.size = nL) (hstack : st0 = As.reverse ++ .ref (g.2.1 d) :: rest) (hW : (rest.map fun v => v.category).sum ≤ 8) (hdg : decode cc pc = .ok (.invokevirtual index, 3)) (hf : cells + mc ≤ R.cells ∧ slots + ms ≤ R.slots)
    (kk : ∀ (q : Addr) (H1 : Heap) (locs1 : List Loc), zt_After s g A KX H1 locs1 q → zt_W p l e R s m args below meth c H1 locs1 (cells + mc) (slots + ms) Q (F0 m pc ls rest) q) : W p l e R s m args below meth c H locs cells slots Q (F0 m pc ls st0) := by
  obtain ⟨hx, hb, hml, hown, hts⟩ := S
  intro T hT X
  subst hstack
  obtain ⟨mk, methM, hnamed, hmethM, hstM, habM⟩ := Cond.instanceMethod_spec (hts _ hin)
  obtain ⟨methM', cM, hmethM', -, -, -, -, -, -, hsigM⟩ := Cond.code_spec hnamed (hts _ hcode)
  cases hmethM.symm.trans hmethM'
  obtain ⟨cellB, hcell, hobj, hcls⟩ := zr_recv hK.1 hP hd hl hc
  obtain ⟨c2, r2, m2, q1, q2, q3, q4, kP, hkP, hkPi⟩ := Cond.selects_spec (hts _ hse)
  cases hcls.symm.trans q1
  cases (State.methodFound?_of_named hnamed ⟨hy.1, hy.2.1⟩).symm.trans q2
  cases hnamed.symm.trans q3
  have hselP : selectMethod e.platform s.vm cellB.cls mk = .method mk := by rw [Launch.admits_selectMethod X.admits]; exact q4
  have hlen : As.length = methM.sig.parameters.length := by
    have h2 := hy.2.2
    rw [hsigM] at h2
    exact hn.trans (Option.some.inj h2).symm
  obtain ⟨vm₁, X₁, hstep₁⟩ := X.invokevirtual hx hown (hts _ hlk) hnamed hmethM hstM hkP hkPi ⟨hy.1, hy.2.1⟩ (a := g.2.1 d) (cell := cellB) (by rw [hT]; exact hcell)
    (fun z h => by rw [h] at hobj; cases hobj) hselP hmethM habM hkP hkPi (g := F0 m pc ls (As.reverse ++ .ref (g.2.1 d) :: rest)) rfl (argsL := As) (rest := rest) hlen rfl (by rw [hb]; exact hdg)
  obtain ⟨q, B, t, L, X', e1, e2, hL, hTt, hsteps⟩ := zt_back hM zt_blind hrc hrs hR.1 (W9 := 8) hR.2 hts hcode hini (fr := F0 m pc ls rest) (ig := .invokevirtual index) (len := 3) X₁ rfl (hsz.trans hml.symm) (by rw [hb]; exact hdg) (lv_room hW) (X₁.named hnamed) hf.1 hf.2 (zt_pre (As := .ref (g.2.1 d) :: As) hK hZ hP hS hT X₁.warmed)
  obtain ⟨t2, a1, b1⟩ := kk q B.heap (locs ++ L) (zt_after (U := T) hS (show ((T.setVm vm₁).calling _ _ _).heap = H from hT) (show s.vm.Alike vm₁ from X₁.warmed.alike) e1 hL hTt) B rfl X'
  exact ⟨t2, hstep₁ _ fun acts => by rw [doInvoke_state]; exact hsteps.trans a1, b1⟩
/-- not caught here: it goes on to the caller -/
theorem zt_out {g : zs_G} {A : Nat → Prop} {KX : String → zs_T → Prop} {mc ms pc : Nat} {ls : Array Slot} {rest : List Value} {q : Addr} (hE : c.exceptionTable.toList = []) (hlk : meth.locks = false) (h : zt_After s g A KX H locs q) (hc : cells ≤ mc) (hs : slots ≤ ms) : zt_W p l e R s m args below meth c H locs cells slots (zt_MQ below (zt_Q g A KX mc ms) args s) (F0 m pc ls rest) q := by
  obtain ⟨E, ce, u, hkx, hPu, hS, hce, hcv, hcl⟩ := h
  intro T hT X
  obtain ⟨hwalk, hrun, hend, hW, hsame⟩ := X.leaveThrown q (g := F0 m pc ls rest) rfl rfl rfl (by rw [hE]; exact fun x hx => nomatch hx) hlk
  have hh : (T.setFrames (.throwing q :: below)).heap = H := hT
  exact ⟨_, hwalk, .threw q, hrun, hend, q, rfl, E, ce, u, locs, hkx, by rw [hh]; exact hPu, hS.F hh, by rw [hh]; exact hce, hcv, hcl, hW, hsame.mono hc hs, hS.2.2⟩
end ZB
