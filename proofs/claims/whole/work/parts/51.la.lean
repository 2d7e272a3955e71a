/-! The law's helpers: static methods with a table of their own, that return whatever they call does. -/
def zl_ex : List (String × String) := [("java/lang/IllegalStateException", "java/lang/IllegalArgumentException"), ("java/lang/IllegalArgumentException", "java/lang/IndexOutOfBoundsException"), ("java/lang/IndexOutOfBoundsException", "java/lang/IllegalStateException"), ("java/lang/IllegalArgumentException", "java/lang/IllegalStateException"), ("java/lang/IllegalStateException", "java/lang/IndexOutOfBoundsException"), ("java/lang/IndexOutOfBoundsException", "java/lang/IllegalArgumentException")]
def zl_N (U : State) : Prop := ∀ x ∈ zl_ex, va_Nc x.1 x.2 U
def zl_Pc (g : zs_G) (A : Nat → Prop) (As : List Value) (st : zs_T) : Array Value → State → Prop := va_Pc As (fun U => zs_P g zs_ly zs_N A st U.heap ∧ zs_K zs_nl g U ∧ zx_K A U ∧ zl_N U)
theorem zl_blind {g : zs_G} {A : Nat → Prop} {As : List Value} {st : zs_T} : FrameBlind (zl_Pc g A As st) := by
  intro a U f mk q
  obtain ⟨q0, q1, q2, q3, q4⟩ := q
  have hz := zt_blind (g := g) (A := A) (As := As) (st := st) a U f mk ⟨q0, q1, q2, q3⟩
  exact ⟨hz.1, hz.2.1, hz.2.2.1, hz.2.2.2, fun x hx => va_Nc.moved (u := U) (U := U.calling f mk a) (Vm.Alike.refl U.vm) (q4 x hx)⟩
def zl_M (p : Program) (c : Code) (cc : ByteArray) (nL : Nat) (s : State) (m : MethodId) (meth : Method) (args : Array Value) (ret : Option FieldType) (g : zs_G) (A : Nat → Prop) (hh : List (Nat × Nat × Nat × Nat)) : Prop :=
  zs_M p c cc nL s m meth args "ThriftyStoresLaw" ret g ∧ c.exceptionTable.toList = tableOf hh ∧ zx_K A s ∧ zl_N s
theorem zl_met {l : Launch} {y : MethodName} {rm : Room} {Qc : Array Value → State → Outcome → State → Prop} {cc : ByteArray} {maxL mc ms : Nat} {ret : Option FieldType} {hh : List (Nat × Nat × Nat × Nat)} {g : zs_G} {A : Nat → Prop} {As : List Value} {st : zs_T}
    (hy : plainName y.cls = true) (hyc : y.cls = "ThriftyStoresLaw") (hn : (lg_sl As).length ≤ maxL)
    (body : ∀ (p : Program) (e : Env) (s : State) (m : MethodId) (below : List Frame) (meth : Method) (c : Code) (ls : Array Slot), zl_M p c cc maxL s m meth As.toArray ret g A hh → lv_has ls maxL (lv_args 0 As) → zs_P g zs_ly zs_N A st s.heap →
      W p l e rm s m As.toArray below meth c s.heap [] 0 0 (MQ below Qc As.toArray s mc ms A) (F0 m 0 ls [])) :
    Met l y (.codeWith y cc maxL ret hh :: zs_tb) rm (zl_Pc g A As st) Qc mc ms A := by
  refine MetFree.of_bodyS (code := cc) (maxLocals := maxL) (ret := ret) hy ?_ ?_
  · intro args s m h hn9
    obtain ⟨m', meth, c, hm', h1, h2, h3, h4, -, h5, h6, -⟩ := Cond.codeWith_spec (atoms_spec (ws := .codeWith y cc maxL ret hh :: zs_tb) h _ List.mem_cons_self)
    cases hn9.symm.trans hm'
    exact ⟨meth, c, h1, h2, h3, h4, h5, h6⟩
  · intro p e s m args below meth c s₁ B hml hv _
    obtain ⟨rfl, hP, hK, hZ, hN⟩ := hv
    have hts := atoms_spec (ws := .codeWith y cc maxL ret hh :: zs_tb) B.pre
    have hE : c.exceptionTable.toList = tableOf hh := by
      obtain ⟨m', meth', c', hm', h1, h2, -, -, ht, -⟩ := Cond.codeWith_spec (hts _ List.mem_cons_self)
      cases B.named.symm.trans hm'
      cases B.method.symm.trans h1
      cases (Stand.of_body B).code.symm.trans h2
      rw [← ht, table_eq]
    have hh0 : s₁.heap = s.heap := by rw [B.state]; rfl
    have hl := lv_entry As hn
    have hown : s.vm.findClass y.cls = some m.cls := findClass_of_methodNamed B.named
    rw [hyc] at hown
    have hw := body p e s m below meth c _ ⟨⟨B.exec, B.bytes, hml, B.returns, B.notSynchronized, fun w hw => hts w (List.mem_cons_of_mem _ hw), hown, hK⟩, hE, hZ, hN⟩ hl hP
    rw [← lg_entry_eq] at hw
    obtain ⟨t, a1, o, b1, b2, b3⟩ := hw s₁ hh0 (Stand.of_body B)
    exact ⟨t, o, a1, b1, b2, ⟨b3.1, b3.2⟩⟩
section ZLC
variable {p : Program} {l : Launch} {e : Env} {R : Room} {s : State} {m : MethodId} {args : Array Value} {below : List Frame} {meth : Method} {c : Code} {H : Heap} {locs : List Loc} {cells slots : Nat} {Q : State → Prop}
theorem zl_pre {g : zs_G} {A : Nat → Prop} {As : List Value} {st : zs_T} (hK : zs_K zs_nl g s) (hZ : zx_K A s) (hN : zl_N s) (hP : zs_P g zs_ly zs_N A st H) (hS : va_S A s.heap H locs) {U : State} (hU : U.heap = H) (hW : s.WarmedH U.vm) : zl_Pc g A As st As.toArray U := by
  have hz := zt_pre (As := As) hK hZ hP hS hU hW
  exact ⟨hz.1, hz.2.1, hz.2.2.1, hz.2.2.2, fun x hx => va_Nc.moved hW.alike (hN x hx)⟩
/-- a helper of the law, called: it returns an int -/
theorem zl_calls {y : MethodName} {bytes cc : ByteArray} {maxL mc ms nL pc index n : Nat} {ret : Option FieldType} {hh : List (Nat × Nat × Nat × Nat)} {rm : Room} {g : zs_G} {A : Nat → Prop} {st : zs_T} {K : Int32 → zs_T → Prop} {own : String} {As rest st0 : List Value} {ls : Array Slot}
    (S : CallFix p m c cc nL s args zs_tb own) (hM : Met l y (.codeWith y bytes maxL ret hh :: zs_tb) rm (zl_Pc g A As st) (zs_Qi g zs_ly zs_N A K) mc ms A) (hrc : rm.cells = mc) (hrs : rm.slots = ms) (hR : rm.frames + 1 ≤ R.frames ∧ 8 + (maxL + 11) + rm.locals ≤ R.locals)
    (hcode : Cond.codeWith y bytes maxL ret hh ∈ zs_tb) (hini : Cond.initialized y.cls ∈ zs_tb) (hlk : Cond.methodLink own index y ∈ zs_tb) (hst : Cond.static y ∈ zs_tb) (hy : y.cls ≠ "java/lang/invoke/MethodHandle" ∧ y.cls ≠ "java/lang/invoke/VarHandle" ∧ (parseMethodDescriptor y.desc).map (fun d => d.parameters.length) = some n) (hn : As.length = n)
    (hK : zs_K zs_nl g s) (hZ : zx_K A s) (hN : zl_N s) (hP : zs_P g zs_ly zs_N A st H) (hS : va_S A s.heap H locs) (hsz : ls.size = nL) (hstack : st0 = As.reverse ++ rest) (hW : (rest.map fun v => v.category).sum ≤ 8) (hdg : decode cc pc = .ok (.invokestatic index, 3)) (hf : cells + mc ≤ R.cells ∧ slots + ms ≤ R.slots)
    (kk : ∀ (r : Int32) (u : zs_T) (H1 : Heap) (locs1 : List Loc), K r u → zs_P g zs_ly zs_N A u H1 → va_S A s.heap H1 locs1 → W p l e R s m args below meth c H1 locs1 (cells + mc) (slots + ms) Q (F0 m (pc + 3) ls (.int r :: rest))) : W p l e R s m args below meth c H locs cells slots Q (F0 m pc ls st0) := by
  obtain ⟨hx, hb, hml, hown, hts⟩ := S
  subst hstack
  have hB : Back l R p e below s args y 3 8 (PreOf R mc ms (zl_Pc g A As st)) (PostOf (zs_Qi g zs_ly zs_N A K) mc ms A) := by
    refine Back.of_freeWith (handlers := hh) (S := headSpec (.codeWith y bytes maxL ret hh :: zs_tb) rm) (P := zl_Pc g A As st) (K := fun _ _ _ _ _ => True) (Q := fun a st o t => zs_Qi g zs_ly zs_N A K a st o t ∧ ∃ L, FrameEnd st o t L mc ms ∧ ∀ q ∈ L, A q.base) (bytes := bytes) (maxL := maxL) (ret := ret)
      (E := fun a st o t L k n => k = mc ∧ n = ms ∧ ∀ q ∈ L, A q.base) hM hR.1 hR.2 ?_ ?_ (fun _ _ _ _ _ _ _ _ _ => trivial) ?_ ?_
    · intro m meth c A9 a X hp
      have key : ∀ w ∈ zs_tb, w.before a A9.U = true := fun w hw => word_at X.warmed (zs_gd hw).2 (hts w hw)
      exact ⟨atoms_intro fun w hw => by
        rcases List.mem_cons.mp hw with h | h
        · rw [h]; exact key _ hcode
        · exact key w h, key _ hcode, key _ hini, by rw [show (headSpec (.codeWith y bytes maxL ret hh :: zs_tb) rm).room.cells = mc from hrc]; exact hp.1, by rw [show (headSpec (.codeWith y bytes maxL ret hh :: zs_tb) rm).room.slots = ms from hrs]; exact hp.2.1⟩
    · intro m meth c A9 a g9 mk X hp
      exact zl_blind _ _ _ _ hp.2.2
    · intro a st9 o t ⟨hq, L, hF, hL⟩
      exact ⟨L, mc, ms, hF, rfl, rfl, hL⟩
    · intro m meth c A9 a g9 mk v t L k n9 X hp hq hF ⟨e1, e2, hL⟩
      subst e1; subst e2
      exact ⟨g9, mk, t, L, rfl, rfl, hq.1, rfl, hL, rfl, rfl⟩
  intro T hT X
  obtain ⟨mk, methM, cM, hnamed, hmethM, -, -, -, -, -, -, hsigM⟩ := Cond.codeWith_spec (hts _ hcode)
  have hstatic : methM.isStatic = true := Cond.static_spec hnamed hmethM (hts _ hst)
  obtain ⟨kP, hkP, -⟩ := className_of_methodNamed hnamed
  have hinitP : kP.init = .initialized := Cond.initialized_spec (findClass_of_methodNamed hnamed) hkP (hts _ hini)
  have hlen : As.length = methM.sig.parameters.length := by
    have h2 := hy.2.2
    rw [hsigM] at h2
    exact hn.trans (Option.some.inj h2).symm
  obtain ⟨vm₁, X₁, hstep₁⟩ := X.invokestatic hx hown (hts _ hlk) hnamed hmethM hstatic hkP hinitP ⟨hy.1, hy.2.1⟩ (g := F0 m pc ls (As.reverse ++ rest)) rfl (argsL := As) (rest := rest) hlen rfl (by rw [hb]; exact hdg)
  obtain ⟨v, ⟨B, Lb, cb, sb⟩, X', ⟨g9, mk9, t, L, e1, e2, ⟨⟨r, u, hv, hku, hPu⟩, hF⟩, h1, hL, h2, h3⟩, hsteps⟩ := hB m meth c ⟨T.setVm vm₁, locs, cells, slots⟩ (F0 m pc ls rest) (.invokestatic index) mk As.toArray X₁ rfl (hsz.trans hml.symm) (by rw [hb]; exact hdg) (lv_room hW) (X₁.named hnamed) ⟨hf.1, hf.2, zl_pre hK hZ hN hP hS hT X₁.warmed⟩
  dsimp only [Pt.U, Pt.locs, Pt.cells, Pt.slots] at X' e1 e2 h1 h2 h3 hsteps
  cases hv
  subst h1; subst h2; subst h3
  have hPB : zs_P g zs_ly zs_N A u B.heap := by rw [e1]; exact hPu
  have hF0 : va_F A ((T.setVm vm₁).calling g9 mk9 As.toArray) t := hF
  have hH : ((T.setVm vm₁).calling g9 mk9 As.toArray).heap = H := hT
  obtain ⟨t2, a1, b1⟩ := kk r u B.heap (locs ++ L) hku hPB ⟨by rw [e1]; exact Nat.le_trans hS.1 (by rw [← hH]; exact hF0.1), fun x h1 h2 => by
      rw [e1, hF0.2 x (by rw [hH]; exact Nat.lt_of_lt_of_le h1 hS.1) h2, hH]
      exact hS.2.1 x h1 h2, fun z hz => by
      rcases List.mem_append.mp hz with h | h
      · exact hS.2.2 z h
      · exact hL z h⟩ B rfl X'
  exact ⟨t2, hstep₁ _ fun acts => by rw [doInvoke_state]; exact hsteps.trans a1, b1⟩
/-- the end of a helper, its room rounded up -/
theorem zl_iret {cc : ByteArray} {pc : Nat} {ls : Array Slot} {g : zs_G} {A : Nat → Prop} {st : zs_T} {K : Int32 → zs_T → Prop} {v : Int32} (hx : p.tables.exec = Jvm.exec) (hb : c.code = cc) (hr : meth.sig.returnType = some .int) (hlocks : meth.locks = false) (hP : zs_P g zs_ly zs_N A st H) (hS : va_S A s.heap H locs) (hp : K v st) (hdg : decode cc pc = .ok (.ireturn, 1)) (hc : cells ≤ 1) (hs : slots ≤ 6) : W p l e R s m args below meth c H locs cells slots (MQ below (zs_Qi g zs_ly zs_N A K) args s 1 6 A) (F0 m pc ls [.int v]) :=
  W.widen hc hs (W.iret hx hb hr (fun t ht _ => ⟨⟨v, st, rfl, hp, by show zs_P _ _ _ _ _ _; rw [ht]; exact hP⟩, hS.F ht⟩) hS.2.2 hdg hlocks)
end ZLC
