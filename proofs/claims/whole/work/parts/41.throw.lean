/-! Methods that surely throw: the words of a throw; a throw out of a method; a call that throws, handed on. -/
def zx_nm : List String := ["java/lang/RuntimeException", "java/lang/Exception"]
def zx_ws : List Cond := Bundle.ownAtoms "ThriftyStores" 67 "java/lang/IllegalArgumentException" zx_nm ++ (Bundle.ownAtoms "ThriftyStores" 77 "java/lang/IllegalStateException" zx_nm ++ Bundle.ownAtoms "ThriftyStores" 165 "java/lang/IndexOutOfBoundsException" zx_nm)
def zx_tx : List (Nat × String) := [(65, "no such instruction may stand in a program"), (75, "the program is full, or was made thrifty"), (82, "the program was made thrifty"), (163, "there is no such thing"), (166, "this can't be asked"), (168, "the program was not made thrifty")]
/-- the words of a throw hold here, and wherever the tables are warmer and what isn't in A is kept; the texts are there -/
def zx_K (A : Nat → Prop) (s : State) : Prop := (∀ (a : Array Value) (U : State), s.WarmedH U.vm → s.heap.size ≤ U.heap.size → (∀ q : Nat, q < s.heap.size → ¬ A q → U.heap[q]? = s.heap[q]?) → ∀ w ∈ zx_ws, w.before a U = true) ∧ ∀ x ∈ zx_tx, ∃ sa : Nat, vk_R "ThriftyStores" x.1 x.2 sa s
theorem zx_K.later {A : Nat → Prop} {s U : State} (h : zx_K A s) (hW : s.WarmedH U.vm) (hs : s.heap.size ≤ U.heap.size) (hk : ∀ q : Nat, q < s.heap.size → ¬ A q → U.heap[q]? = s.heap[q]?) : zx_K A U :=
  ⟨fun a V hV h1 h2 w hw => h.1 a V (State.WarmedH.trans hW hV) (Nat.le_trans hs h1) (fun q hq hA => (h2 q (Nat.lt_of_lt_of_le hq hs) hA).trans (hk q hq hA)) w hw, fun x hx => by
    obtain ⟨sa, h9⟩ := h.2 x hx
    exact ⟨sa, vk_R.warm hW h9⟩⟩
theorem zx_K.here {A : Nat → Prop} {s : State} (h : zx_K A s) {a : Array Value} {w : Cond} (hw : w ∈ zx_ws) : w.before a s = true := h.1 a s (State.WarmedH.refl s) (Nat.le_refl _) (fun _ _ _ => rfl) w hw
def zt_Pc (g : zs_G) (A : Nat → Prop) (As : List Value) (st : zs_T) : Array Value → State → Prop := va_Pc As (fun U => zs_P g zs_ly zs_N A st U.heap ∧ zs_K zs_nl g U ∧ zx_K A U)
def zt_T (g : zs_G) (A : Nat → Prop) (KX : String → zs_T → Prop) (mc ms : Nat) (st : State) (q : Addr) (t : State) : Prop :=
  ∃ (E : String) (ce : Cell) (u : zs_T) (L : List Loc), KX E u ∧ zs_P g zs_ly zs_N A u t.heap ∧ va_F A st t ∧ t.heap[q]? = some ce ∧ ce.vm = .none ∧ st.vm.findClass E = some ce.cls ∧ st.WarmedH t.vm ∧ st.sameButNew ({ t with vm := st.vm } : State) L mc ms ∧ ∀ z ∈ L, A z.base
def zt_Q (g : zs_G) (A : Nat → Prop) (KX : String → zs_T → Prop) (mc ms : Nat) : Array Value → State → Outcome → State → Prop := fun _ st o t => ∃ q : Addr, o = .threw q ∧ zt_T g A KX mc ms st q t
def zt_Met (l : Launch) (y : MethodName) (ws : List Cond) (rm : Room) (Pc : Array Value → State → Prop) (Q : Array Value → State → Outcome → State → Prop) : Prop := MetFree l y (headSpec ws rm) Pc (fun _ _ _ _ _ => True) Q
def zt_MQ (below : List Frame) (Q : Array Value → State → Outcome → State → Prop) (a : Array Value) (s : State) : State → Prop := fun t => ∃ o, t.status = .running ∧ Ended t below o ∧ Q a s o t
def zt_rm (f n mc ms : Nat) : Room := { frames := f, cells := mc, slots := ms, locals := n }
/-- what a throwing method's walk stands on -/
def zt_M (p : Program) (c : Code) (cc : ByteArray) (nL : Nat) (s : State) (m : MethodId) (meth : Method) (args : Array Value) (own : String) (ret : Option FieldType) (g : zs_G) (A : Nat → Prop) : Prop :=
  zs_M p c cc nL s m meth args own ret g ∧ c.exceptionTable.toList = [] ∧ zx_K A s
theorem zt_met {l : Launch} {y : MethodName} {rm : Room} {Q : Array Value → State → Outcome → State → Prop} {cc : ByteArray} {maxL : Nat} {ret : Option FieldType} {g : zs_G} {A : Nat → Prop} {As : List Value} {st : zs_T}
    (hy : plainName y.cls = true) (hn : (lg_sl As).length ≤ maxL)
    (body : ∀ (p : Program) (e : Env) (s : State) (m : MethodId) (below : List Frame) (meth : Method) (c : Code) (ls : Array Slot), zt_M p c cc maxL s m meth As.toArray y.cls ret g A → lv_has ls maxL (lv_args 0 As) → zs_P g zs_ly zs_N A st s.heap →
      W p l e rm s m As.toArray below meth c s.heap [] 0 0 (zt_MQ below Q As.toArray s) (F0 m 0 ls [])) :
    zt_Met l y (.code y cc maxL ret :: zs_tb) rm (zt_Pc g A As st) Q := by
  refine MetFree.of_bodyS (code := cc) (maxLocals := maxL) (ret := ret) hy ?_ ?_
  · intro args s m h hn9
    obtain ⟨meth, c, h1, h2, h3, h4, h5, h6, -, -⟩ := Cond.code_spec hn9 (atoms_spec (ws := .code y cc maxL ret :: zs_tb) h _ List.mem_cons_self)
    exact ⟨meth, c, h1, h2, h3, h4, h5, h6⟩
  · intro p e s m args below meth c s₁ B hml hv _
    obtain ⟨rfl, hP, hK, hZ⟩ := hv
    have hts := atoms_spec (ws := .code y cc maxL ret :: zs_tb) B.pre
    have hE : c.exceptionTable.toList = [] := by
      have h9 := B.noHandlers (hts _ List.mem_cons_self)
      simpa using h9
    have hh0 : s₁.heap = s.heap := by rw [B.state]; rfl
    have hl := lv_entry As hn
    have hw := body p e s m below meth c _ ⟨⟨B.exec, B.bytes, hml, B.returns, B.notSynchronized, fun w hw => hts w (List.mem_cons_of_mem _ hw), findClass_of_methodNamed B.named, hK⟩, hE, hZ⟩ hl hP
    rw [← lg_entry_eq] at hw
    obtain ⟨t, a1, o, b1, b2, b3⟩ := hw s₁ hh0 (Stand.of_body B)
    exact ⟨t, o, a1, b1, b2, b3⟩
/-- nothing written: all old cells are as they were -/
theorem zt_same {s U : State} {k n : Nat} (h : s.sameButNew ({ U with vm := s.vm } : State) [] k n) : s.heap.size ≤ U.heap.size ∧ ∀ q : Nat, q < s.heap.size → U.heap[q]? = s.heap[q]? := by
  refine ⟨h.2.1, fun q hq => ?_⟩
  have hc : s.heap[q]? = some s.heap[q] := Array.getElem?_eq_getElem hq
  obtain ⟨c', h1, h2, h3, h4⟩ := h.2.2.2.2.2 q _ hc
  have h5 : c'.slots = (s.heap[q]).slots := by
    apply Array.ext_getElem?
    intro i
    exact h4 i (fun z => by cases z)
  have h6 : c' = s.heap[q] := by
    rw [h2, h5]
  have h7 : U.heap[q]? = some c' := h1
  rw [h7, hc, h6]
theorem zt_kept {g : zs_G} {ly : zs_L} {N : Nat} {A : Nat → Prop} {st : zs_T} {H H1 : Heap} (hP : zs_P g ly N A st H) (h : ∀ q : Nat, q < H.size → H1[q]? = H[q]?) : zs_P g ly N A st H1 :=
  ⟨hP.1.kept (fun k x hx => h x.1 ((hP.1 k x hx).lt)), hP.2⟩
section ZT
variable {p : Program} {l : Launch} {e : Env} {R : Room} {s : State} {m : MethodId} {args : Array Value} {below : List Frame} {meth : Method} {c : Code} {H : Heap} {locs : List Loc} {cells slots : Nat}
/-- 'throw new E("..")' in a method that has written nothing -/
theorem zt_throw {cc : ByteArray} {pc nL : Nat} {ls : Array Slot} {ret : Option FieldType} {g : zs_G} {A : Nat → Prop} {st : zs_T} {KX : String → zs_T → Prop} (hM : zt_M p c cc nL s m meth args "ThriftyStores" ret g A) (hl : l.stackTraces = false) (hP : zs_P g zs_ly zs_N A st s.heap) (hsz : ls.size = nL)
    {cls text : String} {ik is ic : Nat} (hcls : Bundle.fit cls = true) (hk : (Cond.classLink "ThriftyStores" ik cls) ∈ zs_tb) (hini : (Cond.initialized cls) ∈ zs_tb) (hat : ∀ w ∈ Bundle.ownAtoms "ThriftyStores" ic cls zx_nm, w ∈ zx_ws) (htx : (is, text) ∈ zx_tx) (hKX : KX cls st)
    (d0 : decode cc pc = .ok (.new ik, 3)) (d3 : decode cc (pc + 3) = .ok (.dup, 1)) (d4 : decode cc (pc + 4) = .ok (.ldc is, 2)) (d6 : decode cc (pc + 6) = .ok (.invokespecial ic, 3)) (d9 : decode cc (pc + 9) = .ok (.athrow, 1))
    (hRf : 6 ≤ R.frames) (hRl : 82 ≤ R.locals) (hRc : 1 ≤ R.cells) (hRs : 6 ≤ R.slots) :
    W p l e R s m args below meth c H [] 0 0 (zt_MQ below (zt_Q g A KX 1 6) args s) (F0 m pc ls []) := by
  obtain ⟨⟨hx, hb, hml, hr, hlk, hts, hown, hK⟩, hE, hZ⟩ := hM
  intro T hT X
  have htr : e.platform.stackTraces = false := (show e.platform.stackTraces = l.stackTraces by rw [X.admits.platform]).trans hl
  have h : ∀ w ∈ Bundle.ownAtoms "ThriftyStores" ic cls zx_nm, w.before args s = true := fun w hw => hZ.here (hat w hw)
  have hins : (Cond.instantiable cls 6).before args s = true := h _ (by simp [Bundle.ownAtoms])
  obtain ⟨sa, hstr⟩ := hZ.2 _ htx
  obtain ⟨vm₁, cX, kX, hfX, hkX, -, -, X₁, st1⟩ := X.newCold hx (own := "ThriftyStores") (C := cls) (index := ik) (n := 6) hown (hts _ hk) hins (hts _ hini) (g := F0 m pc ls []) rfl (by rw [hb]; exact d0) (by omega) (by omega)
  have hcellA : ((T.setVm vm₁).pushCell { cls := cX, slots := kX.instanceTypes.map defaultValue, vm := .none }).heap[T.heap.size]? = some (freshCell cX kX) := State.heap_pushCell_size _ _
  generalize (T.setVm vm₁).pushCell { cls := cX, slots := kX.instanceTypes.map defaultValue, vm := .none } = T1 at X₁ st1 hcellA
  have d3' : decode c.code (pc + 3) = .ok (.dup, 1) := by rw [hb]; exact d3
  have d4' : decode c.code (pc + 4) = .ok (.ldc is, 2) := by rw [hb]; exact d4
  obtain ⟨U, hsteps, hrun, hend, hW, hsame, ce, hce, hO⟩ := X₁.ctorThrowS hx htr (own := "ThriftyStores") (cls := cls) (names := zx_nm) (ic := ic) hown hcls (by decide) h (fun x hx => nomatch hx) hfX hkX hcellA (X.same.2.1) (msg := .ref sa) rfl
    (g := { method := m, pc := pc + 6, locals := ls, stack := [.ref sa, .ref T.heap.size, .ref T.heap.size], locked := none }) rfl (hsz.trans hml.symm) rfl rfl (rest := []) rfl
    (by rw [hb]; exact d6) (by rw [hb]; exact d9) (by rw [hE]; exact fun x hx => nomatch hx) (by show 2 + 3 < R.frames; omega) (by show 2 * 0 + 1 + (13 * (2 + 1) + 42) ≤ R.locals; omega) hlk
  obtain ⟨f1, f2⟩ := zt_same hsame
  refine ⟨U, ?_, .threw T.heap.size, hrun, hend, T.heap.size, rfl, cls, ce, st, [], hKX, zt_kept hP f2, ⟨f1, fun q hq _ => f2 q hq⟩, hce, hO.vm, hO.cls, hW, hsame.mono (by omega) (by omega), fun z hz => nomatch hz⟩
  refine st1 _ ?_
  show Steps p.tables e below (T1.setTop { method := m, pc := pc + 3, locals := ls, stack := [.ref T.heap.size], locked := none }) _
  jvm_step X₁.here [X₁.here.top, hx, d3', Value.category]
  exact X₁.ldcString hx (own := "ThriftyStores") (text := text) (index := is) (a := sa) hown hstr.1 hstr.2
    (g := { method := m, pc := pc + 4, locals := ls, stack := [.ref T.heap.size, .ref T.heap.size], locked := none }) rfl d4' _ hsteps
end ZT
