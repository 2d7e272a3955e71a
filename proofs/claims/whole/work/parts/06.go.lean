/-- the nest words: what a method may call of another class of the nest -/
abbrev zs_nl : List Cond := [.methodLinkNest "ThriftyStores" 11 yPR_init "ThriftyStores", .methodLinkNest "ThriftyStores" 25 yAD_init "ThriftyStores", .methodLinkNest "ThriftyStores$Knowledge" 24 yFA_init "ThriftyStores", .methodLinkNest "ThriftyStores" 39 yFR_init "ThriftyStores", .methodLinkNest "ThriftyStores" 46 yMA_init "ThriftyStores", .methodLinkNest "ThriftyStores$Program" 28 yTS_isRegister "ThriftyStores"]
theorem zs_nwk : zs_nl.all zs_nk = true := by decide +kernel
/-- what a method's walk stands on -/
def zs_M (p : Program) (c : Code) (cc : ByteArray) (nL : Nat) (s : State) (m : MethodId) (meth : Method) (args : Array Value) (own : String) (ret : Option FieldType) (g : zs_G) : Prop :=
  p.tables.exec = Jvm.exec ∧ c.code = cc ∧ c.maxLocals = nL ∧ meth.sig.returnType = ret ∧ meth.locks = false ∧ (∀ w ∈ zs_tb, w.before args s = true) ∧ s.vm.findClass own = some m.cls ∧ zs_K zs_nl g s
/-- from here, with these locals and this memory, the machine comes to Q -/
def zs_Go (p : Program) (l : Launch) (e : Env) (R : Room) (s : State) (m : MethodId) (args : Array Value) (below : List Frame) (meth : Method) (c : Code) (g : zs_G) (A : Nat → Prop) (Q : State → Prop) (nL pc : Nat) (lv : List (Nat × Value)) (stk : List Value) (st : zs_T) : Prop :=
  ∀ (ls : Array Slot) (H : Heap) (locs : List Loc), lv_has ls nL lv → zs_P g zs_ly zs_N A st H → va_S A s.heap H locs → W p l e R s m args below meth c H locs 0 0 Q (F0 m pc ls stk)
theorem zs_met {l : Launch} {y : MethodName} {rm : Room} {Qc : Array Value → State → Outcome → State → Prop} {cc : ByteArray} {maxL : Nat} {ret : Option FieldType} {g : zs_G} {A : Nat → Prop} {As : List Value} {st : zs_T}
    (hy : plainName y.cls = true) (hn : (lg_sl As).length ≤ maxL)
    (body : ∀ (p : Program) (e : Env) (s : State) (m : MethodId) (below : List Frame) (meth : Method) (c : Code), zs_M p c cc maxL s m meth As.toArray y.cls ret g → zs_Go p l e rm s m As.toArray below meth c g A (MQ below Qc As.toArray s 0 0 A) maxL 0 (lv_args 0 As) [] st) :
    Met l y (.code y cc maxL ret :: zs_tb) rm (zs_Pc zs_nl g zs_ly zs_N A As st) Qc 0 0 A := by
  refine Met.ofW (cc := cc) (maxL := maxL) (ret := ret) hy rfl ?_
  intro p e s m args below meth c s₁ B hml hv
  obtain ⟨rfl, hP, hK⟩ := hv
  have hl := lv_entry As hn
  rw [lg_entry_eq]
  have hts := atoms_spec (ws := .code y cc maxL ret :: zs_tb) B.pre
  exact body p e s m below meth c ⟨B.exec, B.bytes, hml, B.returns, B.notSynchronized, fun w hw => hts w (List.mem_cons_of_mem _ hw), findClass_of_methodNamed B.named, hK⟩ _ _ _ hl hP va_S.rf
