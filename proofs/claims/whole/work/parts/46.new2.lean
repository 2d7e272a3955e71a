/-! Making objects and rows of references; what a constructor's contract is. -/
def zn_Pc (g : zs_G) (ly : zs_L) (N sz : Nat) (A : Nat → Prop) (As : List Value) (st : zs_T) : Array Value → State → Prop := va_Pc As (fun U => zs_P g ly N A st U.heap ∧ zs_K zs_nl g U ∧ va_AO "ThriftyStores$Facts" U ∧ U.heap.size = sz + N)
def zn_Q (g : zs_G) (ly : zs_L) (N : Nat) (A : Nat → Prop) (st : zs_T) : Array Value → State → Outcome → State → Prop := va_Qv (fun _ : Unit => True) (fun _ t => zs_P g ly N A st t.heap) A
theorem zn_blind {g : zs_G} {ly : zs_L} {N sz : Nat} {A : Nat → Prop} {As : List Value} {st : zs_T} : FrameBlind (zn_Pc g ly N sz A As st) := by
  intro a U f mk q
  obtain ⟨q0, q1, q2, q3, q4⟩ := q
  have hz := zs_blind zs_nwk (g := g) (ly := ly) (N := N) (A := A) (As := As) (st := st) a U f mk ⟨q0, q1, q2⟩
  exact ⟨hz.1, hz.2.1, hz.2.2, va_AO.moved (u := U) (U := U.calling f mk a) (Vm.Alike.refl U.vm) q3, q4⟩
theorem zn_pre {g : zs_G} {ly : zs_L} {N sz : Nat} {A : Nat → Prop} {As : List Value} {st : zs_T} {s : State} {H : Heap} (hK : zs_K zs_nl g s) (hO : va_AO "ThriftyStores$Facts" s) (hP : zs_P g ly N A st H) (hz : H.size = sz + N) : PreS s H (zn_Pc g ly N sz A As st) As :=
  ⟨zn_blind, fun U hU hW => ⟨rfl, by rw [hU]; exact hP, hK.warm zs_nwk hW, va_AO.moved hW.alike hO, by rw [hU]; exact hz⟩⟩
theorem zn_met {l : Launch} {y : MethodName} {rm : Room} {Qc : Array Value → State → Outcome → State → Prop} {cc : ByteArray} {maxL mc ms N sz : Nat} {ret : Option FieldType} {g : zs_G} {ly : zs_L} {A : Nat → Prop} {As : List Value} {st : zs_T}
    (hy : plainName y.cls = true) (hyi : y.name = "<init>") (hn : (lg_sl As).length ≤ maxL)
    (body : ∀ (p : Program) (e : Env) (s : State) (m : MethodId) (below : List Frame) (meth : Method) (c : Code) (ls : Array Slot), zs_M p c cc maxL s m meth As.toArray y.cls ret g → meth.name = "<init>" → va_AO "ThriftyStores$Facts" s → s.heap.size = sz + N → lv_has ls maxL (lv_args 0 As) → zs_P g ly N A st s.heap →
      W p l e rm s m As.toArray below meth c s.heap [] 0 0 (MQ below Qc As.toArray s mc ms A) (F0 m 0 ls [])) :
    Met l y (.code y cc maxL ret :: zs_tb) rm (zn_Pc g ly N sz A As st) Qc mc ms A := by
  refine Met.ofW (cc := cc) (maxL := maxL) (ret := ret) hy rfl ?_
  intro p e s m args below meth c s₁ B hml hv
  obtain ⟨rfl, hP, hK, hO, hz⟩ := hv
  have hl := lv_entry As hn
  rw [lg_entry_eq]
  have hts := atoms_spec (ws := .code y cc maxL ret :: zs_tb) B.pre
  exact body p e s m below meth c _ ⟨B.exec, B.bytes, hml, B.returns, B.notSynchronized, fun w hw => hts w (List.mem_cons_of_mem _ hw), findClass_of_methodNamed B.named, hK⟩ (((name_of_methodNamed B.named B.method).1).trans hyi) hO hz hl hP
section ZO
variable {p : Program} {l : Launch} {e : Env} {R : Room} {s : State} {m : MethodId} {args : Array Value} {below : List Frame} {meth : Method} {c : Code} {H : Heap} {locs : List Loc} {cells slots : Nat} {Q : State → Prop}
variable {cc : ByteArray} {pc : Nat} {ls : Array Slot} {rest : List Value} {g : zs_G} {ly : zs_L} {N sz : Nat} {A : Nat → Prop} {st : zs_T} {H0 : Heap} {d n : Nat} {fs : List Nat}
theorem zn_vret {ly' : zs_L} {N' : Nat} {st' : zs_T} (hx : p.tables.exec = Jvm.exec) (hb : c.code = cc) (hr : meth.sig.returnType = none) (hlocks : meth.locks = false) (hP : zs_P g ly' N' A st' H) (hS : va_S A s.heap H locs) (hdg : decode cc pc = .ok (.return_, 1)) : W p l e R s m args below meth c H locs cells slots (MQ below (zn_Q g ly' N' A st') args s cells slots A) (F0 m pc ls []) :=
  W.vret hx hb hr (fun t ht _ => ⟨⟨(), rfl, trivial, by show zs_P _ _ _ _ _ _; rw [ht]; exact hP⟩, hS.F ht⟩) hS.2.2 hdg hlocks
theorem zn_new (hx : p.tables.exec = Jvm.exec) (hb : c.code = cc) (hts : ∀ w ∈ zs_tb, w.before args s = true) {own C : String} {T : u_T} {M index ci : Nat} (hin : ∀ w ∈ u_ws C T M, w ∈ zs_tb) (ty : Nat → FieldType) (hty : ∀ k, k < M → parseFieldDescriptor (T k).2.2.1 = some (ty k)) (hown : s.vm.findClass own = some m.cls) (hcl : (Cond.classLink own index C) ∈ zs_tb) (hinst : (Cond.instantiable C M) ∈ zs_tb) (hini : (Cond.initialized C) ∈ zs_tb)
    (hK : va_K g.1 zs_cl (zs_ty g) s) (hP : zs_P g ly N A st H) (hc0 : s.heap.size + cells = sz + N) (hN1 : H.size = sz + N) (had : ∀ d, g.2.1 d = sz + d) (hA : ∀ q, sz ≤ q → A q) (hS : va_S A H0 H locs) (hc : zs_cl[ci]? = some (C, T, M)) (hst : st.1 N = fun _ => 0)
    (f1 : fs.length = M) (f2 : ∀ j, j < M → fs.getD j 0 < 2) (f3 : ∀ j, j < M → defaultValue (ty j) = if fs.getD j 0 = 0 then .null else .int 0) (hcc : cells + 1 ≤ R.cells) (hs : slots + M ≤ R.slots) (hdg : decode cc pc = .ok (.new index, 3))
    (kk : ∀ H1 : Heap, zs_P g (va_up ly N (0, ci, fs)) (N + 1) A st H1 → va_S A H0 H1 locs → W p l e R s m args below meth c H1 locs (cells + 1) (slots + M) Q (F0 m (pc + 3) ls (.ref (g.2.1 N) :: rest))) : W p l e R s m args below meth c H locs cells slots Q (F0 m pc ls rest) := by
  have h0 : g.2.1 N = H.size := by rw [had, hN1]
  have hKn := hK.1 ci _ hc
  refine W.newcK hx hb hown (hts _ hcl) (hts _ hinst) (hts _ hini) rfl hdg hcc hs hKn.2.1 rfl fun H1 kC hkC e1 z1 o1 => ?_
  have hP' : zs_P g (va_up ly N (0, ci, fs)) N A st H := zn_ly (fun x hx9 => (va_up_ne ly _ (Nat.ne_of_lt hx9)).symm) hP
  have hh := kk H1 (zn_push hP' h0 (hA _ (by omega)) o1 (by
    rw [zs_e0 (va_up_self _ _ _), h0]
    refine ⟨_, hc, (u_born ty hts hin hKn hkC e1 hty).to fun j hj => ?_⟩
    have hj' : j < fs.length := by omega
    have hg : fs[j]? = some (fs.getD j 0) := by simp [List.getD, hj']
    have hv : vp_V (zs_fs g.2.1 (st.1 N) fs) j = zs_v g.2.1 (st.1 N) j (fs.getD j 0) := by
      unfold vp_V
      rw [List.getD_eq_getElem?_getD, zs_fs_at hg]
      rfl
    rw [hv, hst, f3 j hj]
    have h2 := f2 j hj
    generalize fs.getD j 0 = t at h2 ⊢
    match t, h2 with
    | 0, _ => rfl
    | 1, _ => rfl)) (zn_S hS z1 o1)
  rw [h0] at hh
  exact hh
theorem zn_newq (hx : p.tables.exec = Jvm.exec) (hb : c.code = cc) (hts : ∀ w ∈ zs_tb, w.before args s = true) {own : String} {index : Nat} (hown : s.vm.findClass own = some m.cls) (hcl : (Cond.classLink own index "ThriftyStores$Facts") ∈ zs_tb) (hover : va_AO "ThriftyStores$Facts" s)
    (hK : va_K g.1 zs_cl (zs_ty g) s) (hP : zs_P g ly N A st H) (hN1 : H.size = sz + N) (had : ∀ d, g.2.1 d = sz + d) (hA : ∀ q, sz ≤ q → A q) (hS : va_S A H0 H locs) {b : Nat} (hl : ly N = (4, n, [0, b]))
    {x : Int32} (hn : ¬ x < 0) (hN : x.toNatClampNeg = n) (hby : n * 4 ≤ 536870912) (hc : cells + 1 ≤ R.cells) (hs : slots + n ≤ R.slots) (hdg : decode cc pc = .ok (.anewarray index, 3))
    (kk : ∀ H1 : Heap, zs_P g ly (N + 1) A st H1 → va_S A H0 H1 locs → W p l e R s m args below meth c H1 locs (cells + 1) (slots + n) Q (F0 m (pc + 3) ls (.ref (g.2.1 N) :: rest))) : W p l e R s m args below meth c H locs cells slots Q (F0 m pc ls (.int x :: rest)) := by
  have h0 : g.2.1 N = H.size := by rw [had, hN1]
  subst hN
  refine W.anew hx hb hown (hts _ hcl) (va_AO.use hover) rfl hdg rfl hn hby hc hs fun cA kA comp f1 f2 f3 f4 => ?_
  have hcA : cA = g.2.2 3 := by
    obtain ⟨kA', comp', q1, q2, q3, q4⟩ := (hK.2 3 _ rfl).2
    exact Option.some.inj (f1.symm.trans q4)
  subst hcA
  generalize hH1 : H.push ({ cls := g.2.2 3, slots := Array.replicate x.toNatClampNeg .null, vm := .none } : Cell) = H1
  have z1 : H1.size = H.size + 1 := by rw [← hH1, Array.size_push]
  have e1 : H1[H.size]? = some (arrV (g.2.2 3) x.toNatClampNeg (fun _ => .null)) := by rw [← hH1, Array.getElem?_push_size, ← arrV_new]
  have o1 : ∀ q : Nat, q < H.size → H1[q]? = H[q]? := fun q hq => by rw [← hH1, Array.getElem?_push, if_neg (Nat.ne_of_lt hq)]
  have hh := kk H1 (zn_push hP h0 (hA _ (by omega)) o1 (by
    rw [zs_e4 hl, h0]
    show H1[H.size]? = some (vp_cell _ _)
    rw [vp_cell_q, e1]
    rfl)) (zn_S hS z1 o1)
  rw [h0] at hh
  exact hh
/-- the next of the row of references -/
theorem zn_aast (hx : p.tables.exec = Jvm.exec) (hb : c.code = cc) (hK : va_K g.1 zs_cl (zs_ty g) s) (hP : zs_P g ly N A st H) (hS : va_S A H0 H locs) {k b : Nat} {fs0 : List Nat} (hd : d < N) (hl : ly d = (4, n, [k, b])) (hv : b + 3 * k < N) (hlv : ly (b + 3 * k) = (0, 3, fs0)) {i : Int32} (hin : vp_in i n) (hi : i.toNatClampNeg = k) (hdg : decode cc pc = .ok (.aastore, 1))
    (kk : ∀ (H1 : Heap) (locs1 : List Loc), zs_P g (va_up ly d (4, n, [k + 1, b])) N A st H1 → va_S A H0 H1 locs1 → W p l e R s m args below meth c H1 locs1 cells slots Q (F0 m (pc + 1) ls rest)) : W p l e R s m args below meth c H locs cells slots Q (F0 m pc ls (.ref (g.2.1 (b + 3 * k)) :: .int i :: .ref (g.2.1 d) :: rest)) := by
  refine va_astq hx hb hK hP.1 hP.2 hS d 3 (b + 3 * k) 3 (r := ("ThriftyStores$Facts", TFA, 3)) (by rw [zs_at hd, zs_e4 hl]) rfl (by rw [zs_at hv, zs_e0 hlv]) rfl hin hdg fun H1 locs1 h1 h2 h3 => kk H1 locs1 ?_ h3
  subst hi
  have e9 : va_up (fun j => if j < ([i.toNatClampNeg, b] : List Nat).getD 0 0 then some (g.2.1 (([i.toNatClampNeg, b] : List Nat).getD 1 0 + 3 * j)) else none) i.toNatClampNeg (some (g.2.1 (b + 3 * i.toNatClampNeg))) = (fun j => if j < ([i.toNatClampNeg + 1, b] : List Nat).getD 0 0 then some (g.2.1 (([i.toNatClampNeg + 1, b] : List Nat).getD 1 0 + 3 * j)) else none) := by
    funext j
    show (if j = i.toNatClampNeg then _ else if j < i.toNatClampNeg then some (g.2.1 (b + 3 * j)) else none) = if j < i.toNatClampNeg + 1 then some (g.2.1 (b + 3 * j)) else none
    by_cases h : j = i.toNatClampNeg
    · subst h
      rw [if_pos rfl, if_pos (Nat.lt_succ_self _)]
    · rw [if_neg h]
      by_cases h' : j < i.toNatClampNeg
      · rw [if_pos h', if_pos (by omega)]
      · rw [if_neg h', if_neg (by omega)]
  rw [e9, zs_set (ly' := va_up ly d (4, n, [i.toNatClampNeg + 1, b])) (st' := st) (fun d' h => by unfold zs_e; rw [va_up_ne _ _ h]) (by rw [zs_e4 (ly := va_up ly d (4, n, [i.toNatClampNeg + 1, b])) (va_up_self _ _ _)])] at h1 h2
  exact ⟨h1, h2⟩
/-- a constructor, called -/
theorem zn_call {ly' : zs_L} {N' mc ms : Nat} {st' : zs_T} {a : Array Value} {st0 : List Value} (hP : zs_P g ly N A st H) (had : ∀ d, g.2.1 d = sz + d) (hN1 : 0 < N) (hc0 : s.heap.size + cells = sz + N) (hr : H.size = sz + N → va_Run p l e R s m args below meth c H locs cells slots mc ms (F0 m pc ls st0) rest (zn_Q g ly' N' A st' a) A) (hS : va_S A s.heap H locs)
    (kk : ∀ (H1 : Heap) (locs1 : List Loc), zs_P g ly' N' A st' H1 → va_S A s.heap H1 locs1 → W p l e R s m args below meth c H1 locs1 (cells + mc) (slots + ms) Q (F0 m (pc + 3) ls rest)) : W p l e R s m args below meth c H locs cells slots Q (F0 m pc ls st0) := by
  intro T hT X
  exact (va_callv (hr (zn_size hP had hN1 hc0 hT X)) hS (fun _ _ h => h) (fun _ h => h) (fun u t H1 locs1 ht _ hp hB _ _ hS1 => kk H1 locs1 (by rw [← ht]; exact hB) hS1)) T hT X
/-- the heap's size, where it is wanted -/
theorem zn_sized {fr : JFrame} (hP : zs_P g ly N A st H) (had : ∀ d, g.2.1 d = sz + d) (hN1 : 0 < N) (hc0 : s.heap.size + cells = sz + N) (kk : H.size = sz + N → W p l e R s m args below meth c H locs cells slots Q fr) : W p l e R s m args below meth c H locs cells slots Q fr :=
  fun T hT X => kk (zn_size hP had hN1 hc0 hT X) T hT X
end ZO
