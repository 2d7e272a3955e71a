/-! Making: the cells come one behind another, the cell d at the address sz + d. -/
theorem zn_ly {g : zs_G} {ly ly' : zs_L} {N : Nat} {A : Nat → Prop} {st : zs_T} {H : Heap} (h : ∀ d, d < N → ly d = ly' d) (hP : zs_P g ly N A st H) : zs_P g ly' N A st H := by
  have e : zs_w g ly N st = zs_w g ly' N st := by
    unfold zs_w
    apply List.map_congr_left
    intro d hd
    have h9 := h d (List.mem_range.mp hd)
    unfold zs_e
    rw [h9]
  unfold zs_P at hP ⊢
  rw [e] at hP
  exact hP
theorem zn_st {g : zs_G} {ly : zs_L} {N : Nat} {A : Nat → Prop} {st st' : zs_T} {H : Heap} (h : ∀ d, d < N → st.1 d = st'.1 d ∧ st.2 d = st'.2 d) (hP : zs_P g ly N A st H) : zs_P g ly N A st' H := by
  have e : zs_w g ly N st = zs_w g ly N st' := by
    unfold zs_w
    apply List.map_congr_left
    intro d hd
    have h9 := h d (List.mem_range.mp hd)
    unfold zs_e
    rw [h9.1, h9.2]
  unfold zs_P at hP ⊢
  rw [e] at hP
  exact hP
theorem zn_w {g : zs_G} {ly : zs_L} {N : Nat} {st : zs_T} : zs_w g ly (N + 1) st = zs_w g ly N st ++ [(g.2.1 N, zs_e g ly st N)] := by
  unfold zs_w
  rw [List.range_succ, List.map_append]
  rfl
theorem zn_push {g : zs_G} {ly : zs_L} {N : Nat} {A : Nat → Prop} {st : zs_T} {H H1 : Heap} (hP : zs_P g ly N A st H) (had : g.2.1 N = H.size) (hA : A H.size) (hk : ∀ q : Nat, q < H.size → H1[q]? = H[q]?) (hn : va_at g.1 zs_cl (g.2.1 N, zs_e g ly st N) H1) : zs_P g ly (N + 1) A st H1 := by
  unfold zs_P
  rw [zn_w]
  refine ⟨(hP.1.kept (fun k x hx => hk x.1 ((hP.1 k x hx).lt))).app (fun k x hx => ?_), hP.2.push hP.1 had (by rw [had]; exact hA)⟩
  have hz : k < 1 := (List.getElem?_eq_some_iff.mp hx).1
  rw [show k = 0 by omega] at hx
  cases hx
  exact hn
theorem zn_fs {ad : Nat → Nat} {f : Nat → Int32} {fs : List Nat} {k b : Nat} (hk : k < fs.length) : (zs_fs ad f fs).set k (.ref (ad b)) = zs_fs ad f (fs.set k (b + 2)) := by
  have hl : ∀ fs' : List Nat, (zs_fs ad f fs').length = fs'.length := fun fs' => by simp [zs_fs]
  apply List.ext_getElem?
  intro i
  by_cases hi : i = k
  · subst hi
    rw [List.getElem?_set_self (by rw [hl]; exact hk), zs_fs_at (t := b + 2) (by rw [List.getElem?_set_self hk])]
    rfl
  · rw [List.getElem?_set_ne (fun q => hi q.symm)]
    by_cases hN : i < fs.length
    · have h3 : fs[i]? = some fs[i] := List.getElem?_eq_getElem hN
      rw [zs_fs_at h3, zs_fs_at (t := fs[i]) (by rw [List.getElem?_set_ne (fun q => hi q.symm)]; exact h3)]
    · rw [List.getElem?_eq_none (by rw [hl]; omega), List.getElem?_eq_none (by rw [hl, List.length_set]; omega)]
section ZN
variable {p : Program} {l : Launch} {e : Env} {R : Room} {s : State} {m : MethodId} {args : Array Value} {below : List Frame} {meth : Method} {c : Code} {H : Heap} {locs : List Loc} {cells slots : Nat} {Q : State → Prop}
variable {cc : ByteArray} {pc : Nat} {ls : Array Slot} {rest : List Value} {g : zs_G} {ly : zs_L} {N sz : Nat} {A : Nat → Prop} {st : zs_T} {H0 : Heap} {d n : Nat} {fs : List Nat}
theorem zn_S {A : Nat → Prop} {H0 H H1 : Heap} {locs : List Loc} (hS : va_S A H0 H locs) (hz : H1.size = H.size + 1) (hk : ∀ q : Nat, q < H.size → H1[q]? = H[q]?) : va_S A H0 H1 locs :=
  ⟨Nat.le_trans hS.1 (by omega), fun q h1 h2 => (hk q (Nat.lt_of_lt_of_le h1 hS.1)).trans (hS.2.1 q h1 h2), hS.2.2⟩
theorem zn_size (hP : zs_P g ly N A st H) (had : ∀ d, g.2.1 d = sz + d) (hN1 : 0 < N) (hc0 : s.heap.size + cells = sz + N) {T : State} (hT : T.heap = H) (X : Stand p l e R s m args below meth c T locs cells slots) : H.size = sz + N := by
  have h1 := (hP.1 (N - 1) _ (zs_at (by omega))).lt
  have h2 := X.heapSize
  rw [hT] at h2
  have h3 : g.2.1 (N - 1) < H.size := h1
  rw [had] at h3
  omega
theorem zn_newi (hx : p.tables.exec = Jvm.exec) (hb : c.code = cc) (harr : (Cond.arrayClass .int).before args s = true) (hK : va_K g.1 zs_cl (zs_ty g) s) (hP : zs_P g ly N A st H) (hc0 : s.heap.size + cells = sz + N) (hN1 : 0 < N) (had : ∀ d, g.2.1 d = sz + d) (hA : ∀ q, sz ≤ q → A q) (hS : va_S A H0 H locs) (hl : ly N = (1, n, fs)) (hst : st.1 N = fun _ => 0)
    {x : Int32} (hn : ¬ x < 0) (hN : x.toNatClampNeg = n) (hby : n * componentBytes .int ≤ 536870912) (hc : cells + 1 ≤ R.cells) (hs : slots + n ≤ R.slots) (hdg : decode cc pc = .ok (.newarray .int, 2))
    (kk : ∀ H1 : Heap, zs_P g ly (N + 1) A st H1 → va_S A H0 H1 locs → W p l e R s m args below meth c H1 locs (cells + 1) (slots + n) Q (F0 m (pc + 2) ls (.ref (g.2.1 N) :: rest))) : W p l e R s m args below meth c H locs cells slots Q (F0 m pc ls (.int x :: rest)) := by
  intro T0 hT0 X0
  have hz := zn_size hP had hN1 hc0 hT0 X0
  have h0 : g.2.1 N = H.size := by rw [had, hz]
  refine (?_ : W p l e R s m args below meth c H locs cells slots Q (F0 m pc ls (.int x :: rest))) T0 hT0 X0
  refine va_newaK hx hb (atype := .int) harr rfl hdg rfl hn hN hby hc hs rfl fun H1 cA e1 z1 o1 hAr hNm => ?_
  have hcA : cA = g.2.2 0 := Option.some.inj (hNm.symm.trans (hK.2 0 _ rfl).2)
  subst hcA
  have hh := kk H1 (zn_push hP h0 (hA _ (by omega)) o1 (by show va_at _ _ (_, zs_e g ly st N) _; rw [zs_e1 hl, hst, h0]; show H1[H.size]? = some (vp_cell _ _); rw [vp_cell_i]; exact e1)) (zn_S hS z1 o1)
  rw [h0] at hh
  exact hh
theorem zn_newz (hx : p.tables.exec = Jvm.exec) (hb : c.code = cc) (harr : (Cond.arrayClass .boolean).before args s = true) (hK : va_K g.1 zs_cl (zs_ty g) s) (hP : zs_P g ly N A st H) (hc0 : s.heap.size + cells = sz + N) (hN1 : 0 < N) (had : ∀ d, g.2.1 d = sz + d) (hA : ∀ q, sz ≤ q → A q) (hS : va_S A H0 H locs) (hl : ly N = (2, n, fs)) (hst : st.1 N = fun _ => 0)
    {x : Int32} (hn : ¬ x < 0) (hN : x.toNatClampNeg = n) (hby : n * componentBytes .boolean ≤ 536870912) (hc : cells + 1 ≤ R.cells) (hs : slots + n ≤ R.slots) (hdg : decode cc pc = .ok (.newarray .boolean, 2))
    (kk : ∀ H1 : Heap, zs_P g ly (N + 1) A st H1 → va_S A H0 H1 locs → W p l e R s m args below meth c H1 locs (cells + 1) (slots + n) Q (F0 m (pc + 2) ls (.ref (g.2.1 N) :: rest))) : W p l e R s m args below meth c H locs cells slots Q (F0 m pc ls (.int x :: rest)) := by
  intro T0 hT0 X0
  have hz := zn_size hP had hN1 hc0 hT0 X0
  have h0 : g.2.1 N = H.size := by rw [had, hz]
  refine (?_ : W p l e R s m args below meth c H locs cells slots Q (F0 m pc ls (.int x :: rest))) T0 hT0 X0
  refine va_newaK hx hb (atype := .boolean) harr rfl hdg rfl hn hN hby hc hs rfl fun H1 cA e1 z1 o1 hAr hNm => ?_
  have hcA : cA = g.2.2 1 := Option.some.inj (hNm.symm.trans (hK.2 1 _ rfl).2)
  subst hcA
  have hh := kk H1 (zn_push hP h0 (hA _ (by omega)) o1 (by show va_at _ _ (_, zs_e g ly st N) _; rw [zs_e2 hl, hst, h0]; show H1[H.size]? = some (vp_cell _ _); rw [vp_cell_i]; exact e1)) (zn_S hS z1 o1)
  rw [h0] at hh
  exact hh
theorem zn_newl (hx : p.tables.exec = Jvm.exec) (hb : c.code = cc) (harr : (Cond.arrayClass .long).before args s = true) (hK : va_K g.1 zs_cl (zs_ty g) s) (hP : zs_P g ly N A st H) (hc0 : s.heap.size + cells = sz + N) (hN1 : 0 < N) (had : ∀ d, g.2.1 d = sz + d) (hA : ∀ q, sz ≤ q → A q) (hS : va_S A H0 H locs) (hl : ly N = (3, n, fs)) (hst : st.2 N = fun _ => 0)
    {x : Int32} (hn : ¬ x < 0) (hN : x.toNatClampNeg = n) (hby : n * componentBytes .long ≤ 536870912) (hc : cells + 1 ≤ R.cells) (hs : slots + n ≤ R.slots) (hdg : decode cc pc = .ok (.newarray .long, 2))
    (kk : ∀ H1 : Heap, zs_P g ly (N + 1) A st H1 → va_S A H0 H1 locs → W p l e R s m args below meth c H1 locs (cells + 1) (slots + n) Q (F0 m (pc + 2) ls (.ref (g.2.1 N) :: rest))) : W p l e R s m args below meth c H locs cells slots Q (F0 m pc ls (.int x :: rest)) := by
  intro T0 hT0 X0
  have hz := zn_size hP had hN1 hc0 hT0 X0
  have h0 : g.2.1 N = H.size := by rw [had, hz]
  refine (?_ : W p l e R s m args below meth c H locs cells slots Q (F0 m pc ls (.int x :: rest))) T0 hT0 X0
  refine va_newaK hx hb (atype := .long) harr rfl hdg rfl hn hN hby hc hs rfl fun H1 cA e1 z1 o1 hAr hNm => ?_
  have hcA : cA = g.2.2 2 := Option.some.inj (hNm.symm.trans (hK.2 2 _ rfl).2)
  subst hcA
  have hh := kk H1 (zn_push hP h0 (hA _ (by omega)) o1 (by show va_at _ _ (_, zs_e g ly st N) _; rw [zs_e3 hl, hst, h0]; show H1[H.size]? = some (vp_cell _ _); rw [vp_cell_l]; exact e1)) (zn_S hS z1 o1)
  rw [h0] at hh
  exact hh
/-- a final field of a reference, set in the constructor -/
theorem zn_putr (hx : p.tables.exec = Jvm.exec) (hb : c.code = cc) (hts : ∀ w ∈ zs_tb, w.before args s = true) {own C : String} {T : u_T} {M index ci b : Nat} (hin : ∀ w ∈ u_ws C T M, w ∈ zs_tb) (ty0 : Nat → FieldType) (hty : ∀ k, k < M → parseFieldDescriptor (T k).2.2.1 = some (ty0 k)) (hnm : ∀ a, a < M → ∀ b, b < M → a ≠ b → (T a).2.1 ≠ (T b).2.1) (hown : s.vm.findClass own = some m.cls) (hK : va_K g.1 zs_cl (zs_ty g) s) (hP : zs_P g ly N A st H) (hS : va_S A H0 H locs) (hd : d < N) (hl : ly d = (0, ci, fs)) (hc : zs_cl[ci]? = some (C, T, M)) (k : Nat) (hk : k < M) (hkl : k < fs.length)
    (hlink : (Cond.fieldLink own index (T k).1 (T k).2.1 (T k).2.2.1).before args s = true) (hfin : (T k).2.2.2 = true) (hinit : meth.name = "<init>") (hdecl : (T k).1 = own) (hn : narrow (ty0 k) (.ref (g.2.1 b)) = .ref (g.2.1 b)) (hfit : fits (ty0 k) (.ref (g.2.1 b)) = true) (hdg : decode cc pc = .ok (.putfield index, 3))
    (kk : ∀ (H1 : Heap) (locs1 : List Loc), zs_P g (va_up ly d (0, ci, fs.set k (b + 2))) N A st H1 → va_S A H0 H1 locs1 → W p l e R s m args below meth c H1 locs1 cells slots Q (F0 m (pc + 3) ls rest)) : W p l e R s m args below meth c H locs cells slots Q (F0 m pc ls (.ref (g.2.1 b) :: .ref (g.2.1 d) :: rest)) := by
  refine va_putF hx hb hts hin ty0 hty hnm hown hK hP.1 hP.2 hS d (by rw [zs_at hd, zs_e0 hl]) hc k hk hlink (fun _ h => h) hfin hinit hdecl (hty k hk) hn hfit (by simp [zs_fs, hkl]) hdg fun H1 locs1 h1 h2 h3 => kk H1 locs1 ?_ h3
  rw [zs_set (ly' := va_up ly d (0, ci, fs.set k (b + 2))) (st' := st) (fun d' h => by unfold zs_e; rw [va_up_ne _ _ h]) (by rw [zs_e0 (ly := va_up ly d (0, ci, fs.set k (b + 2))) (va_up_self _ _ _), zn_fs hkl])] at h1 h2
  exact ⟨h1, h2⟩
end ZN
