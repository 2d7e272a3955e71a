/-! The memory of all cells that the law makes, as one pure thing: ints (booleans and int fields too) and longs, by cell and place. A layout says what each cell is: (0, class, fields) an object, a field is 0 null, 1 an int, k + 2 the cell k; (1, n, _) int[n]; (2, n, _) boolean[n]; (3, n, _) long[n]; (4, n, [k, b]) an array of references, the first k of them to the cells b, b + 3, b + 6 .. -/
abbrev zs_T : Type := (Nat → Nat → Int32) × (Nat → Nat → Int64)
abbrev zs_G : Type := va_G × (Nat → Nat) × (Nat → ClassId)
abbrev zs_L : Type := Nat → Nat × Nat × List Nat
def zs_i (st : zs_T) (d j : Nat) (v : Int32) : zs_T := (va_up st.1 d (upd (st.1 d) j v), st.2)
def zs_l (st : zs_T) (d j : Nat) (v : Int64) : zs_T := (st.1, va_up st.2 d (vp_updL (st.2 d) j v))
def zs_a (st : zs_T) (d : Nat) (f : Nat → Int32) : zs_T := (va_up st.1 d f, st.2)
def zs_v (ad : Nat → Nat) (f : Nat → Int32) (k t : Nat) : Value := match t with
  | 0 => .null
  | 1 => .int (f k)
  | t + 2 => .ref (ad t)
def zs_fs (ad : Nat → Nat) (f : Nat → Int32) (fs : List Nat) : List Value := (List.range fs.length).map (fun k => zs_v ad f k (fs.getD k 0))
def zs_e (g : zs_G) (ly : zs_L) (st : zs_T) (d : Nat) : va_E := match ly d with
  | (0, n, fs) => .inr (n, zs_fs g.2.1 (st.1 d) fs)
  | (1, n, _) => .inl (g.2.2 0, n, .inl (st.1 d))
  | (2, n, _) => .inl (g.2.2 1, n, .inl (st.1 d))
  | (3, n, _) => .inl (g.2.2 2, n, .inr (.inl (st.2 d)))
  | (_, n, fs) => .inl (g.2.2 3, n, .inr (.inr (.inr (.inr (fun j => if j < fs.getD 0 0 then some (g.2.1 (fs.getD 1 0 + 3 * j)) else none)))))
def zs_w (g : zs_G) (ly : zs_L) (N : Nat) (st : zs_T) : va_W := (List.range N).map (fun d => (g.2.1 d, zs_e g ly st d))
theorem zs_at {g : zs_G} {ly : zs_L} {N d : Nat} {st : zs_T} (h : d < N) : (zs_w g ly N st)[d]? = some (g.2.1 d, zs_e g ly st d) := by
  simp [zs_w, h]
theorem zs_set {g : zs_G} {ly ly' : zs_L} {N d : Nat} {st st' : zs_T} {e : va_E} (h : ∀ d', d' ≠ d → zs_e g ly' st' d' = zs_e g ly st d') (he : zs_e g ly' st' d = e) : (zs_w g ly N st).set d (g.2.1 d, e) = zs_w g ly' N st' := by
  apply List.ext_getElem?
  intro i
  by_cases hi : i = d
  · subst hi
    by_cases hN : i < N
    · rw [List.getElem?_set_self (by simp [zs_w, hN]), zs_at hN, he]
    · rw [List.getElem?_eq_none (by simp [zs_w]; omega), List.getElem?_eq_none (by simp [zs_w]; omega)]
  · rw [List.getElem?_set_ne (fun q => hi q.symm)]
    by_cases hN : i < N
    · rw [zs_at hN, zs_at hN, h i hi]
    · rw [List.getElem?_eq_none (by simp [zs_w]; omega), List.getElem?_eq_none (by simp [zs_w]; omega)]
theorem zs_ne {α : Type} {f : Nat → α} {d d' : Nat} {v : α} (h : d' ≠ d) : va_up f d v d' = f d' := va_up_ne f v h
theorem zs_eq {α : Type} {f : Nat → α} {d : Nat} {v : α} : va_up f d v d = v := va_up_self f d v
/-- another content of an int array, or other ints among the fields: no other cell is touched -/
theorem zs_set1 {g : zs_G} {ly : zs_L} {N d : Nat} {st : zs_T} {f : Nat → Int32} {e : va_E} (he : zs_e g ly (zs_a st d f) d = e) : (zs_w g ly N st).set d (g.2.1 d, e) = zs_w g ly N (zs_a st d f) := by
  refine zs_set (fun d' h => ?_) he
  have h1 : (zs_a st d f).1 d' = st.1 d' := zs_ne h
  unfold zs_e
  rw [h1]
  rfl
theorem zs_set2 {g : zs_G} {ly : zs_L} {N d j : Nat} {st : zs_T} {v : Int64} {e : va_E} (he : zs_e g ly (zs_l st d j v) d = e) : (zs_w g ly N st).set d (g.2.1 d, e) = zs_w g ly N (zs_l st d j v) := by
  refine zs_set (fun d' h => ?_) he
  have h1 : (zs_l st d j v).2 d' = st.2 d' := zs_ne h
  unfold zs_e
  rw [h1]
  rfl
theorem zs_ia (st : zs_T) (d j : Nat) (v : Int32) : zs_i st d j v = zs_a st d (upd (st.1 d) j v) := rfl
theorem zs_e1 {g : zs_G} {ly : zs_L} {d n : Nat} {st : zs_T} {fs : List Nat} (h : ly d = (1, n, fs)) : zs_e g ly st d = .inl (g.2.2 0, n, .inl (st.1 d)) := by unfold zs_e; simp only [h]
theorem zs_e2 {g : zs_G} {ly : zs_L} {d n : Nat} {st : zs_T} {fs : List Nat} (h : ly d = (2, n, fs)) : zs_e g ly st d = .inl (g.2.2 1, n, .inl (st.1 d)) := by unfold zs_e; simp only [h]
theorem zs_e3 {g : zs_G} {ly : zs_L} {d n : Nat} {st : zs_T} {fs : List Nat} (h : ly d = (3, n, fs)) : zs_e g ly st d = .inl (g.2.2 2, n, .inr (.inl (st.2 d))) := by unfold zs_e; simp only [h]
theorem zs_e4 {g : zs_G} {ly : zs_L} {d n : Nat} {st : zs_T} {fs : List Nat} (h : ly d = (4, n, fs)) : zs_e g ly st d = .inl (g.2.2 3, n, .inr (.inr (.inr (.inr (fun j => if j < fs.getD 0 0 then some (g.2.1 (fs.getD 1 0 + 3 * j)) else none))))) := by unfold zs_e; simp only [h]
theorem zs_e0 {g : zs_G} {ly : zs_L} {d n : Nat} {st : zs_T} {fs : List Nat} (h : ly d = (0, n, fs)) : zs_e g ly st d = .inr (n, zs_fs g.2.1 (st.1 d) fs) := by unfold zs_e; simp only [h]
theorem zs_fs_at {ad : Nat → Nat} {f : Nat → Int32} {fs : List Nat} {k t : Nat} (h : fs[k]? = some t) : (zs_fs ad f fs)[k]? = some (zs_v ad f k t) := by
  have hk : k < fs.length := (List.getElem?_eq_some_iff.mp h).1
  have h2 : fs.getD k 0 = t := by simp [List.getD, h]
  simp only [zs_fs, List.getElem?_map, List.getElem?_range hk, Option.map_some, h2]
theorem zs_fs_set {ad : Nat → Nat} {f : Nat → Int32} {fs : List Nat} {k : Nat} {v : Int32} (h : fs[k]? = some 1) : (zs_fs ad f fs).set k (.int v) = zs_fs ad (upd f k v) fs := by
  have hk : k < fs.length := (List.getElem?_eq_some_iff.mp h).1
  have hl : ∀ f' : Nat → Int32, (zs_fs ad f' fs).length = fs.length := fun f' => by simp [zs_fs]
  apply List.ext_getElem?
  intro i
  by_cases hi : i = k
  · subst hi
    rw [List.getElem?_set_self (by rw [hl]; exact hk), zs_fs_at h]
    simp [zs_v, upd]
  · rw [List.getElem?_set_ne (fun q => hi q.symm)]
    by_cases hN : i < fs.length
    · have h3 : fs[i]? = some fs[i] := List.getElem?_eq_getElem hN
      rw [zs_fs_at h3, zs_fs_at h3]
      unfold zs_v
      split
      · rfl
      · simp [upd, hi]
      · rfl
    · rw [List.getElem?_eq_none (by rw [hl]; omega), List.getElem?_eq_none (by rw [hl]; omega)]
/-- the world: the cells hold what the memory says, apart, in A -/
def zs_P (g : zs_G) (ly : zs_L) (N : Nat) (A : Nat → Prop) (st : zs_T) (H : Heap) : Prop := va_P g.1 zs_cl (zs_w g ly N st) H ∧ va_D A (zs_w g ly N st)
abbrev zs_ty (g : zs_G) : List (ClassId × FieldType) := [(g.2.2 0, .int), (g.2.2 1, .boolean), (g.2.2 2, .long), (g.2.2 3, .object "ThriftyStores$Facts")]
section ZR
variable {p : Program} {l : Launch} {e : Env} {R : Room} {s : State} {m : MethodId} {args : Array Value} {below : List Frame} {meth : Method} {c : Code} {H : Heap} {locs : List Loc} {cells slots : Nat} {Q : State → Prop}
variable {cc : ByteArray} {pc : Nat} {ls : Array Slot} {rest : List Value} {g : zs_G} {ly : zs_L} {N : Nat} {A : Nat → Prop} {st : zs_T} {H0 : Heap} {d n : Nat} {fs : List Nat}
theorem zr_iald (hx : p.tables.exec = Jvm.exec) (hb : c.code = cc) (hK : va_K g.1 zs_cl (zs_ty g) s) (hP : zs_P g ly N A st H) (hd : d < N) (hl : ly d = (1, n, fs)) {i : Int32} (hin : vp_in i n) (hdg : decode cc pc = .ok (.iaload, 1))
    (kk : W p l e R s m args below meth c H locs cells slots Q (F0 m (pc + 1) ls (.int (st.1 d i.toNatClampNeg) :: rest))) : W p l e R s m args below meth c H locs cells slots Q (F0 m pc ls (.int i :: .ref (g.2.1 d) :: rest)) :=
  va_iald hx hb hK hP.1 d 0 (by rw [zs_at hd, zs_e1 hl]) rfl hin hdg kk
theorem zr_zald (hx : p.tables.exec = Jvm.exec) (hb : c.code = cc) (hK : va_K g.1 zs_cl (zs_ty g) s) (hP : zs_P g ly N A st H) (hd : d < N) (hl : ly d = (2, n, fs)) {i : Int32} (hin : vp_in i n) (hdg : decode cc pc = .ok (.baload, 1))
    (kk : W p l e R s m args below meth c H locs cells slots Q (F0 m (pc + 1) ls (.int (st.1 d i.toNatClampNeg) :: rest))) : W p l e R s m args below meth c H locs cells slots Q (F0 m pc ls (.int i :: .ref (g.2.1 d) :: rest)) :=
  va_zald hx hb hK hP.1 d 1 (by rw [zs_at hd, zs_e2 hl]) rfl hin hdg kk
theorem zr_lald (hx : p.tables.exec = Jvm.exec) (hb : c.code = cc) (hK : va_K g.1 zs_cl (zs_ty g) s) (hP : zs_P g ly N A st H) (hd : d < N) (hl : ly d = (3, n, fs)) {i : Int32} (hin : vp_in i n) (hdg : decode cc pc = .ok (.laload, 1))
    (kk : W p l e R s m args below meth c H locs cells slots Q (F0 m (pc + 1) ls (.long (st.2 d i.toNatClampNeg) :: rest))) : W p l e R s m args below meth c H locs cells slots Q (F0 m pc ls (.int i :: .ref (g.2.1 d) :: rest)) :=
  va_lald hx hb hK hP.1 d 2 (by rw [zs_at hd, zs_e3 hl]) rfl hin hdg kk
theorem zr_aald (hx : p.tables.exec = Jvm.exec) (hb : c.code = cc) (hK : va_K g.1 zs_cl (zs_ty g) s) (hP : zs_P g ly N A st H) (hd : d < N) {k b : Nat} (hl : ly d = (4, n, [k, b])) {i : Int32} (hin : vp_in i n) (hk : i.toNatClampNeg < k) (hdg : decode cc pc = .ok (.aaload, 1))
    (kk : W p l e R s m args below meth c H locs cells slots Q (F0 m (pc + 1) ls (.ref (g.2.1 (b + 3 * i.toNatClampNeg)) :: rest))) : W p l e R s m args below meth c H locs cells slots Q (F0 m pc ls (.int i :: .ref (g.2.1 d) :: rest)) := by
  refine va_aldq hx hb hK hP.1 d 3 (by rw [zs_at hd, zs_e4 hl]) rfl hin hdg ?_
  rw [if_pos (show i.toNatClampNeg < [k, b].getD 0 0 from hk)]
  exact kk
theorem zr_iast (hx : p.tables.exec = Jvm.exec) (hb : c.code = cc) (hK : va_K g.1 zs_cl (zs_ty g) s) (hP : zs_P g ly N A st H) (hS : va_S A H0 H locs) (hd : d < N) (hl : ly d = (1, n, fs)) {i x : Int32} (hin : vp_in i n) (hdg : decode cc pc = .ok (.iastore, 1))
    (kk : ∀ (H1 : Heap) (locs1 : List Loc), zs_P g ly N A (zs_i st d i.toNatClampNeg x) H1 → va_S A H0 H1 locs1 → W p l e R s m args below meth c H1 locs1 cells slots Q (F0 m (pc + 1) ls rest)) : W p l e R s m args below meth c H locs cells slots Q (F0 m pc ls (.int x :: .int i :: .ref (g.2.1 d) :: rest)) := by
  refine va_iast hx hb hK hP.1 hP.2 hS d 0 (by rw [zs_at hd, zs_e1 hl]) rfl hin hdg fun H1 locs1 h1 h2 h3 => kk H1 locs1 ?_ h3
  rw [zs_set1 (f := upd (st.1 d) i.toNatClampNeg x) (by rw [zs_e1 hl]; simp [zs_a, zs_eq])] at h1 h2
  exact ⟨h1, h2⟩
theorem zr_zast (hx : p.tables.exec = Jvm.exec) (hb : c.code = cc) (hK : va_K g.1 zs_cl (zs_ty g) s) (hP : zs_P g ly N A st H) (hS : va_S A H0 H locs) (hd : d < N) (hl : ly d = (2, n, fs)) {i x : Int32} (hin : vp_in i n) (hdg : decode cc pc = .ok (.bastore, 1))
    (kk : ∀ (H1 : Heap) (locs1 : List Loc), zs_P g ly N A (zs_i st d i.toNatClampNeg (vp_nar .boolean x)) H1 → va_S A H0 H1 locs1 → W p l e R s m args below meth c H1 locs1 cells slots Q (F0 m (pc + 1) ls rest)) : W p l e R s m args below meth c H locs cells slots Q (F0 m pc ls (.int x :: .int i :: .ref (g.2.1 d) :: rest)) := by
  refine va_zast hx hb hK hP.1 hP.2 hS d 1 (by rw [zs_at hd, zs_e2 hl]) rfl hin hdg fun H1 locs1 h1 h2 h3 => kk H1 locs1 ?_ h3
  rw [zs_set1 (f := upd (st.1 d) i.toNatClampNeg (vp_nar .boolean x)) (by rw [zs_e2 hl]; simp [zs_a, zs_eq])] at h1 h2
  exact ⟨h1, h2⟩
theorem zr_last (hx : p.tables.exec = Jvm.exec) (hb : c.code = cc) (hK : va_K g.1 zs_cl (zs_ty g) s) (hP : zs_P g ly N A st H) (hS : va_S A H0 H locs) (hd : d < N) (hl : ly d = (3, n, fs)) {i : Int32} {x : Int64} (hin : vp_in i n) (hdg : decode cc pc = .ok (.lastore, 1))
    (kk : ∀ (H1 : Heap) (locs1 : List Loc), zs_P g ly N A (zs_l st d i.toNatClampNeg x) H1 → va_S A H0 H1 locs1 → W p l e R s m args below meth c H1 locs1 cells slots Q (F0 m (pc + 1) ls rest)) : W p l e R s m args below meth c H locs cells slots Q (F0 m pc ls (.long x :: .int i :: .ref (g.2.1 d) :: rest)) := by
  refine va_last hx hb hK hP.1 hP.2 hS d 2 (by rw [zs_at hd, zs_e3 hl]) rfl hin hdg fun H1 locs1 h1 h2 h3 => kk H1 locs1 ?_ h3
  rw [zs_set2 (j := i.toNatClampNeg) (v := x) (by rw [zs_e3 hl]; simp [zs_l, zs_eq])] at h1 h2
  exact ⟨h1, h2⟩
end ZR
section ZF
variable {p : Program} {l : Launch} {e : Env} {R : Room} {s : State} {m : MethodId} {args : Array Value} {below : List Frame} {meth : Method} {c : Code} {H : Heap} {locs : List Loc} {cells slots : Nat} {Q : State → Prop}
variable {cc : ByteArray} {pc : Nat} {ls : Array Slot} {rest : List Value} {g : zs_G} {ly : zs_L} {N : Nat} {A : Nat → Prop} {st : zs_T} {H0 : Heap} {d ci b : Nat} {fs : List Nat}
variable {own C host : String} {T : u_T} {M index : Nat} {Ts : List Cond}
theorem zr_geti (hx : p.tables.exec = Jvm.exec) (hb : c.code = cc) (hts : ∀ w ∈ Ts, w.before args s = true) (hin : ∀ w ∈ u_ws C T M, w ∈ Ts) (hown : s.vm.findClass own = some m.cls) (hK : va_K g.1 zs_cl (zs_ty g) s) (hP : zs_P g ly N A st H) (hd : d < N) (hl : ly d = (0, ci, fs)) (hc : zs_cl[ci]? = some (C, T, M)) (k : Nat) (hk : k < M) (hf : fs[k]? = some 1)
    (hlink : (Cond.fieldLink own index (T k).1 (T k).2.1 (T k).2.2.1).before args s = true) (hdg : decode cc pc = .ok (.getfield index, 3))
    (kk : W p l e R s m args below meth c H locs cells slots Q (F0 m (pc + 3) ls (.int (st.1 d k) :: rest))) : W p l e R s m args below meth c H locs cells slots Q (F0 m pc ls (.ref (g.2.1 d) :: rest)) :=
  va_get hx hb hts hin hown hK hP.1 d (by rw [zs_at hd, zs_e0 hl]) hc k hk hlink (fun _ h => h) (zs_fs_at hf) hdg kk
theorem zr_getr (hx : p.tables.exec = Jvm.exec) (hb : c.code = cc) (hts : ∀ w ∈ Ts, w.before args s = true) (hin : ∀ w ∈ u_ws C T M, w ∈ Ts) (hown : s.vm.findClass own = some m.cls) (hK : va_K g.1 zs_cl (zs_ty g) s) (hP : zs_P g ly N A st H) (hd : d < N) (hl : ly d = (0, ci, fs)) (hc : zs_cl[ci]? = some (C, T, M)) (k : Nat) (hk : k < M) (hf : fs[k]? = some (b + 2))
    (hlink : (Cond.fieldLink own index (T k).1 (T k).2.1 (T k).2.2.1).before args s = true) (hdg : decode cc pc = .ok (.getfield index, 3))
    (kk : W p l e R s m args below meth c H locs cells slots Q (F0 m (pc + 3) ls (.ref (g.2.1 b) :: rest))) : W p l e R s m args below meth c H locs cells slots Q (F0 m pc ls (.ref (g.2.1 d) :: rest)) :=
  va_get hx hb hts hin hown hK hP.1 d (by rw [zs_at hd, zs_e0 hl]) hc k hk hlink (fun _ h => h) (zs_fs_at hf) hdg kk
theorem zr_getiN (hx : p.tables.exec = Jvm.exec) (hb : c.code = cc) (hts : ∀ w ∈ Ts, w.before args s = true) (hin : ∀ w ∈ u_ws C T M, w ∈ Ts) (hown : s.vm.findClass own = some m.cls) (hK : va_K g.1 zs_cl (zs_ty g) s) (hP : zs_P g ly N A st H) (hd : d < N) (hl : ly d = (0, ci, fs)) (hc : zs_cl[ci]? = some (C, T, M)) (k : Nat) (hk : k < M) (hf : fs[k]? = some 1)
    (hlink : va_Nw (.fieldLinkNest own index (T k).1 (T k).2.1 (T k).2.2.1 host) s) (hdg : decode cc pc = .ok (.getfield index, 3))
    (kk : W p l e R s m args below meth c H locs cells slots Q (F0 m (pc + 3) ls (.int (st.1 d k) :: rest))) : W p l e R s m args below meth c H locs cells slots Q (F0 m pc ls (.ref (g.2.1 d) :: rest)) :=
  va_getN hx hb hts hin hown hK hP.1 d (by rw [zs_at hd, zs_e0 hl]) hc k hk (va_Nw.use rfl hlink) (fun _ h => h) (zs_fs_at hf) hdg kk
theorem zr_getrN (hx : p.tables.exec = Jvm.exec) (hb : c.code = cc) (hts : ∀ w ∈ Ts, w.before args s = true) (hin : ∀ w ∈ u_ws C T M, w ∈ Ts) (hown : s.vm.findClass own = some m.cls) (hK : va_K g.1 zs_cl (zs_ty g) s) (hP : zs_P g ly N A st H) (hd : d < N) (hl : ly d = (0, ci, fs)) (hc : zs_cl[ci]? = some (C, T, M)) (k : Nat) (hk : k < M) (hf : fs[k]? = some (b + 2))
    (hlink : va_Nw (.fieldLinkNest own index (T k).1 (T k).2.1 (T k).2.2.1 host) s) (hdg : decode cc pc = .ok (.getfield index, 3))
    (kk : W p l e R s m args below meth c H locs cells slots Q (F0 m (pc + 3) ls (.ref (g.2.1 b) :: rest))) : W p l e R s m args below meth c H locs cells slots Q (F0 m pc ls (.ref (g.2.1 d) :: rest)) :=
  va_getN hx hb hts hin hown hK hP.1 d (by rw [zs_at hd, zs_e0 hl]) hc k hk (va_Nw.use rfl hlink) (fun _ h => h) (zs_fs_at hf) hdg kk
theorem zr_put (hx : p.tables.exec = Jvm.exec) (hb : c.code = cc) (hts : ∀ w ∈ Ts, w.before args s = true) (hin : ∀ w ∈ u_ws C T M, w ∈ Ts) (ty0 : Nat → FieldType) (hty : ∀ k, k < M → parseFieldDescriptor (T k).2.2.1 = some (ty0 k)) (hnm : ∀ a, a < M → ∀ b, b < M → a ≠ b → (T a).2.1 ≠ (T b).2.1) (hown : s.vm.findClass own = some m.cls) (hK : va_K g.1 zs_cl (zs_ty g) s) (hP : zs_P g ly N A st H) (hS : va_S A H0 H locs) (hd : d < N) (hl : ly d = (0, ci, fs)) (hc : zs_cl[ci]? = some (C, T, M)) (k : Nat) (hk : k < M) (hf : fs[k]? = some 1)
    (hlink : (Cond.fieldLink own index (T k).1 (T k).2.1 (T k).2.2.1).before args s = true) (hfin : (T k).2.2.2 = false) {x : Int32} (hn : narrow (ty0 k) (.int x) = .int x) (hfit : fits (ty0 k) (.int x) = true) (hdg : decode cc pc = .ok (.putfield index, 3))
    (kk : ∀ (H1 : Heap) (locs1 : List Loc), zs_P g ly N A (zs_i st d k x) H1 → va_S A H0 H1 locs1 → W p l e R s m args below meth c H1 locs1 cells slots Q (F0 m (pc + 3) ls rest)) : W p l e R s m args below meth c H locs cells slots Q (F0 m pc ls (.int x :: .ref (g.2.1 d) :: rest)) := by
  have hkl : k < fs.length := (List.getElem?_eq_some_iff.mp hf).1
  refine va_put hx hb hts hin ty0 hty hnm hown hK hP.1 hP.2 hS d (by rw [zs_at hd, zs_e0 hl]) hc k hk hlink (fun _ h => h) hfin (hty k hk) hn hfit (by simp [zs_fs, hkl]) hdg fun H1 locs1 h1 h2 h3 => kk H1 locs1 ?_ h3
  rw [zs_set1 (f := upd (st.1 d) k x) (by rw [zs_e0 hl, zs_fs_set hf]; simp [zs_a, zs_eq])] at h1 h2
  exact ⟨h1, h2⟩
theorem zr_putN (hx : p.tables.exec = Jvm.exec) (hb : c.code = cc) (hts : ∀ w ∈ Ts, w.before args s = true) (hin : ∀ w ∈ u_ws C T M, w ∈ Ts) (ty0 : Nat → FieldType) (hty : ∀ k, k < M → parseFieldDescriptor (T k).2.2.1 = some (ty0 k)) (hnm : ∀ a, a < M → ∀ b, b < M → a ≠ b → (T a).2.1 ≠ (T b).2.1) (hown : s.vm.findClass own = some m.cls) (hK : va_K g.1 zs_cl (zs_ty g) s) (hP : zs_P g ly N A st H) (hS : va_S A H0 H locs) (hd : d < N) (hl : ly d = (0, ci, fs)) (hc : zs_cl[ci]? = some (C, T, M)) (k : Nat) (hk : k < M) (hf : fs[k]? = some 1)
    (hlink : va_Nw (.fieldLinkNest own index (T k).1 (T k).2.1 (T k).2.2.1 host) s) (hfin : (T k).2.2.2 = false) {x : Int32} (hn : narrow (ty0 k) (.int x) = .int x) (hfit : fits (ty0 k) (.int x) = true) (hdg : decode cc pc = .ok (.putfield index, 3))
    (kk : ∀ (H1 : Heap) (locs1 : List Loc), zs_P g ly N A (zs_i st d k x) H1 → va_S A H0 H1 locs1 → W p l e R s m args below meth c H1 locs1 cells slots Q (F0 m (pc + 3) ls rest)) : W p l e R s m args below meth c H locs cells slots Q (F0 m pc ls (.int x :: .ref (g.2.1 d) :: rest)) := by
  have hkl : k < fs.length := (List.getElem?_eq_some_iff.mp hf).1
  refine va_putN hx hb hts hin ty0 hty hnm hown hK hP.1 hP.2 hS d (by rw [zs_at hd, zs_e0 hl]) hc k hk (va_Nw.use rfl hlink) (fun _ h => h) hfin (hty k hk) hn hfit (by simp [zs_fs, hkl]) hdg fun H1 locs1 h1 h2 h3 => kk H1 locs1 ?_ h3
  rw [zs_set1 (f := upd (st.1 d) k x) (by rw [zs_e0 hl, zs_fs_set hf]; simp [zs_a, zs_eq])] at h1 h2
  exact ⟨h1, h2⟩
/-- an object of the world, as a receiver -/
theorem zr_recv (hK : va_K g.1 zs_cl (zs_ty g) s) (hP : zs_P g ly N A st H) (hd : d < N) (hl : ly d = (0, ci, fs)) (hc : zs_cl[ci]? = some (C, T, M)) : ∃ cellB : Cell, H[g.2.1 d]? = some cellB ∧ cellB.vm.isStatics = false ∧ s.vm.findClass C = some cellB.cls := by
  obtain ⟨r, h1, cell, q1, q2, q3, q4⟩ := hP.1 d _ (by rw [zs_at hd, zs_e0 hl])
  have hr : r = (C, T, M) := Option.some.inj (h1.symm.trans hc)
  subst hr
  exact ⟨cell, q1, by rw [q3]; rfl, by rw [q2]; exact (hK.1 ci _ hc).2.1⟩
end ZF
/-! Contracts. What all methods know of the tables: zs_K; a start: zs_Pc; the ends: zs_Qi .. -/
def zs_K (nw : List Cond) (g : zs_G) (U : State) : Prop := va_K g.1 zs_cl (zs_ty g) U ∧ ∀ w ∈ nw, va_Nw w U
def zs_Pc (nw : List Cond) (g : zs_G) (ly : zs_L) (N : Nat) (A : Nat → Prop) (As : List Value) (st : zs_T) : Array Value → State → Prop := va_Pc As (fun U => zs_P g ly N A st U.heap ∧ zs_K nw g U)
def zs_B (g : zs_G) (ly : zs_L) (N : Nat) (A : Nat → Prop) (st : zs_T) (t : State) : Prop := zs_P g ly N A st t.heap
def zs_Qi (g : zs_G) (ly : zs_L) (N : Nat) (A : Nat → Prop) (post : Int32 → zs_T → Prop) : Array Value → State → Outcome → State → Prop := va_Qi post (zs_B g ly N A) A
def zs_Ql (g : zs_G) (ly : zs_L) (N : Nat) (A : Nat → Prop) (post : Int64 → zs_T → Prop) : Array Value → State → Outcome → State → Prop := va_Ql post (zs_B g ly N A) A
def zs_Qv (g : zs_G) (ly : zs_L) (N : Nat) (A : Nat → Prop) (post : zs_T → Prop) : Array Value → State → Outcome → State → Prop := va_Qv post (zs_B g ly N A) A
/-- a nest word survives the warming of the tables -/
def zs_nk (w : Cond) : Bool := match w with
  | .fieldLinkNest _ _ _ _ _ _ => true
  | .methodLinkNest _ _ _ _ => true
  | _ => false
theorem zs_nw {w : Cond} (h : zs_nk w = true) {s U : State} (hW : s.WarmedH U.vm) (hZ : va_Nw w s) : va_Nw w U := by
  unfold zs_nk at h
  split at h
  · exact va_Nw.warmF hW hZ
  · exact va_Nw.warmM hW hZ
  · cases h
theorem zs_K.warm {nw : List Cond} (hnw : nw.all zs_nk = true) {g : zs_G} {s U : State} (hW : s.WarmedH U.vm) (h : zs_K nw g s) : zs_K nw g U :=
  ⟨va_K.moved hW.alike h.1, fun w hw => zs_nw (List.all_eq_true.mp hnw w hw) hW (h.2 w hw)⟩
theorem zs_nt {w : Cond} (h : zs_nk w = true) : w.onTables = true := by
  unfold zs_nk at h
  split at h
  · rfl
  · rfl
  · cases h
theorem zs_blind {nw : List Cond} (hnw : nw.all zs_nk = true) {g : zs_G} {ly : zs_L} {N : Nat} {A : Nat → Prop} {As : List Value} {st : zs_T} : FrameBlind (zs_Pc nw g ly N A As st) := by
  intro a U f mk q
  obtain ⟨q0, q1, q2, q3⟩ := q
  exact ⟨q0, q1, va_K.moved (u := U) (U := U.calling f mk a) (Vm.Alike.refl U.vm) q2, fun w hw => va_Nw.same (zs_nt (List.all_eq_true.mp hnw w hw)) (u := U) (U := U.calling f mk a) rfl (q3 w hw)⟩
theorem zs_preS {nw : List Cond} (hnw : nw.all zs_nk = true) {g : zs_G} {ly : zs_L} {N : Nat} {A : Nat → Prop} {As : List Value} {st : zs_T} {s : State} {H : Heap} (hK : zs_K nw g s) (hP : zs_P g ly N A st H) : PreS s H (zs_Pc nw g ly N A As st) As :=
  ⟨zs_blind hnw, fun U hU hW => ⟨rfl, by rw [hU]; exact hP, hK.warm hnw hW⟩⟩
theorem zs_preV {nw : List Cond} (hnw : nw.all zs_nk = true) {g : zs_G} {ly : zs_L} {N : Nat} {A : Nat → Prop} {As : List Value} {st : zs_T} {s : State} {H : Heap} {d ci M : Nat} {fs : List Nat} {C : String} {T : u_T} (hK : zs_K nw g s) (hP : zs_P g ly N A st H) (hd : d < N) (hl : ly d = (0, ci, fs)) (hc : zs_cl[ci]? = some (C, T, M)) : PreV s H C (g.2.1 d) (zs_Pc nw g ly N A (.ref (g.2.1 d) :: As) st) As :=
  ⟨zs_blind hnw, zr_recv hK.1 hP hd hl hc, fun U hU hW => ⟨rfl, by rw [hU]; exact hP, hK.warm hnw hW⟩⟩
section ZC
variable {p : Program} {l : Launch} {e : Env} {R : Room} {s : State} {m : MethodId} {args : Array Value} {below : List Frame} {meth : Method} {c : Code} {H : Heap} {locs : List Loc} {cells slots : Nat} {Q : State → Prop}
variable {cc : ByteArray} {pc : Nat} {ls : Array Slot} {rest st0 : List Value} {g : zs_G} {ly : zs_L} {N : Nat} {A : Nat → Prop} {st : zs_T} {a : Array Value}
theorem zr_calli {post : Int32 → zs_T → Prop} (hr : va_Run p l e R s m args below meth c H locs cells slots 0 0 (F0 m pc ls st0) rest (zs_Qi g ly N A post a) A) (hS : va_S A s.heap H locs)
    (kk : ∀ (r : Int32) (u : zs_T) (H1 : Heap) (locs1 : List Loc), post r u → zs_P g ly N A u H1 → va_S A s.heap H1 locs1 → W p l e R s m args below meth c H1 locs1 cells slots Q (F0 m (pc + 3) ls (.int r :: rest))) : W p l e R s m args below meth c H locs cells slots Q (F0 m pc ls st0) :=
  va_calli hr hS (fun _ _ h => h) (fun _ h => h) (fun r u t H1 locs1 ht _ hp hB _ _ hS1 => kk r u H1 locs1 hp (by rw [← ht]; exact hB) hS1)
theorem zr_calll {post : Int64 → zs_T → Prop} (hr : va_Run p l e R s m args below meth c H locs cells slots 0 0 (F0 m pc ls st0) rest (zs_Ql g ly N A post a) A) (hS : va_S A s.heap H locs)
    (kk : ∀ (r : Int64) (u : zs_T) (H1 : Heap) (locs1 : List Loc), post r u → zs_P g ly N A u H1 → va_S A s.heap H1 locs1 → W p l e R s m args below meth c H1 locs1 cells slots Q (F0 m (pc + 3) ls (.long r :: rest))) : W p l e R s m args below meth c H locs cells slots Q (F0 m pc ls st0) :=
  va_calll hr hS (fun _ _ h => h) (fun _ h => h) (fun r u t H1 locs1 ht _ hp hB _ _ hS1 => kk r u H1 locs1 hp (by rw [← ht]; exact hB) hS1)
theorem zr_callv {post : zs_T → Prop} (hr : va_Run p l e R s m args below meth c H locs cells slots 0 0 (F0 m pc ls st0) rest (zs_Qv g ly N A post a) A) (hS : va_S A s.heap H locs)
    (kk : ∀ (u : zs_T) (H1 : Heap) (locs1 : List Loc), post u → zs_P g ly N A u H1 → va_S A s.heap H1 locs1 → W p l e R s m args below meth c H1 locs1 cells slots Q (F0 m (pc + 3) ls rest)) : W p l e R s m args below meth c H locs cells slots Q (F0 m pc ls st0) :=
  va_callv hr hS (fun _ _ h => h) (fun _ h => h) (fun u t H1 locs1 ht _ hp hB _ _ hS1 => kk u H1 locs1 hp (by rw [← ht]; exact hB) hS1)
theorem zr_iret {post : Int32 → zs_T → Prop} {v : Int32} (hx : p.tables.exec = Jvm.exec) (hb : c.code = cc) (hr : meth.sig.returnType = some .int) (hlocks : meth.locks = false) (hP : zs_P g ly N A st H) (hS : va_S A s.heap H locs) (hp : post v st) (hdg : decode cc pc = .ok (.ireturn, 1)) : W p l e R s m args below meth c H locs 0 0 (MQ below (zs_Qi g ly N A post) args s 0 0 A) (F0 m pc ls [.int v]) :=
  W.iret hx hb hr (fun t ht _ => ⟨⟨v, st, rfl, hp, by show zs_P _ _ _ _ _ _; rw [ht]; exact hP⟩, hS.F ht⟩) hS.2.2 hdg hlocks
theorem zr_zret {post : Int32 → zs_T → Prop} {v : Int32} (hx : p.tables.exec = Jvm.exec) (hb : c.code = cc) (hr : meth.sig.returnType = some .boolean) (hlocks : meth.locks = false) (hP : zs_P g ly N A st H) (hS : va_S A s.heap H locs) (hn : narrow .boolean (.int v) = .int v) (hp : post v st) (hdg : decode cc pc = .ok (.ireturn, 1)) : W p l e R s m args below meth c H locs 0 0 (MQ below (zs_Qi g ly N A post) args s 0 0 A) (F0 m pc ls [.int v]) :=
  W.zret hx hb hr hn (fun t ht _ => ⟨⟨v, st, rfl, hp, by show zs_P _ _ _ _ _ _; rw [ht]; exact hP⟩, hS.F ht⟩) hS.2.2 hdg hlocks
theorem zr_lret {post : Int64 → zs_T → Prop} {v : Int64} (hx : p.tables.exec = Jvm.exec) (hb : c.code = cc) (hr : meth.sig.returnType = some .long) (hlocks : meth.locks = false) (hP : zs_P g ly N A st H) (hS : va_S A s.heap H locs) (hp : post v st) (hdg : decode cc pc = .ok (.lreturn, 1)) : W p l e R s m args below meth c H locs 0 0 (MQ below (zs_Ql g ly N A post) args s 0 0 A) (F0 m pc ls [.long v]) :=
  W.lret hx hb hr (fun t ht _ => ⟨⟨v, st, rfl, hp, by show zs_P _ _ _ _ _ _; rw [ht]; exact hP⟩, hS.F ht⟩) hS.2.2 hdg hlocks
theorem zr_vret {post : zs_T → Prop} (hx : p.tables.exec = Jvm.exec) (hb : c.code = cc) (hr : meth.sig.returnType = none) (hlocks : meth.locks = false) (hP : zs_P g ly N A st H) (hS : va_S A s.heap H locs) (hp : post st) (hdg : decode cc pc = .ok (.return_, 1)) : W p l e R s m args below meth c H locs 0 0 (MQ below (zs_Qv g ly N A post) args s 0 0 A) (F0 m pc ls []) :=
  W.vret hx hb hr (fun t ht _ => ⟨⟨st, rfl, hp, by show zs_P _ _ _ _ _ _; rw [ht]; exact hP⟩, hS.F ht⟩) hS.2.2 hdg hlocks
end ZC
def zs_bz (v : Int32) : Prop := v = 0 ∨ v = 1
theorem zs_bn {v : Int32} (h : zs_bz v) : narrow .boolean (.int v) = .int v := by
  rcases h with h | h <;> subst h <;> rfl
theorem zs_bf {v : Int32} (h : zs_bz v) : fits .boolean (.int v) = true := by
  rcases h with h | h <;> subst h <;> rfl
theorem zs_b0 : zs_bz 0 := Or.inl rfl
theorem zs_b1 : zs_bz 1 := Or.inr rfl
theorem zs_nz {v : Int32} (h : zs_bz v) : vp_nar .boolean v = v := by
  rcases h with h | h <;> subst h <;> rfl
/-- room: frames, words of locals -/
def zs_rm (f n : Nat) : Room := { frames := f, cells := 0, slots := 0, locals := n }
section ZL
variable {p : Program} {l : Launch} {e : Env} {R : Room} {s : State} {m : MethodId} {args : Array Value} {below : List Frame} {meth : Method} {c : Code} {H : Heap} {locs : List Loc} {cells slots : Nat} {Q : State → Prop}
variable {cc : ByteArray} {pc : Nat} {ls : Array Slot} {rest : List Value} {g : zs_G} {ly : zs_L} {N : Nat} {A : Nat → Prop} {st : zs_T} {H0 : Heap} {d n : Nat} {fs : List Nat}
theorem zr_alen (hx : p.tables.exec = Jvm.exec) (hb : c.code = cc) (hK : va_K g.1 zs_cl (zs_ty g) s) (hP : zs_P g ly N A st H) (hd : d < N) {t : Nat} (hl : ly d = (t, n, fs)) (ht : t = 1 ∨ t = 2 ∨ t = 3) (hdg : decode cc pc = .ok (.arraylength, 1))
    (kk : W p l e R s m args below meth c H locs cells slots Q (F0 m (pc + 1) ls (.int (nI n) :: rest))) : W p l e R s m args below meth c H locs cells slots Q (F0 m pc ls (.ref (g.2.1 d) :: rest)) := by
  rcases ht with ht | ht | ht <;> subst ht
  · exact va_alen hx hb hK hP.1 d 0 (x := (n, .inl (st.1 d))) (by rw [zs_at hd, zs_e1 hl]) rfl rfl hdg kk
  · exact va_alen hx hb hK hP.1 d 1 (x := (n, .inl (st.1 d))) (by rw [zs_at hd, zs_e2 hl]) rfl rfl hdg kk
  · exact va_alen hx hb hK hP.1 d 2 (x := (n, .inr (.inl (st.2 d)))) (by rw [zs_at hd, zs_e3 hl]) rfl rfl hdg kk
theorem zr_copy (hx : p.tables.exec = Jvm.exec) (hb : c.code = cc) (hml : c.maxLocals = ls.size) {own : String} {index : Nat} (hown : s.vm.findClass own = some m.cls) (hlink : (Cond.methodLink own index arraycopyName).before args s = true) (hnat : (Cond.native arraycopyName).before args s = true) (hstat : (Cond.static arraycopyName).before args s = true) (hini : (Cond.initialized "java/lang/System").before args s = true)
    (hK : va_K g.1 zs_cl (zs_ty g) s) (hP : zs_P g ly N A st H) (hS : va_S A H0 H locs) {d0 n0 : Nat} {fs0 : List Nat} (hd0 : d0 < N) (hl0 : ly d0 = (1, n0, fs0)) (hd : d < N) (hl : ly d = (1, n, fs)) {sp dp k : Int32} (h1 : ¬ sp < 0) (h2 : ¬ dp < 0) (h3 : ¬ k < 0) (h4 : sp.toNatClampNeg + k.toNatClampNeg ≤ n0) (h5 : dp.toNatClampNeg + k.toNatClampNeg ≤ n)
    (hframes : 1 ≤ R.frames) (hlocals : (rest.map fun v => v.category).sum + (nativeFrameWords "java/lang/System" "arraycopy" 5 + 11) ≤ R.locals) (hdg : decode cc pc = .ok (.invokestatic index, 3))
    (kk : ∀ (H1 : Heap) (locs1 : List Loc), zs_P g ly N A (zs_a st d (va_cpy (st.1 d0) (st.1 d) sp.toNatClampNeg dp.toNatClampNeg k.toNatClampNeg)) H1 → va_S A H0 H1 locs1 → W p l e R s m args below meth c H1 locs1 cells slots Q (F0 m (pc + 3) ls rest)) : W p l e R s m args below meth c H locs cells slots Q (F0 m pc ls (.int k :: .int dp :: .ref (g.2.1 d) :: .int sp :: .ref (g.2.1 d0) :: rest)) := by
  refine va_copyi hx hb hml hown hlink hnat hstat hini hK hP.1 hP.2 hS d0 d 0 0 (by rw [zs_at hd0, zs_e1 hl0]) (by rw [zs_at hd, zs_e1 hl]) rfl rfl rfl h1 h2 h3 h4 h5 (fun _ _ => rfl) hframes hlocals hdg fun H1 locs1 q1 q2 q3 => kk H1 locs1 ?_ q3
  rw [zs_set1 (f := va_cpy (st.1 d0) (st.1 d) sp.toNatClampNeg dp.toNatClampNeg k.toNatClampNeg) (by rw [zs_e1 hl]; simp [zs_a, zs_eq])] at q1 q2
  exact ⟨q1, q2⟩
end ZL
