/-! add where it throws: mayStand touches nothing; its walk over the empty world -/
def zs_Go0 (p : Program) (l : Launch) (e : Env) (R : Room) (s : State) (m : MethodId) (args : Array Value) (below : List Frame) (meth : Method) (c : Code) (g : zs_G) (A : Nat → Prop) (Q : State → Prop) (nL pc : Nat) (lv : List (Nat × Value)) (stk : List Value) (st : zs_T) : Prop :=
  ∀ (ls : Array Slot) (H : Heap) (locs : List Loc), lv_has ls nL lv → zs_P g zs_ly 0 A st H → va_S A s.heap H locs → W p l e R s m args below meth c H locs 0 0 Q (F0 m pc ls stk)
theorem zs_met0 {l : Launch} {y : MethodName} {rm : Room} {Qc : Array Value → State → Outcome → State → Prop} {cc : ByteArray} {maxL : Nat} {ret : Option FieldType} {g : zs_G} {A : Nat → Prop} {As : List Value} {st : zs_T}
    (hy : plainName y.cls = true) (hn : (lg_sl As).length ≤ maxL)
    (body : ∀ (p : Program) (e : Env) (s : State) (m : MethodId) (below : List Frame) (meth : Method) (c : Code), zs_M p c cc maxL s m meth As.toArray y.cls ret g → zs_Go0 p l e rm s m As.toArray below meth c g A (MQ below Qc As.toArray s 0 0 A) maxL 0 (lv_args 0 As) [] st) :
    Met l y (.code y cc maxL ret :: zs_tb) rm (zs_Pc zs_nl g zs_ly 0 A As st) Qc 0 0 A := by
  refine Met.ofW (cc := cc) (maxL := maxL) (ret := ret) hy rfl ?_
  intro p e s m args below meth c s₁ B hml hv
  obtain ⟨rfl, hP, hK⟩ := hv
  have hl := lv_entry As hn
  rw [lg_entry_eq]
  have hts := atoms_spec (ws := .code y cc maxL ret :: zs_tb) B.pre
  exact body p e s m below meth c ⟨B.exec, B.bytes, hml, B.returns, B.notSynchronized, fun w hw => hts w (List.mem_cons_of_mem _ hw), findClass_of_methodNamed B.named, hK⟩ _ _ _ hl hP va_S.rf
theorem zs_P0 {g : zs_G} {ly : zs_L} {A : Nat → Prop} {st : zs_T} {H : Heap} : zs_P g ly 0 A st H := ⟨fun k q h => by simp [zs_w] at h, fun i j p q h => by simp [zs_w] at h, fun k q h => by simp [zs_w] at h⟩
theorem zf_mayStand_st {a b c d : Int32} {st : zs_T} {K : Int32 → zs_T → Prop} (h : zf_PR_mayStand a b c d st K) : zf_PR_mayStand a b c d st (fun r u => u = st ∧ K r u) := by
  simp only [zf_PR_mayStand, zf_PR_mayStand_97, zf_PR_mayStand_121, zf_PR_mayStand_247, zf_TS_isRegister, zf_PR_isTarget, true_and] at h ⊢
  exact h
theorem zt_ret0 {p : Program} {l : Launch} {e : Env} {R : Room} {s : State} {m : MethodId} {args : Array Value} {below : List Frame} {meth : Method} {c : Code} {Q : State → Prop} {pc : Nat} {ls : Array Slot} {rest st0 : List Value} {g : zs_G} {A : Nat → Prop} {st : zs_T} {a : Array Value} {K : Int32 → zs_T → Prop}
    (hr : va_Run p l e R s m args below meth c s.heap [] 0 0 0 0 (F0 m pc ls st0) rest (zs_Qi g zs_ly 0 (fun _ => False) K a) (fun _ => False)) (hP : zs_P g zs_ly zs_N A st s.heap)
    (kk : ∀ (r : Int32) (u : zs_T) (H1 : Heap), K r u → zs_P g zs_ly zs_N A st H1 → W p l e R s m args below meth c H1 [] 0 0 Q (F0 m (pc + 3) ls (.int r :: rest))) : W p l e R s m args below meth c s.heap [] 0 0 Q (F0 m pc ls st0) :=
  va_calli hr (H0 := s.heap) (A0 := fun _ => False) va_S.rf (fun _ _ h => h) (fun _ h => h) (fun r u t H1 locs1 ht _ hp hB hz hk hS1 => by
    have hn : locs1 = [] := List.eq_nil_iff_forall_not_mem.mpr (fun x hx => hS1.2.2 x hx)
    subst hn
    exact kk r u H1 hp (zt_kept hP (fun q hq => hk q hq (fun z => z))))
section ZW
variable {p : Program} {l : Launch} {e : Env} {s : State} {m : MethodId} {args : Array Value} {below : List Frame} {meth : Method} {c : Code} {g : zs_G} {A : Nat → Prop}
set_option maxHeartbeats 4000000 in
set_option maxRecDepth 100000 in
theorem zc0_TS_isRegister (l : Launch) (g : zs_G) (A : Nat → Prop) {l0 : Int32}  {st : zs_T} {K : Int32 → zs_T → Prop} (h : zf_TS_isRegister l0 st K) : Met l yTS_isRegister (.code yTS_isRegister cTS_isRegister 1 (some .boolean) :: zs_tb) (zs_rm 0 0) (zs_Pc zs_nl g zs_ly 0 A [.int l0] st) (zs_Qi g zs_ly 0 A K) 0 0 A := by
  refine zs_met0 (cc := cTS_isRegister) (maxL := 1) (ret := (some .boolean)) (by decide) (Nat.le_of_ble_eq_true rfl) (fun p e s m below meth c hM => ?_)
  have hM : zs_M p c cTS_isRegister 1 s m meth [.int l0].toArray "ThriftyStores" (some .boolean) g := hM
  obtain ⟨hx, hb, hml, hr, hlk, hts, hown, hK⟩ := id hM
  intro ls H locs hl hP hS
  have hl : lv_has ls 1 [(0, .int l0)] := hl
  unfold zf_TS_isRegister at h
  refine lv_iload_n hx hb dTS_isRegister_0 rfl (lv_at hl 0 rfl) ?_
  refine lv_if_lt (tgt := 14) hx hb dTS_isRegister_1 rfl (fun hc => ?_) (fun hc => ?_)
  · have h := h.1 hc
    clear hc
    refine lv_iconst (v := 0) hx hb dTS_isRegister_14 (by decide) ?_
    exact zr_zret hx hb hr hlk hP hS rfl h dTS_isRegister_15
  · have h := h.2 hc
    clear hc
    refine lv_iload_n hx hb dTS_isRegister_4 rfl (lv_at hl 0 rfl) ?_
    refine lv_bipush (v := 16) hx hb dTS_isRegister_5 (by decide) ?_
    refine lv_icmp_ge (tgt := 14) hx hb dTS_isRegister_7 rfl (fun hc => ?_) (fun hc => ?_)
    · have h := h.1 hc
      clear hc
      refine lv_iconst (v := 0) hx hb dTS_isRegister_14 (by decide) ?_
      exact zr_zret hx hb hr hlk hP hS rfl h dTS_isRegister_15
    · have h := h.2 hc
      clear hc
      refine lv_iconst (v := 1) hx hb dTS_isRegister_10 (by decide) ?_
      refine lv_goto (tgt := 15) hx hb dTS_isRegister_11 rfl ?_
      exact zr_zret hx hb hr hlk hP hS rfl h dTS_isRegister_15
set_option maxHeartbeats 4000000 in
set_option maxRecDepth 100000 in
theorem zc0_PR_isTarget (l : Launch) (g : zs_G) (A : Nat → Prop) {l0 : Int32}  {st : zs_T} {K : Int32 → zs_T → Prop} (h : zf_PR_isTarget l0 st K) : Met l yPR_isTarget (.code yPR_isTarget cPR_isTarget 1 (some .boolean) :: zs_tb) (zs_rm 0 0) (zs_Pc zs_nl g zs_ly 0 A [.int l0] st) (zs_Qi g zs_ly 0 A K) 0 0 A := by
  refine zs_met0 (cc := cPR_isTarget) (maxL := 1) (ret := (some .boolean)) (by decide) (Nat.le_of_ble_eq_true rfl) (fun p e s m below meth c hM => ?_)
  have hM : zs_M p c cPR_isTarget 1 s m meth [.int l0].toArray "ThriftyStores$Program" (some .boolean) g := hM
  obtain ⟨hx, hb, hml, hr, hlk, hts, hown, hK⟩ := id hM
  intro ls H locs hl hP hS
  have hl : lv_has ls 1 [(0, .int l0)] := hl
  unfold zf_PR_isTarget at h
  refine lv_iload_n hx hb dPR_isTarget_0 rfl (lv_at hl 0 rfl) ?_
  refine lv_if_lt (tgt := 15) hx hb dPR_isTarget_1 rfl (fun hc => ?_) (fun hc => ?_)
  · have h := h.1 hc
    clear hc
    refine lv_iconst (v := 0) hx hb dPR_isTarget_15 (by decide) ?_
    exact zr_zret hx hb hr hlk hP hS rfl h dPR_isTarget_16
  · have h := h.2 hc
    clear hc
    refine lv_iload_n hx hb dPR_isTarget_4 rfl (lv_at hl 0 rfl) ?_
    refine lv_sipush (v := 200) hx hb dPR_isTarget_5 (by decide) ?_
    refine lv_icmp_gt (tgt := 15) hx hb dPR_isTarget_8 rfl (fun hc => ?_) (fun hc => ?_)
    · have h := h.1 hc
      clear hc
      refine lv_iconst (v := 0) hx hb dPR_isTarget_15 (by decide) ?_
      exact zr_zret hx hb hr hlk hP hS rfl h dPR_isTarget_16
    · have h := h.2 hc
      clear hc
      refine lv_iconst (v := 1) hx hb dPR_isTarget_11 (by decide) ?_
      refine lv_goto (tgt := 16) hx hb dPR_isTarget_12 rfl ?_
      exact zr_zret hx hb hr hlk hP hS rfl h dPR_isTarget_16
set_option maxHeartbeats 4000000 in
set_option maxRecDepth 100000 in
theorem zw0_PR_mayStand_97 (hM : zs_M p c cPR_mayStand 4 s m meth args "ThriftyStores$Program" (some .boolean) g)   {K : Int32 → zs_T → Prop}   (l1 : Int32) (l2 : Int32) (l3 : Int32) (st : zs_T) (h : zf_PR_mayStand_97 K l1 l2 l3 st) : zs_Go0 p l e (zs_rm 1 20) s m args below meth c g A (MQ below (zs_Qi g zs_ly 0 A K) args s 0 0 A) 4 97 [(1, .int l1), (2, .int l2), (3, .int l3)] [] st := by
  obtain ⟨hx, hb, hml, hr, hlk, hts, hown, hK⟩ := id hM
  intro ls H locs hl hP hS
  unfold zf_PR_mayStand_97 at h
  refine lv_iload_n hx hb dPR_mayStand_97 rfl (lv_at hl 0 rfl) ?_
  refine zr_calli (va_runSN (As := [.int l1]) (rest := []) ⟨hx, hb, hml, hown, hts⟩ (zc0_TS_isRegister l g A  h) ⟨va_cnB 1 hts (zs_gN zq_267) rfl rfl rfl (hK.2 (.methodLinkNest "ThriftyStores$Program" 28 yTS_isRegister "ThriftyStores") (by decide +kernel)) (hts _ zq_1) ⟨by decide, by decide, by decide +kernel⟩ ⟨Nat.le_of_ble_eq_true rfl, Nat.le_of_ble_eq_true rfl⟩, hts _ zq_266, trivial⟩ (zs_preS zs_nwk hK hP) rfl rfl hl.1 rfl (lv_room (Nat.le_of_ble_eq_true rfl)) dPR_mayStand_98 ⟨Nat.zero_le _, Nat.zero_le _⟩) hS (fun r102 u101 H locs h hP hS => ?_)
  refine lv_if_eq (tgt := 119) hx hb dPR_mayStand_101 rfl (fun hc => ?_) (fun hc => ?_)
  · have h := h.1 hc
    clear hc
    refine lv_iconst (v := 0) hx hb dPR_mayStand_119 (by decide) ?_
    exact zr_zret hx hb hr hlk hP hS rfl h dPR_mayStand_120
  · have h := h.2 hc
    clear hc
    refine lv_iload_n hx hb dPR_mayStand_104 rfl (lv_at hl 1 rfl) ?_
    refine zr_calli (va_runSN (As := [.int l2]) (rest := []) ⟨hx, hb, hml, hown, hts⟩ (zc0_TS_isRegister l g A  h) ⟨va_cnB 1 hts (zs_gN zq_267) rfl rfl rfl (hK.2 (.methodLinkNest "ThriftyStores$Program" 28 yTS_isRegister "ThriftyStores") (by decide +kernel)) (hts _ zq_1) ⟨by decide, by decide, by decide +kernel⟩ ⟨Nat.le_of_ble_eq_true rfl, Nat.le_of_ble_eq_true rfl⟩, hts _ zq_266, trivial⟩ (zs_preS zs_nwk hK hP) rfl rfl hl.1 rfl (lv_room (Nat.le_of_ble_eq_true rfl)) dPR_mayStand_105 ⟨Nat.zero_le _, Nat.zero_le _⟩) hS (fun r104 u103 H locs h hP hS => ?_)
    refine lv_if_eq (tgt := 119) hx hb dPR_mayStand_108 rfl (fun hc => ?_) (fun hc => ?_)
    · have h := h.1 hc
      clear hc
      refine lv_iconst (v := 0) hx hb dPR_mayStand_119 (by decide) ?_
      exact zr_zret hx hb hr hlk hP hS rfl h dPR_mayStand_120
    · have h := h.2 hc
      clear hc
      refine lv_iload_n hx hb dPR_mayStand_111 rfl (lv_at hl 2 rfl) ?_
      refine lv_if_ne (tgt := 119) hx hb dPR_mayStand_112 rfl (fun hc => ?_) (fun hc => ?_)
      · have h := h.1 hc
        clear hc
        refine lv_iconst (v := 0) hx hb dPR_mayStand_119 (by decide) ?_
        exact zr_zret hx hb hr hlk hP hS rfl h dPR_mayStand_120
      · have h := h.2 hc
        clear hc
        refine lv_iconst (v := 1) hx hb dPR_mayStand_115 (by decide) ?_
        refine lv_goto (tgt := 120) hx hb dPR_mayStand_116 rfl ?_
        exact zr_zret hx hb hr hlk hP hS rfl h dPR_mayStand_120
set_option maxHeartbeats 4000000 in
set_option maxRecDepth 100000 in
theorem zw0_PR_mayStand_121 (hM : zs_M p c cPR_mayStand 4 s m meth args "ThriftyStores$Program" (some .boolean) g)   {K : Int32 → zs_T → Prop}   (l1 : Int32) (l2 : Int32) (l3 : Int32) (st : zs_T) (h : zf_PR_mayStand_121 K l1 l2 l3 st) : zs_Go0 p l e (zs_rm 1 20) s m args below meth c g A (MQ below (zs_Qi g zs_ly 0 A K) args s 0 0 A) 4 121 [(1, .int l1), (2, .int l2), (3, .int l3)] [] st := by
  obtain ⟨hx, hb, hml, hr, hlk, hts, hown, hK⟩ := id hM
  intro ls H locs hl hP hS
  unfold zf_PR_mayStand_121 at h
  refine lv_iload_n hx hb dPR_mayStand_121 rfl (lv_at hl 0 rfl) ?_
  refine zr_calli (va_runSN (As := [.int l1]) (rest := []) ⟨hx, hb, hml, hown, hts⟩ (zc0_TS_isRegister l g A  h) ⟨va_cnB 1 hts (zs_gN zq_267) rfl rfl rfl (hK.2 (.methodLinkNest "ThriftyStores$Program" 28 yTS_isRegister "ThriftyStores") (by decide +kernel)) (hts _ zq_1) ⟨by decide, by decide, by decide +kernel⟩ ⟨Nat.le_of_ble_eq_true rfl, Nat.le_of_ble_eq_true rfl⟩, hts _ zq_266, trivial⟩ (zs_preS zs_nwk hK hP) rfl rfl hl.1 rfl (lv_room (Nat.le_of_ble_eq_true rfl)) dPR_mayStand_122 ⟨Nat.zero_le _, Nat.zero_le _⟩) hS (fun r202 u201 H locs h hP hS => ?_)
  refine lv_if_eq (tgt := 146) hx hb dPR_mayStand_125 rfl (fun hc => ?_) (fun hc => ?_)
  · have h := h.1 hc
    clear hc
    refine lv_iconst (v := 0) hx hb dPR_mayStand_146 (by decide) ?_
    exact zr_zret hx hb hr hlk hP hS rfl h dPR_mayStand_147
  · have h := h.2 hc
    clear hc
    refine lv_iload_n hx hb dPR_mayStand_128 rfl (lv_at hl 1 rfl) ?_
    refine zr_calli (va_runSN (As := [.int l2]) (rest := []) ⟨hx, hb, hml, hown, hts⟩ (zc0_TS_isRegister l g A  h) ⟨va_cnB 1 hts (zs_gN zq_267) rfl rfl rfl (hK.2 (.methodLinkNest "ThriftyStores$Program" 28 yTS_isRegister "ThriftyStores") (by decide +kernel)) (hts _ zq_1) ⟨by decide, by decide, by decide +kernel⟩ ⟨Nat.le_of_ble_eq_true rfl, Nat.le_of_ble_eq_true rfl⟩, hts _ zq_266, trivial⟩ (zs_preS zs_nwk hK hP) rfl rfl hl.1 rfl (lv_room (Nat.le_of_ble_eq_true rfl)) dPR_mayStand_129 ⟨Nat.zero_le _, Nat.zero_le _⟩) hS (fun r204 u203 H locs h hP hS => ?_)
    refine lv_if_eq (tgt := 146) hx hb dPR_mayStand_132 rfl (fun hc => ?_) (fun hc => ?_)
    · have h := h.1 hc
      clear hc
      refine lv_iconst (v := 0) hx hb dPR_mayStand_146 (by decide) ?_
      exact zr_zret hx hb hr hlk hP hS rfl h dPR_mayStand_147
    · have h := h.2 hc
      clear hc
      refine lv_iload_n hx hb dPR_mayStand_135 rfl (lv_at hl 2 rfl) ?_
      refine zr_calli (va_runSN (As := [.int l3]) (rest := []) ⟨hx, hb, hml, hown, hts⟩ (zc0_TS_isRegister l g A  h) ⟨va_cnB 1 hts (zs_gN zq_267) rfl rfl rfl (hK.2 (.methodLinkNest "ThriftyStores$Program" 28 yTS_isRegister "ThriftyStores") (by decide +kernel)) (hts _ zq_1) ⟨by decide, by decide, by decide +kernel⟩ ⟨Nat.le_of_ble_eq_true rfl, Nat.le_of_ble_eq_true rfl⟩, hts _ zq_266, trivial⟩ (zs_preS zs_nwk hK hP) rfl rfl hl.1 rfl (lv_room (Nat.le_of_ble_eq_true rfl)) dPR_mayStand_136 ⟨Nat.zero_le _, Nat.zero_le _⟩) hS (fun r206 u205 H locs h hP hS => ?_)
      refine lv_if_eq (tgt := 146) hx hb dPR_mayStand_139 rfl (fun hc => ?_) (fun hc => ?_)
      · have h := h.1 hc
        clear hc
        refine lv_iconst (v := 0) hx hb dPR_mayStand_146 (by decide) ?_
        exact zr_zret hx hb hr hlk hP hS rfl h dPR_mayStand_147
      · have h := h.2 hc
        clear hc
        refine lv_iconst (v := 1) hx hb dPR_mayStand_142 (by decide) ?_
        refine lv_goto (tgt := 147) hx hb dPR_mayStand_143 rfl ?_
        exact zr_zret hx hb hr hlk hP hS rfl h dPR_mayStand_147
set_option maxHeartbeats 4000000 in
set_option maxRecDepth 100000 in
theorem zw0_PR_mayStand_247 (hM : zs_M p c cPR_mayStand 4 s m meth args "ThriftyStores$Program" (some .boolean) g)   {K : Int32 → zs_T → Prop}   (l1 : Int32) (l2 : Int32) (l3 : Int32) (st : zs_T) (h : zf_PR_mayStand_247 K l1 l2 l3 st) : zs_Go0 p l e (zs_rm 1 20) s m args below meth c g A (MQ below (zs_Qi g zs_ly 0 A K) args s 0 0 A) 4 247 [(1, .int l1), (2, .int l2), (3, .int l3)] [] st := by
  obtain ⟨hx, hb, hml, hr, hlk, hts, hown, hK⟩ := id hM
  intro ls H locs hl hP hS
  unfold zf_PR_mayStand_247 at h
  refine lv_iload_n hx hb dPR_mayStand_247 rfl (lv_at hl 0 rfl) ?_
  refine lv_if_ne (tgt := 263) hx hb dPR_mayStand_248 rfl (fun hc => ?_) (fun hc => ?_)
  · have h := h.1 hc
    clear hc
    refine lv_iconst (v := 0) hx hb dPR_mayStand_263 (by decide) ?_
    exact zr_zret hx hb hr hlk hP hS rfl h dPR_mayStand_264
  · have h := h.2 hc
    clear hc
    refine lv_iload_n hx hb dPR_mayStand_251 rfl (lv_at hl 1 rfl) ?_
    refine lv_if_ne (tgt := 263) hx hb dPR_mayStand_252 rfl (fun hc => ?_) (fun hc => ?_)
    · have h := h.1 hc
      clear hc
      refine lv_iconst (v := 0) hx hb dPR_mayStand_263 (by decide) ?_
      exact zr_zret hx hb hr hlk hP hS rfl h dPR_mayStand_264
    · have h := h.2 hc
      clear hc
      refine lv_iload_n hx hb dPR_mayStand_255 rfl (lv_at hl 2 rfl) ?_
      refine lv_if_ne (tgt := 263) hx hb dPR_mayStand_256 rfl (fun hc => ?_) (fun hc => ?_)
      · have h := h.1 hc
        clear hc
        refine lv_iconst (v := 0) hx hb dPR_mayStand_263 (by decide) ?_
        exact zr_zret hx hb hr hlk hP hS rfl h dPR_mayStand_264
      · have h := h.2 hc
        clear hc
        refine lv_iconst (v := 1) hx hb dPR_mayStand_259 (by decide) ?_
        refine lv_goto (tgt := 264) hx hb dPR_mayStand_260 rfl ?_
        exact zr_zret hx hb hr hlk hP hS rfl h dPR_mayStand_264
set_option maxHeartbeats 4000000 in
set_option maxRecDepth 100000 in
theorem zc0_PR_mayStand (l : Launch) (g : zs_G) (A : Nat → Prop) {l0 : Int32} {l1 : Int32} {l2 : Int32} {l3 : Int32}  {st : zs_T} {K : Int32 → zs_T → Prop} (h : zf_PR_mayStand l0 l1 l2 l3 st K) : Met l yPR_mayStand (.code yPR_mayStand cPR_mayStand 4 (some .boolean) :: zs_tb) (zs_rm 1 20) (zs_Pc zs_nl g zs_ly 0 A [.int l0, .int l1, .int l2, .int l3] st) (zs_Qi g zs_ly 0 A K) 0 0 A := by
  refine zs_met0 (cc := cPR_mayStand) (maxL := 4) (ret := (some .boolean)) (by decide) (Nat.le_of_ble_eq_true rfl) (fun p e s m below meth c hM => ?_)
  have hM : zs_M p c cPR_mayStand 4 s m meth [.int l0, .int l1, .int l2, .int l3].toArray "ThriftyStores$Program" (some .boolean) g := hM
  obtain ⟨hx, hb, hml, hr, hlk, hts, hown, hK⟩ := id hM
  intro ls H locs hl hP hS
  have hl : lv_has ls 4 [(0, .int l0), (1, .int l1), (2, .int l2), (3, .int l3)] := hl
  unfold zf_PR_mayStand at h
  refine lv_iload_n hx hb dPR_mayStand_0 rfl (lv_at hl 0 rfl) ?_
  by_cases hc : l0 = 0
  · refine lv_tableIn (tgt := 80) (off := 79) hx hb dPR_mayStand_1 (by rw [hc]; decide) (by rw [hc]; decide) (by rw [hc]; decide) rfl ?_
    have h := h.1 hc
    clear hc
    refine lv_iload_n hx hb dPR_mayStand_80 rfl (lv_at hl 1 rfl) ?_
    refine zr_calli (va_runSN (As := [.int l1]) (rest := []) ⟨hx, hb, hml, hown, hts⟩ (zc0_TS_isRegister l g A  h) ⟨va_cnB 1 hts (zs_gN zq_267) rfl rfl rfl (hK.2 (.methodLinkNest "ThriftyStores$Program" 28 yTS_isRegister "ThriftyStores") (by decide +kernel)) (hts _ zq_1) ⟨by decide, by decide, by decide +kernel⟩ ⟨Nat.le_of_ble_eq_true rfl, Nat.le_of_ble_eq_true rfl⟩, hts _ zq_266, trivial⟩ (zs_preS zs_nwk hK hP) rfl rfl hl.1 rfl (lv_room (Nat.le_of_ble_eq_true rfl)) dPR_mayStand_81 ⟨Nat.zero_le _, Nat.zero_le _⟩) hS (fun r2 u1 H locs h hP hS => ?_)
    refine lv_if_eq (tgt := 95) hx hb dPR_mayStand_84 rfl (fun hc => ?_) (fun hc => ?_)
    · have h := h.1 hc
      clear hc
      refine lv_iconst (v := 0) hx hb dPR_mayStand_95 (by decide) ?_
      exact zr_zret hx hb hr hlk hP hS rfl h dPR_mayStand_96
    · have h := h.2 hc
      clear hc
      refine lv_iload_n hx hb dPR_mayStand_87 rfl (lv_at hl 3 rfl) ?_
      refine lv_if_ne (tgt := 95) hx hb dPR_mayStand_88 rfl (fun hc => ?_) (fun hc => ?_)
      · have h := h.1 hc
        clear hc
        refine lv_iconst (v := 0) hx hb dPR_mayStand_95 (by decide) ?_
        exact zr_zret hx hb hr hlk hP hS rfl h dPR_mayStand_96
      · have h := h.2 hc
        clear hc
        refine lv_iconst (v := 1) hx hb dPR_mayStand_91 (by decide) ?_
        refine lv_goto (tgt := 96) hx hb dPR_mayStand_92 rfl ?_
        exact zr_zret hx hb hr hlk hP hS rfl h dPR_mayStand_96
  · have h := h.2 hc
    have hn0 := hc
    clear hc
    by_cases hc : l0 = 1
    · refine lv_tableIn (tgt := 97) (off := 96) hx hb dPR_mayStand_1 (by rw [hc]; decide) (by rw [hc]; decide) (by rw [hc]; decide) rfl ?_
      have h := h.1 hc
      clear hc
      exact zw0_PR_mayStand_97 hM  l1 l2 l3 st h ls H locs (lv_sub hl [1, 2, 3] rfl) hP hS
    · have h := h.2 hc
      have hn1 := hc
      clear hc
      by_cases hc : l0 = 2
      · refine lv_tableIn (tgt := 121) (off := 120) hx hb dPR_mayStand_1 (by rw [hc]; decide) (by rw [hc]; decide) (by rw [hc]; decide) rfl ?_
        have h := h.1 hc
        clear hc
        exact zw0_PR_mayStand_121 hM  l1 l2 l3 st h ls H locs (lv_sub hl [1, 2, 3] rfl) hP hS
      · have h := h.2 hc
        have hn2 := hc
        clear hc
        by_cases hc : l0 = 3
        · refine lv_tableIn (tgt := 121) (off := 120) hx hb dPR_mayStand_1 (by rw [hc]; decide) (by rw [hc]; decide) (by rw [hc]; decide) rfl ?_
          have h := h.1 hc
          clear hc
          exact zw0_PR_mayStand_121 hM  l1 l2 l3 st h ls H locs (lv_sub hl [1, 2, 3] rfl) hP hS
        · have h := h.2 hc
          have hn3 := hc
          clear hc
          by_cases hc : l0 = 4
          · refine lv_tableIn (tgt := 121) (off := 120) hx hb dPR_mayStand_1 (by rw [hc]; decide) (by rw [hc]; decide) (by rw [hc]; decide) rfl ?_
            have h := h.1 hc
            clear hc
            exact zw0_PR_mayStand_121 hM  l1 l2 l3 st h ls H locs (lv_sub hl [1, 2, 3] rfl) hP hS
          · have h := h.2 hc
            have hn4 := hc
            clear hc
            by_cases hc : l0 = 5
            · refine lv_tableIn (tgt := 121) (off := 120) hx hb dPR_mayStand_1 (by rw [hc]; decide) (by rw [hc]; decide) (by rw [hc]; decide) rfl ?_
              have h := h.1 hc
              clear hc
              exact zw0_PR_mayStand_121 hM  l1 l2 l3 st h ls H locs (lv_sub hl [1, 2, 3] rfl) hP hS
            · have h := h.2 hc
              have hn5 := hc
              clear hc
              by_cases hc : l0 = 6
              · refine lv_tableIn (tgt := 121) (off := 120) hx hb dPR_mayStand_1 (by rw [hc]; decide) (by rw [hc]; decide) (by rw [hc]; decide) rfl ?_
                have h := h.1 hc
                clear hc
                exact zw0_PR_mayStand_121 hM  l1 l2 l3 st h ls H locs (lv_sub hl [1, 2, 3] rfl) hP hS
              · have h := h.2 hc
                have hn6 := hc
                clear hc
                by_cases hc : l0 = 7
                · refine lv_tableIn (tgt := 121) (off := 120) hx hb dPR_mayStand_1 (by rw [hc]; decide) (by rw [hc]; decide) (by rw [hc]; decide) rfl ?_
                  have h := h.1 hc
                  clear hc
                  exact zw0_PR_mayStand_121 hM  l1 l2 l3 st h ls H locs (lv_sub hl [1, 2, 3] rfl) hP hS
                · have h := h.2 hc
                  have hn7 := hc
                  clear hc
                  by_cases hc : l0 = 8
                  · refine lv_tableIn (tgt := 148) (off := 147) hx hb dPR_mayStand_1 (by rw [hc]; decide) (by rw [hc]; decide) (by rw [hc]; decide) rfl ?_
                    have h := h.1 hc
                    clear hc
                    refine lv_iload_n hx hb dPR_mayStand_148 rfl (lv_at hl 1 rfl) ?_
                    refine zr_calli (va_runSN (As := [.int l1]) (rest := []) ⟨hx, hb, hml, hown, hts⟩ (zc0_TS_isRegister l g A  h) ⟨va_cnB 1 hts (zs_gN zq_267) rfl rfl rfl (hK.2 (.methodLinkNest "ThriftyStores$Program" 28 yTS_isRegister "ThriftyStores") (by decide +kernel)) (hts _ zq_1) ⟨by decide, by decide, by decide +kernel⟩ ⟨Nat.le_of_ble_eq_true rfl, Nat.le_of_ble_eq_true rfl⟩, hts _ zq_266, trivial⟩ (zs_preS zs_nwk hK hP) rfl rfl hl.1 rfl (lv_room (Nat.le_of_ble_eq_true rfl)) dPR_mayStand_149 ⟨Nat.zero_le _, Nat.zero_le _⟩) hS (fun r4 u3 H locs h hP hS => ?_)
                    refine lv_if_eq (tgt := 179) hx hb dPR_mayStand_152 rfl (fun hc => ?_) (fun hc => ?_)
                    · have h := h.1 hc
                      clear hc
                      refine lv_iconst (v := 0) hx hb dPR_mayStand_179 (by decide) ?_
                      exact zr_zret hx hb hr hlk hP hS rfl h dPR_mayStand_180
                    · have h := h.2 hc
                      clear hc
                      refine lv_iload_n hx hb dPR_mayStand_155 rfl (lv_at hl 2 rfl) ?_
                      refine lv_iconst (v := 1) hx hb dPR_mayStand_156 (by decide) ?_
                      refine lv_icmp_lt (tgt := 179) hx hb dPR_mayStand_157 rfl (fun hc => ?_) (fun hc => ?_)
                      · have h := h.1 hc
                        clear hc
                        refine lv_iconst (v := 0) hx hb dPR_mayStand_179 (by decide) ?_
                        exact zr_zret hx hb hr hlk hP hS rfl h dPR_mayStand_180
                      · have h := h.2 hc
                        clear hc
                        refine lv_iload_n hx hb dPR_mayStand_160 rfl (lv_at hl 2 rfl) ?_
                        refine lv_bipush (v := 16) hx hb dPR_mayStand_161 (by decide) ?_
                        refine lv_icmp_gt (tgt := 179) hx hb dPR_mayStand_163 rfl (fun hc => ?_) (fun hc => ?_)
                        · have h := h.1 hc
                          clear hc
                          refine lv_iconst (v := 0) hx hb dPR_mayStand_179 (by decide) ?_
                          exact zr_zret hx hb hr hlk hP hS rfl h dPR_mayStand_180
                        · have h := h.2 hc
                          clear hc
                          refine lv_iload_n hx hb dPR_mayStand_166 rfl (lv_at hl 3 rfl) ?_
                          refine lv_if_eq (tgt := 175) hx hb dPR_mayStand_167 rfl (fun hc => ?_) (fun hc => ?_)
                          · have h := h.1 hc
                            clear hc
                            refine lv_iconst (v := 1) hx hb dPR_mayStand_175 (by decide) ?_
                            refine lv_goto (tgt := 180) hx hb dPR_mayStand_176 rfl ?_
                            exact zr_zret hx hb hr hlk hP hS rfl h dPR_mayStand_180
                          · have h := h.2 hc
                            clear hc
                            refine lv_iload_n hx hb dPR_mayStand_170 rfl (lv_at hl 3 rfl) ?_
                            refine lv_iconst (v := 1) hx hb dPR_mayStand_171 (by decide) ?_
                            refine lv_icmp_ne (tgt := 179) hx hb dPR_mayStand_172 rfl (fun hc => ?_) (fun hc => ?_)
                            · have h := h.1 hc
                              clear hc
                              refine lv_iconst (v := 0) hx hb dPR_mayStand_179 (by decide) ?_
                              exact zr_zret hx hb hr hlk hP hS rfl h dPR_mayStand_180
                            · have h := h.2 hc
                              clear hc
                              refine lv_iconst (v := 1) hx hb dPR_mayStand_175 (by decide) ?_
                              refine lv_goto (tgt := 180) hx hb dPR_mayStand_176 rfl ?_
                              exact zr_zret hx hb hr hlk hP hS rfl h dPR_mayStand_180
                  · have h := h.2 hc
                    have hn8 := hc
                    clear hc
                    by_cases hc : l0 = 9
                    · refine lv_tableIn (tgt := 97) (off := 96) hx hb dPR_mayStand_1 (by rw [hc]; decide) (by rw [hc]; decide) (by rw [hc]; decide) rfl ?_
                      have h := h.1 hc
                      clear hc
                      exact zw0_PR_mayStand_97 hM  l1 l2 l3 st h ls H locs (lv_sub hl [1, 2, 3] rfl) hP hS
                    · have h := h.2 hc
                      have hn9 := hc
                      clear hc
                      by_cases hc : l0 = 10
                      · refine lv_tableIn (tgt := 97) (off := 96) hx hb dPR_mayStand_1 (by rw [hc]; decide) (by rw [hc]; decide) (by rw [hc]; decide) rfl ?_
                        have h := h.1 hc
                        clear hc
                        exact zw0_PR_mayStand_97 hM  l1 l2 l3 st h ls H locs (lv_sub hl [1, 2, 3] rfl) hP hS
                      · have h := h.2 hc
                        have hn10 := hc
                        clear hc
                        by_cases hc : l0 = 11
                        · refine lv_tableIn (tgt := 181) (off := 180) hx hb dPR_mayStand_1 (by rw [hc]; decide) (by rw [hc]; decide) (by rw [hc]; decide) rfl ?_
                          have h := h.1 hc
                          clear hc
                          refine lv_iload_n hx hb dPR_mayStand_181 rfl (lv_at hl 1 rfl) ?_
                          refine zr_calli (va_runSN (As := [.int l1]) (rest := []) ⟨hx, hb, hml, hown, hts⟩ (zc0_TS_isRegister l g A  h) ⟨va_cnB 1 hts (zs_gN zq_267) rfl rfl rfl (hK.2 (.methodLinkNest "ThriftyStores$Program" 28 yTS_isRegister "ThriftyStores") (by decide +kernel)) (hts _ zq_1) ⟨by decide, by decide, by decide +kernel⟩ ⟨Nat.le_of_ble_eq_true rfl, Nat.le_of_ble_eq_true rfl⟩, hts _ zq_266, trivial⟩ (zs_preS zs_nwk hK hP) rfl rfl hl.1 rfl (lv_room (Nat.le_of_ble_eq_true rfl)) dPR_mayStand_182 ⟨Nat.zero_le _, Nat.zero_le _⟩) hS (fun r6 u5 H locs h hP hS => ?_)
                          refine lv_if_eq (tgt := 200) hx hb dPR_mayStand_185 rfl (fun hc => ?_) (fun hc => ?_)
                          · have h := h.1 hc
                            clear hc
                            refine lv_iconst (v := 0) hx hb dPR_mayStand_200 (by decide) ?_
                            exact zr_zret hx hb hr hlk hP hS rfl h dPR_mayStand_201
                          · have h := h.2 hc
                            clear hc
                            refine lv_iload_n hx hb dPR_mayStand_188 rfl (lv_at hl 2 rfl) ?_
                            refine lv_if_ne (tgt := 200) hx hb dPR_mayStand_189 rfl (fun hc => ?_) (fun hc => ?_)
                            · have h := h.1 hc
                              clear hc
                              refine lv_iconst (v := 0) hx hb dPR_mayStand_200 (by decide) ?_
                              exact zr_zret hx hb hr hlk hP hS rfl h dPR_mayStand_201
                            · have h := h.2 hc
                              clear hc
                              refine lv_iload_n hx hb dPR_mayStand_192 rfl (lv_at hl 3 rfl) ?_
                              refine lv_if_ne (tgt := 200) hx hb dPR_mayStand_193 rfl (fun hc => ?_) (fun hc => ?_)
                              · have h := h.1 hc
                                clear hc
                                refine lv_iconst (v := 0) hx hb dPR_mayStand_200 (by decide) ?_
                                exact zr_zret hx hb hr hlk hP hS rfl h dPR_mayStand_201
                              · have h := h.2 hc
                                clear hc
                                refine lv_iconst (v := 1) hx hb dPR_mayStand_196 (by decide) ?_
                                refine lv_goto (tgt := 201) hx hb dPR_mayStand_197 rfl ?_
                                exact zr_zret hx hb hr hlk hP hS rfl h dPR_mayStand_201
                        · have h := h.2 hc
                          have hn11 := hc
                          clear hc
                          by_cases hc : l0 = 12
                          · refine lv_tableIn (tgt := 202) (off := 201) hx hb dPR_mayStand_1 (by rw [hc]; decide) (by rw [hc]; decide) (by rw [hc]; decide) rfl ?_
                            have h := h.1 hc
                            clear hc
                            refine lv_iload_n hx hb dPR_mayStand_202 rfl (lv_at hl 1 rfl) ?_
                            refine zr_calli (va_runS (As := [.int l1]) (rest := []) ⟨hx, hb, hml, hown, hts⟩ (zc0_PR_isTarget l g A  h) (va_cwS 1 hts (zs_gS zq_268 zq_269 zq_2 zq_270) rfl rfl rfl ⟨by decide, by decide, by decide +kernel⟩ ⟨Nat.le_of_ble_eq_true rfl, Nat.le_of_ble_eq_true rfl⟩) (zs_preS zs_nwk hK hP) rfl rfl hl.1 rfl (lv_room (Nat.le_of_ble_eq_true rfl)) dPR_mayStand_203 ⟨Nat.zero_le _, Nat.zero_le _⟩) hS (fun r8 u7 H locs h hP hS => ?_)
                            refine lv_if_eq (tgt := 221) hx hb dPR_mayStand_206 rfl (fun hc => ?_) (fun hc => ?_)
                            · have h := h.1 hc
                              clear hc
                              refine lv_iconst (v := 0) hx hb dPR_mayStand_221 (by decide) ?_
                              exact zr_zret hx hb hr hlk hP hS rfl h dPR_mayStand_222
                            · have h := h.2 hc
                              clear hc
                              refine lv_iload_n hx hb dPR_mayStand_209 rfl (lv_at hl 2 rfl) ?_
                              refine lv_if_ne (tgt := 221) hx hb dPR_mayStand_210 rfl (fun hc => ?_) (fun hc => ?_)
                              · have h := h.1 hc
                                clear hc
                                refine lv_iconst (v := 0) hx hb dPR_mayStand_221 (by decide) ?_
                                exact zr_zret hx hb hr hlk hP hS rfl h dPR_mayStand_222
                              · have h := h.2 hc
                                clear hc
                                refine lv_iload_n hx hb dPR_mayStand_213 rfl (lv_at hl 3 rfl) ?_
                                refine lv_if_ne (tgt := 221) hx hb dPR_mayStand_214 rfl (fun hc => ?_) (fun hc => ?_)
                                · have h := h.1 hc
                                  clear hc
                                  refine lv_iconst (v := 0) hx hb dPR_mayStand_221 (by decide) ?_
                                  exact zr_zret hx hb hr hlk hP hS rfl h dPR_mayStand_222
                                · have h := h.2 hc
                                  clear hc
                                  refine lv_iconst (v := 1) hx hb dPR_mayStand_217 (by decide) ?_
                                  refine lv_goto (tgt := 222) hx hb dPR_mayStand_218 rfl ?_
                                  exact zr_zret hx hb hr hlk hP hS rfl h dPR_mayStand_222
                          · have h := h.2 hc
                            have hn12 := hc
                            clear hc
                            by_cases hc : l0 = 13
                            · refine lv_tableIn (tgt := 223) (off := 222) hx hb dPR_mayStand_1 (by rw [hc]; decide) (by rw [hc]; decide) (by rw [hc]; decide) rfl ?_
                              have h := h.1 hc
                              clear hc
                              refine lv_iload_n hx hb dPR_mayStand_223 rfl (lv_at hl 1 rfl) ?_
                              refine zr_calli (va_runSN (As := [.int l1]) (rest := []) ⟨hx, hb, hml, hown, hts⟩ (zc0_TS_isRegister l g A  h) ⟨va_cnB 1 hts (zs_gN zq_267) rfl rfl rfl (hK.2 (.methodLinkNest "ThriftyStores$Program" 28 yTS_isRegister "ThriftyStores") (by decide +kernel)) (hts _ zq_1) ⟨by decide, by decide, by decide +kernel⟩ ⟨Nat.le_of_ble_eq_true rfl, Nat.le_of_ble_eq_true rfl⟩, hts _ zq_266, trivial⟩ (zs_preS zs_nwk hK hP) rfl rfl hl.1 rfl (lv_room (Nat.le_of_ble_eq_true rfl)) dPR_mayStand_224 ⟨Nat.zero_le _, Nat.zero_le _⟩) hS (fun r10 u9 H locs h hP hS => ?_)
                              refine lv_if_eq (tgt := 245) hx hb dPR_mayStand_227 rfl (fun hc => ?_) (fun hc => ?_)
                              · have h := h.1 hc
                                clear hc
                                refine lv_iconst (v := 0) hx hb dPR_mayStand_245 (by decide) ?_
                                exact zr_zret hx hb hr hlk hP hS rfl h dPR_mayStand_246
                              · have h := h.2 hc
                                clear hc
                                refine lv_iload_n hx hb dPR_mayStand_230 rfl (lv_at hl 2 rfl) ?_
                                refine zr_calli (va_runS (As := [.int l2]) (rest := []) ⟨hx, hb, hml, hown, hts⟩ (zc0_PR_isTarget l g A  h) (va_cwS 1 hts (zs_gS zq_268 zq_269 zq_2 zq_270) rfl rfl rfl ⟨by decide, by decide, by decide +kernel⟩ ⟨Nat.le_of_ble_eq_true rfl, Nat.le_of_ble_eq_true rfl⟩) (zs_preS zs_nwk hK hP) rfl rfl hl.1 rfl (lv_room (Nat.le_of_ble_eq_true rfl)) dPR_mayStand_231 ⟨Nat.zero_le _, Nat.zero_le _⟩) hS (fun r12 u11 H locs h hP hS => ?_)
                                refine lv_if_eq (tgt := 245) hx hb dPR_mayStand_234 rfl (fun hc => ?_) (fun hc => ?_)
                                · have h := h.1 hc
                                  clear hc
                                  refine lv_iconst (v := 0) hx hb dPR_mayStand_245 (by decide) ?_
                                  exact zr_zret hx hb hr hlk hP hS rfl h dPR_mayStand_246
                                · have h := h.2 hc
                                  clear hc
                                  refine lv_iload_n hx hb dPR_mayStand_237 rfl (lv_at hl 3 rfl) ?_
                                  refine lv_if_ne (tgt := 245) hx hb dPR_mayStand_238 rfl (fun hc => ?_) (fun hc => ?_)
                                  · have h := h.1 hc
                                    clear hc
                                    refine lv_iconst (v := 0) hx hb dPR_mayStand_245 (by decide) ?_
                                    exact zr_zret hx hb hr hlk hP hS rfl h dPR_mayStand_246
                                  · have h := h.2 hc
                                    clear hc
                                    refine lv_iconst (v := 1) hx hb dPR_mayStand_241 (by decide) ?_
                                    refine lv_goto (tgt := 246) hx hb dPR_mayStand_242 rfl ?_
                                    exact zr_zret hx hb hr hlk hP hS rfl h dPR_mayStand_246
                            · have h := h.2 hc
                              have hn13 := hc
                              clear hc
                              by_cases hc : l0 = 14
                              · refine lv_tableIn (tgt := 247) (off := 246) hx hb dPR_mayStand_1 (by rw [hc]; decide) (by rw [hc]; decide) (by rw [hc]; decide) rfl ?_
                                have h := h.1 hc
                                clear hc
                                exact zw0_PR_mayStand_247 hM  l1 l2 l3 st h ls H locs (lv_sub hl [1, 2, 3] rfl) hP hS
                              · have h := h.2 hc
                                have hn14 := hc
                                clear hc
                                by_cases hc : l0 = 15
                                · refine lv_tableIn (tgt := 247) (off := 246) hx hb dPR_mayStand_1 (by rw [hc]; decide) (by rw [hc]; decide) (by rw [hc]; decide) rfl ?_
                                  have h := h.1 hc
                                  clear hc
                                  exact zw0_PR_mayStand_247 hM  l1 l2 l3 st h ls H locs (lv_sub hl [1, 2, 3] rfl) hP hS
                                · have h := h.2 hc
                                  have hn15 := hc
                                  clear hc
                                  refine lv_tableOut (tgt := 265) hx hb dPR_mayStand_1 (by have q0 := lv_neT hn0 (a := 0) (by decide); have q1 := lv_neT hn1 (a := 1) (by decide); have q2 := lv_neT hn2 (a := 2) (by decide); have q3 := lv_neT hn3 (a := 3) (by decide); have q4 := lv_neT hn4 (a := 4) (by decide); have q5 := lv_neT hn5 (a := 5) (by decide); have q6 := lv_neT hn6 (a := 6) (by decide); have q7 := lv_neT hn7 (a := 7) (by decide); have q8 := lv_neT hn8 (a := 8) (by decide); have q9 := lv_neT hn9 (a := 9) (by decide); have q10 := lv_neT hn10 (a := 10) (by decide); have q11 := lv_neT hn11 (a := 11) (by decide); have q12 := lv_neT hn12 (a := 12) (by decide); have q13 := lv_neT hn13 (a := 13) (by decide); have q14 := lv_neT hn14 (a := 14) (by decide); have q15 := lv_neT hn15 (a := 15) (by decide); omega) rfl ?_
                                  refine lv_iconst (v := 0) hx hb dPR_mayStand_265 (by decide) ?_
                                  exact zr_zret hx hb hr hlk hP hS rfl h dPR_mayStand_266
end ZW
def zg_TS_add (l1 : Int32) (l2 : Int32) (l3 : Int32) (l4 : Int32) (st : zs_T) (KX : String → zs_T → Prop) : Prop :=
  zf_PR_mayStand l1 l2 l3 l4 st (fun r2 u1 => ((¬ r2 = 0 → ((¬ (u1.1 0 7) = 0 → KX "java/lang/IllegalStateException" u1) ∧ ((u1.1 0 7) = 0 → (((u1.1 1 4) < 200 → False) ∧ (¬ (u1.1 1 4) < 200 → KX "java/lang/IllegalStateException" u1))))) ∧ (r2 = 0 → KX "java/lang/IllegalArgumentException" u1)))
section ZW
variable {p : Program} {l : Launch} {e : Env} {s : State} {m : MethodId} {args : Array Value} {below : List Frame} {meth : Method} {c : Code} {g : zs_G} {A : Nat → Prop}
set_option maxHeartbeats 4000000 in
set_option maxRecDepth 100000 in
theorem zy_TS_add (l : Launch) (hl0 : l.stackTraces = false) (g : zs_G) (A : Nat → Prop) {l1 : Int32} {l2 : Int32} {l3 : Int32} {l4 : Int32}  {st : zs_T} {KX : String → zs_T → Prop} (h : zg_TS_add l1 l2 l3 l4 st KX) : zt_Met l yTS_add (.code yTS_add cTS_add 5 (some .int) :: zs_tb) (zt_rm 7 104 1 6) (zt_Pc g A [.ref (g.2.1 0), .int l1, .int l2, .int l3, .int l4] st) (zt_Q g A KX 1 6) := by
  refine zt_met (cc := cTS_add) (maxL := 5) (ret := (some .int)) (by decide) (Nat.le_of_ble_eq_true rfl) (fun p e s m below meth c ls hMT hl hP0 => ?_)
  have hMT : zt_M p c cTS_add 5 s m meth [.ref (g.2.1 0), .int l1, .int l2, .int l3, .int l4].toArray "ThriftyStores" (some .int) g A := hMT
  obtain ⟨⟨hx, hb, hml, hr, hlk, hts, hown, hK⟩, hE, hZ⟩ := id hMT
  have hl : lv_has ls 5 [(0, .ref (g.2.1 0)), (1, .int l1), (2, .int l2), (3, .int l3), (4, .int l4)] := hl
  unfold zg_TS_add at h
  have hP := hP0
  refine lv_iload_n hx hb dTS_add_0 rfl (lv_at hl 1 rfl) ?_
  refine lv_iload_n hx hb dTS_add_1 rfl (lv_at hl 2 rfl) ?_
  refine lv_iload_n hx hb dTS_add_2 rfl (lv_at hl 3 rfl) ?_
  refine lv_iload hx hb dTS_add_3 (lv_at hl 4 rfl) ?_
  refine zt_ret0 (va_runS (As := [.int l1, .int l2, .int l3, .int l4]) (rest := []) ⟨hx, hb, hml, hown, hts⟩ (zc0_PR_mayStand l g (fun _ => False) (zf_mayStand_st h)) (va_cwS 4 hts (zs_gS zq_262 zq_263 zq_2 zq_264) rfl rfl rfl ⟨by decide, by decide, by decide +kernel⟩ ⟨Nat.le_of_ble_eq_true rfl, Nat.le_of_ble_eq_true rfl⟩) (zs_preS zs_nwk hK zs_P0) rfl rfl hl.1 rfl (lv_room (Nat.le_of_ble_eq_true rfl)) dTS_add_5 ⟨Nat.zero_le _, Nat.zero_le _⟩) hP0 (fun r2 u1 H h9 hP => ?_)
  clear h
  obtain ⟨eu, h⟩ := h9
  subst eu
  refine lv_if_ne (tgt := 21) hx hb dTS_add_8 rfl (fun hc => ?_) (fun hc => ?_)
  · have h := h.1 hc
    clear hc
    refine lv_aload_n hx hb dTS_add_21 rfl (lv_at hl 0 rfl) ?_
    refine zr_geti hx hb hts zi_TS hown hK.1 hP zl_0.1 zl_0.2 rfl 7 (by decide) rfl (hts _ zq_208) dTS_add_22 ?_
    refine lv_if_ne (tgt := 41) hx hb dTS_add_25 rfl (fun hc => ?_) (fun hc => ?_)
    · have h := h.1 hc
      clear hc
      exact zt_throw hMT hl0 hP0 hl.1 (cls := "java/lang/IllegalStateException") (is := 75) (ic := 77) (by decide +kernel) zq_339 zq_13 (fun w hw => List.mem_append_right _ (List.mem_append_left _ hw)) (List.mem_of_getElem? (i := 1) rfl) h dTS_add_41 dTS_add_44 dTS_add_45 dTS_add_47 dTS_add_50 (by decide) (by decide) (by decide) (by decide)
    · have h := h.2 hc
      clear hc
      refine lv_aload_n hx hb dTS_add_28 rfl (lv_at hl 0 rfl) ?_
      refine zr_getr (b := 1) hx hb hts zi_TS hown hK.1 hP zl_0.1 zl_0.2 rfl 0 (by decide) rfl (hts _ zq_201) dTS_add_29 ?_
      refine zr_geti hx hb hts zi_PR hown hK.1 hP zs_Pr_1.1.1 zs_Pr_1.1.2 rfl 4 (by decide) rfl (hts _ zq_57) dTS_add_32 ?_
      refine lv_sipush (v := 200) hx hb dTS_add_35 (by decide) ?_
      refine lv_icmp_lt (tgt := 51) hx hb dTS_add_38 rfl (fun hc => ?_) (fun hc => ?_)
      · have h := h.1 hc
        clear hc
        exact h.elim
      · have h := h.2 hc
        clear hc
        exact zt_throw hMT hl0 hP0 hl.1 (cls := "java/lang/IllegalStateException") (is := 75) (ic := 77) (by decide +kernel) zq_339 zq_13 (fun w hw => List.mem_append_right _ (List.mem_append_left _ hw)) (List.mem_of_getElem? (i := 1) rfl) h dTS_add_41 dTS_add_44 dTS_add_45 dTS_add_47 dTS_add_50 (by decide) (by decide) (by decide) (by decide)
  · have h := h.2 hc
    clear hc
    exact zt_throw hMT hl0 hP0 hl.1 (cls := "java/lang/IllegalArgumentException") (is := 65) (ic := 67) (by decide +kernel) zq_271 zq_12 (fun w hw => List.mem_append_left _ hw) (List.mem_of_getElem? (i := 0) rfl) h dTS_add_11 dTS_add_14 dTS_add_15 dTS_add_17 dTS_add_20 (by decide) (by decide) (by decide) (by decide)
end ZW
