/-! The law's helpers, by program (wip/whole/gen/la.py). -/
theorem zl_c0 : (Cond.castable "java/lang/IllegalArgumentException" "java/lang/IllegalArgumentException") ∈ zx_ws := List.mem_append_left _ (by simp [Bundle.ownAtoms])
theorem zl_c1 : (Cond.castable "java/lang/IllegalStateException" "java/lang/IllegalStateException") ∈ zx_ws := List.mem_append_right _ (List.mem_append_left _ (by simp [Bundle.ownAtoms]))
theorem zl_c2 : (Cond.castable "java/lang/IndexOutOfBoundsException" "java/lang/IndexOutOfBoundsException") ∈ zx_ws := List.mem_append_right _ (List.mem_append_right _ (by simp [Bundle.ownAtoms]))
theorem zl_hit {pl : Platform} {s : State} {args : Array Value} {d cls : ClassId} {pc hp : Nat} {x : ExceptionTableEntry} {t : List ExceptionTableEntry} {E : String} (hpl : pl.magicAccessors = ({} : Platform).magicAccessors) (hown : s.vm.findClass "ThriftyStoresLaw" = some d) (hcov : covers x pc = true) (h0 : x.catchType ≠ 0) (hlink : (Cond.classLink "ThriftyStoresLaw" x.catchType E).before args s = true) (hcast : (Cond.castable E E).before args s = true) (hcl : s.vm.findClass E = some cls) (hh : hp = x.handlerPc) : zl_R pl s d pc cls (x :: t) hp := by
  obtain ⟨c3, c4, hc3, hc4, hasg⟩ := Cond.castable_spec hcast
  cases Option.some.inj (hc3.symm.trans hcl)
  obtain ⟨c5, hc5, hcl5⟩ := Cond.classLink_spec hown hlink pl hpl
  cases Option.some.inj (hc4.symm.trans hc5)
  exact ⟨hcov, h0, _, hcl5, Or.inl ⟨hasg, hh⟩⟩
theorem zl_miss {pl : Platform} {s : State} {args : Array Value} {d cls : ClassId} {pc hp : Nat} {x : ExceptionTableEntry} {t : List ExceptionTableEntry} {E nm : String} (hpl : pl.magicAccessors = ({} : Platform).magicAccessors) (hown : s.vm.findClass "ThriftyStoresLaw" = some d) (hcov : covers x pc = true) (h0 : x.catchType ≠ 0) (hlink : (Cond.classLink "ThriftyStoresLaw" x.catchType nm).before args s = true) (hn : va_Nc E nm s) (hcl : s.vm.findClass E = some cls) (hr : zl_R pl s d pc cls t hp) : zl_R pl s d pc cls (x :: t) hp := by
  obtain ⟨a8, b8, h1, h2, h3⟩ := hn
  cases Option.some.inj (h1.symm.trans hcl)
  obtain ⟨c6, hc6, hcl6⟩ := Cond.classLink_spec hown hlink pl hpl
  cases Option.some.inj (h2.symm.trans hc6)
  exact ⟨hcov, h0, _, hcl6, Or.inr ⟨h3, hr⟩⟩
set_option maxHeartbeats 4000000 in
set_option maxRecDepth 100000 in
theorem zc_LA_add (l : Launch) (hl0 : l.stackTraces = false) (g : zs_G) (A : Nat → Prop) {l1 l2 l3 l4 : Int32} {st : zs_T} {K : Int32 → zs_T → Prop} (h : zf_LA_add l1 l2 l3 l4 st K) : Met l yLA_add (.codeWith yLA_add cLA_add 7 (some .int) [(0, 14, 17, 13), (0, 14, 21, 15)] :: zs_tb) (zt_rm 8 128 1 6) (zl_Pc g A [.ref (g.2.1 0), .int l1, .int l2, .int l3, .int l4, .ref (g.2.1 658)] st) (zs_Qi g zs_ly zs_N A K) 1 6 A := by
  refine zl_met (cc := cLA_add) (maxL := 7) (ret := (some .int)) (hh := [(0, 14, 17, 13), (0, 14, 21, 15)]) (by decide) rfl (Nat.le_of_ble_eq_true rfl) (fun p e s m below meth c ls hML hl hP => ?_)
  obtain ⟨⟨hx, hb, hml, hr, hlk, hts, hown, hK⟩, hE, hZ, hN⟩ := id hML
  have hS : va_S A s.heap s.heap [] := va_S.rf
  have hl : lv_has ls 7 [(0, .ref (g.2.1 0)), (1, .int l1), (2, .int l2), (3, .int l3), (4, .int l4), (5, .ref (g.2.1 658))] := hl
  unfold zf_LA_add at h
  refine lv_aload hx hb dLA_add_0 (lv_at hl 5 rfl) ?_
  refine lv_iconst (v := 0) hx hb dLA_add_2 (by decide) ?_
  refine lv_aload_n hx hb dLA_add_3 rfl (lv_at hl 0 rfl) ?_
  refine lv_iload_n hx hb dLA_add_4 rfl (lv_at hl 1 rfl) ?_
  refine lv_iload_n hx hb dLA_add_5 rfl (lv_at hl 2 rfl) ?_
  refine lv_iload_n hx hb dLA_add_6 rfl (lv_at hl 3 rfl) ?_
  refine lv_iload hx hb dLA_add_7 (lv_at hl 4 rfl) ?_
  rcases h with h | h
  · refine zr_calli (va_runV (As := [.int l1, .int l2, .int l3, .int l4]) (rest := [.int 0, .ref (g.2.1 658)]) ⟨hx, hb, hml, hown, hts⟩ (zc_TS_add l g A  h) (cwV 4 hts (zs_gV zq_258 zq_259 zq_260 zq_1 zq_261) rfl rfl rfl ⟨rfl, by decide, by decide, by decide +kernel⟩ ⟨Nat.le_of_ble_eq_true rfl, Nat.le_of_ble_eq_true rfl⟩) (zs_preV zs_nwk hK hP zl_0.1 zl_0.2 rfl) rfl rfl hl.1 rfl (lv_room (Nat.le_of_ble_eq_true rfl)) dLA_add_9 ⟨Nat.zero_le _, Nat.zero_le _⟩) hS (fun r2 u1 H locs h hP hS => ?_)
    refine lv_i2l hx hb dLA_add_12 rfl ?_
    obtain ⟨hi3, h⟩ := h
    refine zr_last hx hb hK.1 hP hS zl_658.1 zl_658.2 hi3 dLA_add_13 (fun H locs hP hS => ?_)
    obtain ⟨t4, ez⟩ : ∃ tz : zs_T, tz = zs_l u1 658 (0 : Int32).toNatClampNeg r2.toInt64 := ⟨_, rfl⟩
    have h := h t4 ez
    have hP : zs_P g zs_ly zs_N A t4 H := by rw [ez]; exact hP
    clear ez
    refine lv_goto (tgt := 25) hx hb dLA_add_14 rfl ?_
    refine lv_iconst (v := 0) hx hb dLA_add_25 (by decide) ?_
    exact zl_iret hx hb hr hlk hP hS h dLA_add_26 (Nat.le_of_ble_eq_true rfl) (Nat.le_of_ble_eq_true rfl)
  · refine zt_callV (n := 4) (As := [.int l1, .int l2, .int l3, .int l4]) (rest := [.int 0, .ref (g.2.1 658)]) ⟨hx, hb, hml, hown, hts⟩ (zy_TS_add l hl0 g A h) rfl rfl ⟨Nat.le_of_ble_eq_true rfl, Nat.le_of_ble_eq_true rfl⟩ zq_261 zq_1 zq_258 zq_259 zq_260 ⟨by decide, by decide, by decide +kernel⟩ rfl zl_0.1 zl_0.2 rfl hK hZ hP hS hl.1 rfl (Nat.le_of_ble_eq_true rfl) dLA_add_9 ⟨Nat.le_refl _, Nat.le_refl _⟩ (fun q H locs h => ?_)
    obtain ⟨E, ce, u, hkx, hP, hS, hce, hcv, hcl⟩ := h
    rcases hkx with ⟨rfl, h⟩ | ⟨rfl, h⟩
    · refine zl_catch (hp := 17) hce hcv (by obtain ⟨k9, h9, -⟩ := Vm.findClass_spec hcl; exact ⟨k9, h9⟩) (fun pl hpl => by rw [hE]; exact zl_hit hpl hown rfl (by decide) (hts _ zq_256) (hZ.here zl_c0) hcl rfl) ?_
      refine lv_astore hx hb dLA_add_17 hl (by decide) rfl (fun ls hl => ?_)
      have hl : lv_has ls 7 [(6, .ref q), (0, .ref (g.2.1 0)), (1, .int l1), (2, .int l2), (3, .int l3), (4, .int l4), (5, .ref (g.2.1 658))] := hl
      refine lv_iconst (v := 1) hx hb dLA_add_19 (by decide) ?_
      exact zl_iret hx hb hr hlk hP hS h dLA_add_20 (Nat.le_of_ble_eq_true rfl) (Nat.le_of_ble_eq_true rfl)
    · refine zl_catch (hp := 21) hce hcv (by obtain ⟨k9, h9, -⟩ := Vm.findClass_spec hcl; exact ⟨k9, h9⟩) (fun pl hpl => by rw [hE]; exact zl_miss hpl hown rfl (by decide) (hts _ zq_256) (hN _ (List.mem_of_getElem? (i := 0) rfl)) hcl (zl_hit hpl hown rfl (by decide) (hts _ zq_257) (hZ.here zl_c1) hcl rfl)) ?_
      refine lv_astore hx hb dLA_add_21 hl (by decide) rfl (fun ls hl => ?_)
      have hl : lv_has ls 7 [(6, .ref q), (0, .ref (g.2.1 0)), (1, .int l1), (2, .int l2), (3, .int l3), (4, .int l4), (5, .ref (g.2.1 658))] := hl
      refine lv_iconst (v := 2) hx hb dLA_add_23 (by decide) ?_
      exact zl_iret hx hb hr hlk hP hS h dLA_add_24 (Nat.le_of_ble_eq_true rfl) (Nat.le_of_ble_eq_true rfl)
set_option maxHeartbeats 4000000 in
set_option maxRecDepth 100000 in
theorem zc_LA_thrift (l : Launch) (hl0 : l.stackTraces = false) (g : zs_G) (A : Nat → Prop) {st : zs_T} {K : Int32 → zs_T → Prop} (h : zf_LA_thrift  st K) : Met l yLA_thrift (.codeWith yLA_thrift cLA_thrift 3 (some .int) [(0, 8, 11, 15)] :: zs_tb) (zt_rm 8 168 1 6) (zl_Pc g A [.ref (g.2.1 0), .ref (g.2.1 658)] st) (zs_Qi g zs_ly zs_N A K) 1 6 A := by
  refine zl_met (cc := cLA_thrift) (maxL := 3) (ret := (some .int)) (hh := [(0, 8, 11, 15)]) (by decide) rfl (Nat.le_of_ble_eq_true rfl) (fun p e s m below meth c ls hML hl hP => ?_)
  obtain ⟨⟨hx, hb, hml, hr, hlk, hts, hown, hK⟩, hE, hZ, hN⟩ := id hML
  have hS : va_S A s.heap s.heap [] := va_S.rf
  have hl : lv_has ls 3 [(0, .ref (g.2.1 0)), (1, .ref (g.2.1 658))] := hl
  unfold zf_LA_thrift at h
  refine lv_aload_n hx hb dLA_thrift_0 rfl (lv_at hl 1 rfl) ?_
  refine lv_iconst (v := 0) hx hb dLA_thrift_1 (by decide) ?_
  refine lv_aload_n hx hb dLA_thrift_2 rfl (lv_at hl 0 rfl) ?_
  rcases h with h | h
  · refine zr_calli (va_runV (As := []) (rest := [.int 0, .ref (g.2.1 658)]) ⟨hx, hb, hml, hown, hts⟩ (zc_TS_thrift l g A  h) (cwV 0 hts (zs_gV zq_362 zq_363 zq_364 zq_1 zq_365) rfl rfl rfl ⟨rfl, by decide, by decide, by decide +kernel⟩ ⟨Nat.le_of_ble_eq_true rfl, Nat.le_of_ble_eq_true rfl⟩) (zs_preV zs_nwk hK hP zl_0.1 zl_0.2 rfl) rfl rfl hl.1 rfl (lv_room (Nat.le_of_ble_eq_true rfl)) dLA_thrift_3 ⟨Nat.zero_le _, Nat.zero_le _⟩) hS (fun r2 u1 H locs h hP hS => ?_)
    refine lv_i2l hx hb dLA_thrift_6 rfl ?_
    obtain ⟨hi3, h⟩ := h
    refine zr_last hx hb hK.1 hP hS zl_658.1 zl_658.2 hi3 dLA_thrift_7 (fun H locs hP hS => ?_)
    obtain ⟨t4, ez⟩ : ∃ tz : zs_T, tz = zs_l u1 658 (0 : Int32).toNatClampNeg r2.toInt64 := ⟨_, rfl⟩
    have h := h t4 ez
    have hP : zs_P g zs_ly zs_N A t4 H := by rw [ez]; exact hP
    clear ez
    refine lv_goto (tgt := 14) hx hb dLA_thrift_8 rfl ?_
    refine lv_iconst (v := 0) hx hb dLA_thrift_14 (by decide) ?_
    exact zl_iret hx hb hr hlk hP hS h dLA_thrift_15 (Nat.le_of_ble_eq_true rfl) (Nat.le_of_ble_eq_true rfl)
  · refine zt_callV (n := 0) (As := []) (rest := [.int 0, .ref (g.2.1 658)]) ⟨hx, hb, hml, hown, hts⟩ (zy_TS_thrift l hl0 g A h) rfl rfl ⟨Nat.le_of_ble_eq_true rfl, Nat.le_of_ble_eq_true rfl⟩ zq_365 zq_1 zq_362 zq_363 zq_364 ⟨by decide, by decide, by decide +kernel⟩ rfl zl_0.1 zl_0.2 rfl hK hZ hP hS hl.1 rfl (Nat.le_of_ble_eq_true rfl) dLA_thrift_3 ⟨Nat.le_refl _, Nat.le_refl _⟩ (fun q H locs h => ?_)
    obtain ⟨E, ce, u, hkx, hP, hS, hce, hcv, hcl⟩ := h
    obtain ⟨rfl, h⟩ := hkx
    refine zl_catch (hp := 11) hce hcv (by obtain ⟨k9, h9, -⟩ := Vm.findClass_spec hcl; exact ⟨k9, h9⟩) (fun pl hpl => by rw [hE]; exact zl_hit hpl hown rfl (by decide) (hts _ zq_257) (hZ.here zl_c1) hcl rfl) ?_
    refine lv_astore_n hx hb dLA_thrift_11 rfl hl (by decide) rfl (fun ls hl => ?_)
    have hl : lv_has ls 3 [(2, .ref q), (0, .ref (g.2.1 0)), (1, .ref (g.2.1 658))] := hl
    refine lv_iconst (v := 1) hx hb dLA_thrift_12 (by decide) ?_
    exact zl_iret hx hb hr hlk hP hS h dLA_thrift_13 (Nat.le_of_ble_eq_true rfl) (Nat.le_of_ble_eq_true rfl)
set_option maxHeartbeats 4000000 in
set_option maxRecDepth 100000 in
theorem zc_LA_instruction (l : Launch) (hl0 : l.stackTraces = false) (g : zs_G) (A : Nat → Prop) {l1 l2 l3 : Int32} {st : zs_T} {K : Int32 → zs_T → Prop} (h : zf_LA_instruction l1 l2 l3 st K) : Met l yLA_instruction (.codeWith yLA_instruction cLA_instruction 6 (some .int) [(0, 12, 15, 25), (0, 12, 19, 13), (0, 12, 23, 15)] :: zs_tb) (zt_rm 9 149 1 6) (zl_Pc g A [.ref (g.2.1 0), .int l1, .int l2, .int l3, .ref (g.2.1 658)] st) (zs_Qi g zs_ly zs_N A K) 1 6 A := by
  refine zl_met (cc := cLA_instruction) (maxL := 6) (ret := (some .int)) (hh := [(0, 12, 15, 25), (0, 12, 19, 13), (0, 12, 23, 15)]) (by decide) rfl (Nat.le_of_ble_eq_true rfl) (fun p e s m below meth c ls hML hl hP => ?_)
  obtain ⟨⟨hx, hb, hml, hr, hlk, hts, hown, hK⟩, hE, hZ, hN⟩ := id hML
  have hS : va_S A s.heap s.heap [] := va_S.rf
  have hl : lv_has ls 6 [(0, .ref (g.2.1 0)), (1, .int l1), (2, .int l2), (3, .int l3), (4, .ref (g.2.1 658))] := hl
  unfold zf_LA_instruction at h
  refine lv_aload hx hb dLA_instruction_0 (lv_at hl 4 rfl) ?_
  refine lv_iconst (v := 0) hx hb dLA_instruction_2 (by decide) ?_
  refine lv_aload_n hx hb dLA_instruction_3 rfl (lv_at hl 0 rfl) ?_
  refine lv_iload_n hx hb dLA_instruction_4 rfl (lv_at hl 1 rfl) ?_
  refine lv_iload_n hx hb dLA_instruction_5 rfl (lv_at hl 2 rfl) ?_
  refine lv_iload_n hx hb dLA_instruction_6 rfl (lv_at hl 3 rfl) ?_
  rcases h with h | h
  · refine zr_calli (va_runV (As := [.int l1, .int l2, .int l3]) (rest := [.int 0, .ref (g.2.1 658)]) ⟨hx, hb, hml, hown, hts⟩ (zc_TS_instruction l g A  h) (cwV 3 hts (zs_gV zq_539 zq_540 zq_541 zq_1 zq_542) rfl rfl rfl ⟨rfl, by decide, by decide, by decide +kernel⟩ ⟨Nat.le_of_ble_eq_true rfl, Nat.le_of_ble_eq_true rfl⟩) (zs_preV zs_nwk hK hP zl_0.1 zl_0.2 rfl) rfl rfl hl.1 rfl (lv_room (Nat.le_of_ble_eq_true rfl)) dLA_instruction_7 ⟨Nat.zero_le _, Nat.zero_le _⟩) hS (fun r2 u1 H locs h hP hS => ?_)
    refine lv_i2l hx hb dLA_instruction_10 rfl ?_
    obtain ⟨hi3, h⟩ := h
    refine zr_last hx hb hK.1 hP hS zl_658.1 zl_658.2 hi3 dLA_instruction_11 (fun H locs hP hS => ?_)
    obtain ⟨t4, ez⟩ : ∃ tz : zs_T, tz = zs_l u1 658 (0 : Int32).toNatClampNeg r2.toInt64 := ⟨_, rfl⟩
    have h := h t4 ez
    have hP : zs_P g zs_ly zs_N A t4 H := by rw [ez]; exact hP
    clear ez
    refine lv_goto (tgt := 27) hx hb dLA_instruction_12 rfl ?_
    refine lv_iconst (v := 0) hx hb dLA_instruction_27 (by decide) ?_
    exact zl_iret hx hb hr hlk hP hS h dLA_instruction_28 (Nat.le_of_ble_eq_true rfl) (Nat.le_of_ble_eq_true rfl)
  · refine zt_callV (n := 3) (As := [.int l1, .int l2, .int l3]) (rest := [.int 0, .ref (g.2.1 658)]) ⟨hx, hb, hml, hown, hts⟩ (zy_TS_instruction l hl0 g A h) rfl rfl ⟨Nat.le_of_ble_eq_true rfl, Nat.le_of_ble_eq_true rfl⟩ zq_542 zq_1 zq_539 zq_540 zq_541 ⟨by decide, by decide, by decide +kernel⟩ rfl zl_0.1 zl_0.2 rfl hK hZ hP hS hl.1 rfl (Nat.le_of_ble_eq_true rfl) dLA_instruction_7 ⟨Nat.le_refl _, Nat.le_refl _⟩ (fun q H locs h => ?_)
    obtain ⟨E, ce, u, hkx, hP, hS, hce, hcv, hcl⟩ := h
    rcases hkx with ⟨rfl, h⟩ | ⟨rfl, h⟩ | ⟨rfl, h⟩
    · refine zl_catch (hp := 15) hce hcv (by obtain ⟨k9, h9, -⟩ := Vm.findClass_spec hcl; exact ⟨k9, h9⟩) (fun pl hpl => by rw [hE]; exact zl_hit hpl hown rfl (by decide) (hts _ zq_538) (hZ.here zl_c2) hcl rfl) ?_
      refine lv_astore hx hb dLA_instruction_15 hl (by decide) rfl (fun ls hl => ?_)
      have hl : lv_has ls 6 [(5, .ref q), (0, .ref (g.2.1 0)), (1, .int l1), (2, .int l2), (3, .int l3), (4, .ref (g.2.1 658))] := hl
      refine lv_iconst (v := 1) hx hb dLA_instruction_17 (by decide) ?_
      exact zl_iret hx hb hr hlk hP hS h dLA_instruction_18 (Nat.le_of_ble_eq_true rfl) (Nat.le_of_ble_eq_true rfl)
    · refine zl_catch (hp := 19) hce hcv (by obtain ⟨k9, h9, -⟩ := Vm.findClass_spec hcl; exact ⟨k9, h9⟩) (fun pl hpl => by rw [hE]; exact zl_miss hpl hown rfl (by decide) (hts _ zq_538) (hN _ (List.mem_of_getElem? (i := 1) rfl)) hcl (zl_hit hpl hown rfl (by decide) (hts _ zq_256) (hZ.here zl_c0) hcl rfl)) ?_
      refine lv_astore hx hb dLA_instruction_19 hl (by decide) rfl (fun ls hl => ?_)
      have hl : lv_has ls 6 [(5, .ref q), (0, .ref (g.2.1 0)), (1, .int l1), (2, .int l2), (3, .int l3), (4, .ref (g.2.1 658))] := hl
      refine lv_iconst (v := 2) hx hb dLA_instruction_21 (by decide) ?_
      exact zl_iret hx hb hr hlk hP hS h dLA_instruction_22 (Nat.le_of_ble_eq_true rfl) (Nat.le_of_ble_eq_true rfl)
    · refine zl_catch (hp := 23) hce hcv (by obtain ⟨k9, h9, -⟩ := Vm.findClass_spec hcl; exact ⟨k9, h9⟩) (fun pl hpl => by rw [hE]; exact zl_miss hpl hown rfl (by decide) (hts _ zq_538) (hN _ (List.mem_of_getElem? (i := 4) rfl)) hcl (zl_miss hpl hown rfl (by decide) (hts _ zq_256) (hN _ (List.mem_of_getElem? (i := 0) rfl)) hcl (zl_hit hpl hown rfl (by decide) (hts _ zq_257) (hZ.here zl_c1) hcl rfl))) ?_
      refine lv_astore hx hb dLA_instruction_23 hl (by decide) rfl (fun ls hl => ?_)
      have hl : lv_has ls 6 [(5, .ref q), (0, .ref (g.2.1 0)), (1, .int l1), (2, .int l2), (3, .int l3), (4, .ref (g.2.1 658))] := hl
      refine lv_iconst (v := 3) hx hb dLA_instruction_25 (by decide) ?_
      exact zl_iret hx hb hr hlk hP hS h dLA_instruction_26 (Nat.le_of_ble_eq_true rfl) (Nat.le_of_ble_eq_true rfl)
set_option maxHeartbeats 4000000 in
set_option maxRecDepth 100000 in
theorem zc_LA_fate (l : Launch) (hl0 : l.stackTraces = false) (g : zs_G) (A : Nat → Prop) {l1 : Int32} {st : zs_T} {K : Int32 → zs_T → Prop} (h : zf_LA_fate l1 st K) : Met l yLA_fate (.codeWith yLA_fate cLA_fate 4 (some .int) [(0, 9, 12, 25), (0, 9, 15, 15)] :: zs_tb) (zt_rm 9 146 1 6) (zl_Pc g A [.ref (g.2.1 0), .int l1, .ref (g.2.1 658)] st) (zs_Qi g zs_ly zs_N A K) 1 6 A := by
  refine zl_met (cc := cLA_fate) (maxL := 4) (ret := (some .int)) (hh := [(0, 9, 12, 25), (0, 9, 15, 15)]) (by decide) rfl (Nat.le_of_ble_eq_true rfl) (fun p e s m below meth c ls hML hl hP => ?_)
  obtain ⟨⟨hx, hb, hml, hr, hlk, hts, hown, hK⟩, hE, hZ, hN⟩ := id hML
  have hS : va_S A s.heap s.heap [] := va_S.rf
  have hl : lv_has ls 4 [(0, .ref (g.2.1 0)), (1, .int l1), (2, .ref (g.2.1 658))] := hl
  unfold zf_LA_fate at h
  refine lv_aload_n hx hb dLA_fate_0 rfl (lv_at hl 2 rfl) ?_
  refine lv_iconst (v := 0) hx hb dLA_fate_1 (by decide) ?_
  refine lv_aload_n hx hb dLA_fate_2 rfl (lv_at hl 0 rfl) ?_
  refine lv_iload_n hx hb dLA_fate_3 rfl (lv_at hl 1 rfl) ?_
  rcases h with h | h
  · refine zr_calli (va_runV (As := [.int l1]) (rest := [.int 0, .ref (g.2.1 658)]) ⟨hx, hb, hml, hown, hts⟩ (zc_TS_fate l g A  h) (cwV 1 hts (zs_gV zq_582 zq_583 zq_584 zq_1 zq_585) rfl rfl rfl ⟨rfl, by decide, by decide, by decide +kernel⟩ ⟨Nat.le_of_ble_eq_true rfl, Nat.le_of_ble_eq_true rfl⟩) (zs_preV zs_nwk hK hP zl_0.1 zl_0.2 rfl) rfl rfl hl.1 rfl (lv_room (Nat.le_of_ble_eq_true rfl)) dLA_fate_4 ⟨Nat.zero_le _, Nat.zero_le _⟩) hS (fun r2 u1 H locs h hP hS => ?_)
    refine lv_i2l hx hb dLA_fate_7 rfl ?_
    obtain ⟨hi3, h⟩ := h
    refine zr_last hx hb hK.1 hP hS zl_658.1 zl_658.2 hi3 dLA_fate_8 (fun H locs hP hS => ?_)
    obtain ⟨t4, ez⟩ : ∃ tz : zs_T, tz = zs_l u1 658 (0 : Int32).toNatClampNeg r2.toInt64 := ⟨_, rfl⟩
    have h := h t4 ez
    have hP : zs_P g zs_ly zs_N A t4 H := by rw [ez]; exact hP
    clear ez
    refine lv_goto (tgt := 18) hx hb dLA_fate_9 rfl ?_
    refine lv_iconst (v := 0) hx hb dLA_fate_18 (by decide) ?_
    exact zl_iret hx hb hr hlk hP hS h dLA_fate_19 (Nat.le_of_ble_eq_true rfl) (Nat.le_of_ble_eq_true rfl)
  · refine zt_callV (n := 1) (As := [.int l1]) (rest := [.int 0, .ref (g.2.1 658)]) ⟨hx, hb, hml, hown, hts⟩ (zy_TS_fate l hl0 g A h) rfl rfl ⟨Nat.le_of_ble_eq_true rfl, Nat.le_of_ble_eq_true rfl⟩ zq_585 zq_1 zq_582 zq_583 zq_584 ⟨by decide, by decide, by decide +kernel⟩ rfl zl_0.1 zl_0.2 rfl hK hZ hP hS hl.1 rfl (Nat.le_of_ble_eq_true rfl) dLA_fate_4 ⟨Nat.le_refl _, Nat.le_refl _⟩ (fun q H locs h => ?_)
    obtain ⟨E, ce, u, hkx, hP, hS, hce, hcv, hcl⟩ := h
    rcases hkx with ⟨rfl, h⟩ | ⟨rfl, h⟩
    · refine zl_catch (hp := 12) hce hcv (by obtain ⟨k9, h9, -⟩ := Vm.findClass_spec hcl; exact ⟨k9, h9⟩) (fun pl hpl => by rw [hE]; exact zl_hit hpl hown rfl (by decide) (hts _ zq_538) (hZ.here zl_c2) hcl rfl) ?_
      refine lv_astore_n hx hb dLA_fate_12 rfl hl (by decide) rfl (fun ls hl => ?_)
      have hl : lv_has ls 4 [(3, .ref q), (0, .ref (g.2.1 0)), (1, .int l1), (2, .ref (g.2.1 658))] := hl
      refine lv_iconst (v := 1) hx hb dLA_fate_13 (by decide) ?_
      exact zl_iret hx hb hr hlk hP hS h dLA_fate_14 (Nat.le_of_ble_eq_true rfl) (Nat.le_of_ble_eq_true rfl)
    · refine zl_catch (hp := 15) hce hcv (by obtain ⟨k9, h9, -⟩ := Vm.findClass_spec hcl; exact ⟨k9, h9⟩) (fun pl hpl => by rw [hE]; exact zl_miss hpl hown rfl (by decide) (hts _ zq_538) (hN _ (List.mem_of_getElem? (i := 4) rfl)) hcl (zl_hit hpl hown rfl (by decide) (hts _ zq_257) (hZ.here zl_c1) hcl rfl)) ?_
      refine lv_astore_n hx hb dLA_fate_15 rfl hl (by decide) rfl (fun ls hl => ?_)
      have hl : lv_has ls 4 [(3, .ref q), (0, .ref (g.2.1 0)), (1, .int l1), (2, .ref (g.2.1 658))] := hl
      refine lv_iconst (v := 2) hx hb dLA_fate_16 (by decide) ?_
      exact zl_iret hx hb hr hlk hP hS h dLA_fate_17 (Nat.le_of_ble_eq_true rfl) (Nat.le_of_ble_eq_true rfl)
set_option maxHeartbeats 4000000 in
set_option maxRecDepth 100000 in
theorem zc_LA_rounds (l : Launch) (hl0 : l.stackTraces = false) (g : zs_G) (A : Nat → Prop) {st : zs_T} {K : Int32 → zs_T → Prop} (h : zf_LA_rounds  st K) : Met l yLA_rounds (.codeWith yLA_rounds cLA_rounds 3 (some .int) [(0, 8, 11, 15)] :: zs_tb) (zt_rm 9 145 1 6) (zl_Pc g A [.ref (g.2.1 0), .ref (g.2.1 658)] st) (zs_Qi g zs_ly zs_N A K) 1 6 A := by
  refine zl_met (cc := cLA_rounds) (maxL := 3) (ret := (some .int)) (hh := [(0, 8, 11, 15)]) (by decide) rfl (Nat.le_of_ble_eq_true rfl) (fun p e s m below meth c ls hML hl hP => ?_)
  obtain ⟨⟨hx, hb, hml, hr, hlk, hts, hown, hK⟩, hE, hZ, hN⟩ := id hML
  have hS : va_S A s.heap s.heap [] := va_S.rf
  have hl : lv_has ls 3 [(0, .ref (g.2.1 0)), (1, .ref (g.2.1 658))] := hl
  unfold zf_LA_rounds at h
  refine lv_aload_n hx hb dLA_rounds_0 rfl (lv_at hl 1 rfl) ?_
  refine lv_iconst (v := 0) hx hb dLA_rounds_1 (by decide) ?_
  refine lv_aload_n hx hb dLA_rounds_2 rfl (lv_at hl 0 rfl) ?_
  rcases h with h | h
  · refine zr_calli (va_runV (As := []) (rest := [.int 0, .ref (g.2.1 658)]) ⟨hx, hb, hml, hown, hts⟩ (zc_TS_rounds l g A  h) (cwV 0 hts (zs_gV zq_589 zq_590 zq_591 zq_1 zq_592) rfl rfl rfl ⟨rfl, by decide, by decide, by decide +kernel⟩ ⟨Nat.le_of_ble_eq_true rfl, Nat.le_of_ble_eq_true rfl⟩) (zs_preV zs_nwk hK hP zl_0.1 zl_0.2 rfl) rfl rfl hl.1 rfl (lv_room (Nat.le_of_ble_eq_true rfl)) dLA_rounds_3 ⟨Nat.zero_le _, Nat.zero_le _⟩) hS (fun r2 u1 H locs h hP hS => ?_)
    refine lv_i2l hx hb dLA_rounds_6 rfl ?_
    obtain ⟨hi3, h⟩ := h
    refine zr_last hx hb hK.1 hP hS zl_658.1 zl_658.2 hi3 dLA_rounds_7 (fun H locs hP hS => ?_)
    obtain ⟨t4, ez⟩ : ∃ tz : zs_T, tz = zs_l u1 658 (0 : Int32).toNatClampNeg r2.toInt64 := ⟨_, rfl⟩
    have h := h t4 ez
    have hP : zs_P g zs_ly zs_N A t4 H := by rw [ez]; exact hP
    clear ez
    refine lv_goto (tgt := 14) hx hb dLA_rounds_8 rfl ?_
    refine lv_iconst (v := 0) hx hb dLA_rounds_14 (by decide) ?_
    exact zl_iret hx hb hr hlk hP hS h dLA_rounds_15 (Nat.le_of_ble_eq_true rfl) (Nat.le_of_ble_eq_true rfl)
  · refine zt_callV (n := 0) (As := []) (rest := [.int 0, .ref (g.2.1 658)]) ⟨hx, hb, hml, hown, hts⟩ (zy_TS_rounds l hl0 g A h) rfl rfl ⟨Nat.le_of_ble_eq_true rfl, Nat.le_of_ble_eq_true rfl⟩ zq_592 zq_1 zq_589 zq_590 zq_591 ⟨by decide, by decide, by decide +kernel⟩ rfl zl_0.1 zl_0.2 rfl hK hZ hP hS hl.1 rfl (Nat.le_of_ble_eq_true rfl) dLA_rounds_3 ⟨Nat.le_refl _, Nat.le_refl _⟩ (fun q H locs h => ?_)
    obtain ⟨E, ce, u, hkx, hP, hS, hce, hcv, hcl⟩ := h
    obtain ⟨rfl, h⟩ := hkx
    refine zl_catch (hp := 11) hce hcv (by obtain ⟨k9, h9, -⟩ := Vm.findClass_spec hcl; exact ⟨k9, h9⟩) (fun pl hpl => by rw [hE]; exact zl_hit hpl hown rfl (by decide) (hts _ zq_257) (hZ.here zl_c1) hcl rfl) ?_
    refine lv_astore_n hx hb dLA_rounds_11 rfl hl (by decide) rfl (fun ls hl => ?_)
    have hl : lv_has ls 3 [(2, .ref q), (0, .ref (g.2.1 0)), (1, .ref (g.2.1 658))] := hl
    refine lv_iconst (v := 1) hx hb dLA_rounds_12 (by decide) ?_
    exact zl_iret hx hb hr hlk hP hS h dLA_rounds_13 (Nat.le_of_ble_eq_true rfl) (Nat.le_of_ble_eq_true rfl)
set_option maxHeartbeats 4000000 in
set_option maxRecDepth 100000 in
theorem zc_LA_may (l : Launch) (hl0 : l.stackTraces = false) (g : zs_G) (A : Nat → Prop) {l1 l2 : Int32} {st : zs_T} {K : Int32 → zs_T → Prop} (h : zf_LA_may l1 l2 st K) : Met l yLA_may (.codeWith yLA_may cLA_may 5 (some .int) [(0, 17, 20, 25), (0, 17, 24, 15)] :: zs_tb) (zt_rm 9 147 1 6) (zl_Pc g A [.ref (g.2.1 0), .int l1, .int l2, .ref (g.2.1 658)] st) (zs_Qi g zs_ly zs_N A K) 1 6 A := by
  refine zl_met (cc := cLA_may) (maxL := 5) (ret := (some .int)) (hh := [(0, 17, 20, 25), (0, 17, 24, 15)]) (by decide) rfl (Nat.le_of_ble_eq_true rfl) (fun p e s m below meth c ls hML hl hP => ?_)
  obtain ⟨⟨hx, hb, hml, hr, hlk, hts, hown, hK⟩, hE, hZ, hN⟩ := id hML
  have hS : va_S A s.heap s.heap [] := va_S.rf
  have hl : lv_has ls 5 [(0, .ref (g.2.1 0)), (1, .int l1), (2, .int l2), (3, .ref (g.2.1 658))] := hl
  unfold zf_LA_may at h
  refine lv_aload_n hx hb dLA_may_0 rfl (lv_at hl 3 rfl) ?_
  refine lv_iconst (v := 0) hx hb dLA_may_1 (by decide) ?_
  refine lv_aload_n hx hb dLA_may_2 rfl (lv_at hl 0 rfl) ?_
  refine lv_iload_n hx hb dLA_may_3 rfl (lv_at hl 1 rfl) ?_
  refine lv_iload_n hx hb dLA_may_4 rfl (lv_at hl 2 rfl) ?_
  rcases h with h | h
  · refine zr_calli (va_runV (As := [.int l1, .int l2]) (rest := [.int 0, .ref (g.2.1 658)]) ⟨hx, hb, hml, hown, hts⟩ (zc_TS_may l g A  h) (cwV 2 hts (zs_gV zq_596 zq_597 zq_598 zq_1 zq_599) rfl rfl rfl ⟨rfl, by decide, by decide, by decide +kernel⟩ ⟨Nat.le_of_ble_eq_true rfl, Nat.le_of_ble_eq_true rfl⟩) (zs_preV zs_nwk hK hP zl_0.1 zl_0.2 rfl) rfl rfl hl.1 rfl (lv_room (Nat.le_of_ble_eq_true rfl)) dLA_may_5 ⟨Nat.zero_le _, Nat.zero_le _⟩) hS (fun r2 u1 H locs h hP hS => ?_)
    refine lv_if_eq (tgt := 15) hx hb dLA_may_8 rfl (fun hc => ?_) (fun hc => ?_)
    · have h := h.1 hc
      clear hc
      refine lv_lconst (v := 0) hx hb dLA_may_15 (by decide) ?_
      obtain ⟨hi3, h⟩ := h
      refine zr_last hx hb hK.1 hP hS zl_658.1 zl_658.2 hi3 dLA_may_16 (fun H locs hP hS => ?_)
      obtain ⟨t4, ez⟩ : ∃ tz : zs_T, tz = zs_l u1 658 (0 : Int32).toNatClampNeg 0 := ⟨_, rfl⟩
      have h := h t4 ez
      have hP : zs_P g zs_ly zs_N A t4 H := by rw [ez]; exact hP
      clear ez
      refine lv_goto (tgt := 28) hx hb dLA_may_17 rfl ?_
      refine lv_iconst (v := 0) hx hb dLA_may_28 (by decide) ?_
      exact zl_iret hx hb hr hlk hP hS h dLA_may_29 (Nat.le_of_ble_eq_true rfl) (Nat.le_of_ble_eq_true rfl)
    · have h := h.2 hc
      clear hc
      refine lv_lconst (v := 1) hx hb dLA_may_11 (by decide) ?_
      refine lv_goto (tgt := 16) hx hb dLA_may_12 rfl ?_
      obtain ⟨hi5, h⟩ := h
      refine zr_last hx hb hK.1 hP hS zl_658.1 zl_658.2 hi5 dLA_may_16 (fun H locs hP hS => ?_)
      obtain ⟨t6, ez⟩ : ∃ tz : zs_T, tz = zs_l u1 658 (0 : Int32).toNatClampNeg 1 := ⟨_, rfl⟩
      have h := h t6 ez
      have hP : zs_P g zs_ly zs_N A t6 H := by rw [ez]; exact hP
      clear ez
      refine lv_goto (tgt := 28) hx hb dLA_may_17 rfl ?_
      refine lv_iconst (v := 0) hx hb dLA_may_28 (by decide) ?_
      exact zl_iret hx hb hr hlk hP hS h dLA_may_29 (Nat.le_of_ble_eq_true rfl) (Nat.le_of_ble_eq_true rfl)
  · refine zt_callV (n := 2) (As := [.int l1, .int l2]) (rest := [.int 0, .ref (g.2.1 658)]) ⟨hx, hb, hml, hown, hts⟩ (zy_TS_may l hl0 g A h) rfl rfl ⟨Nat.le_of_ble_eq_true rfl, Nat.le_of_ble_eq_true rfl⟩ zq_599 zq_1 zq_596 zq_597 zq_598 ⟨by decide, by decide, by decide +kernel⟩ rfl zl_0.1 zl_0.2 rfl hK hZ hP hS hl.1 rfl (Nat.le_of_ble_eq_true rfl) dLA_may_5 ⟨Nat.le_refl _, Nat.le_refl _⟩ (fun q H locs h => ?_)
    obtain ⟨E, ce, u, hkx, hP, hS, hce, hcv, hcl⟩ := h
    rcases hkx with ⟨rfl, h⟩ | ⟨rfl, h⟩
    · refine zl_catch (hp := 20) hce hcv (by obtain ⟨k9, h9, -⟩ := Vm.findClass_spec hcl; exact ⟨k9, h9⟩) (fun pl hpl => by rw [hE]; exact zl_hit hpl hown rfl (by decide) (hts _ zq_538) (hZ.here zl_c2) hcl rfl) ?_
      refine lv_astore hx hb dLA_may_20 hl (by decide) rfl (fun ls hl => ?_)
      have hl : lv_has ls 5 [(4, .ref q), (0, .ref (g.2.1 0)), (1, .int l1), (2, .int l2), (3, .ref (g.2.1 658))] := hl
      refine lv_iconst (v := 1) hx hb dLA_may_22 (by decide) ?_
      exact zl_iret hx hb hr hlk hP hS h dLA_may_23 (Nat.le_of_ble_eq_true rfl) (Nat.le_of_ble_eq_true rfl)
    · refine zl_catch (hp := 24) hce hcv (by obtain ⟨k9, h9, -⟩ := Vm.findClass_spec hcl; exact ⟨k9, h9⟩) (fun pl hpl => by rw [hE]; exact zl_miss hpl hown rfl (by decide) (hts _ zq_538) (hN _ (List.mem_of_getElem? (i := 4) rfl)) hcl (zl_hit hpl hown rfl (by decide) (hts _ zq_257) (hZ.here zl_c1) hcl rfl)) ?_
      refine lv_astore hx hb dLA_may_24 hl (by decide) rfl (fun ls hl => ?_)
      have hl : lv_has ls 5 [(4, .ref q), (0, .ref (g.2.1 0)), (1, .int l1), (2, .int l2), (3, .ref (g.2.1 658))] := hl
      refine lv_iconst (v := 2) hx hb dLA_may_26 (by decide) ?_
      exact zl_iret hx hb hr hlk hP hS h dLA_may_27 (Nat.le_of_ble_eq_true rfl) (Nat.le_of_ble_eq_true rfl)
set_option maxHeartbeats 4000000 in
set_option maxRecDepth 100000 in
theorem zc_LA_inside (l : Launch) (hl0 : l.stackTraces = false) (g : zs_G) (A : Nat → Prop) {l1 l2 : Int32} {st : zs_T} {K : Int32 → zs_T → Prop} (h : zf_LA_inside l1 l2 st K) : Met l yLA_inside (.codeWith yLA_inside cLA_inside 5 (some .int) [(0, 17, 20, 25), (0, 17, 24, 15)] :: zs_tb) (zt_rm 9 147 1 6) (zl_Pc g A [.ref (g.2.1 0), .int l1, .int l2, .ref (g.2.1 658)] st) (zs_Qi g zs_ly zs_N A K) 1 6 A := by
  refine zl_met (cc := cLA_inside) (maxL := 5) (ret := (some .int)) (hh := [(0, 17, 20, 25), (0, 17, 24, 15)]) (by decide) rfl (Nat.le_of_ble_eq_true rfl) (fun p e s m below meth c ls hML hl hP => ?_)
  obtain ⟨⟨hx, hb, hml, hr, hlk, hts, hown, hK⟩, hE, hZ, hN⟩ := id hML
  have hS : va_S A s.heap s.heap [] := va_S.rf
  have hl : lv_has ls 5 [(0, .ref (g.2.1 0)), (1, .int l1), (2, .int l2), (3, .ref (g.2.1 658))] := hl
  unfold zf_LA_inside at h
  refine lv_aload_n hx hb dLA_inside_0 rfl (lv_at hl 3 rfl) ?_
  refine lv_iconst (v := 0) hx hb dLA_inside_1 (by decide) ?_
  refine lv_aload_n hx hb dLA_inside_2 rfl (lv_at hl 0 rfl) ?_
  refine lv_iload_n hx hb dLA_inside_3 rfl (lv_at hl 1 rfl) ?_
  refine lv_iload_n hx hb dLA_inside_4 rfl (lv_at hl 2 rfl) ?_
  rcases h with h | h
  · refine zr_calli (va_runV (As := [.int l1, .int l2]) (rest := [.int 0, .ref (g.2.1 658)]) ⟨hx, hb, hml, hown, hts⟩ (zc_TS_inside l g A  h) (cwV 2 hts (zs_gV zq_608 zq_609 zq_610 zq_1 zq_611) rfl rfl rfl ⟨rfl, by decide, by decide, by decide +kernel⟩ ⟨Nat.le_of_ble_eq_true rfl, Nat.le_of_ble_eq_true rfl⟩) (zs_preV zs_nwk hK hP zl_0.1 zl_0.2 rfl) rfl rfl hl.1 rfl (lv_room (Nat.le_of_ble_eq_true rfl)) dLA_inside_5 ⟨Nat.zero_le _, Nat.zero_le _⟩) hS (fun r2 u1 H locs h hP hS => ?_)
    refine lv_if_eq (tgt := 15) hx hb dLA_inside_8 rfl (fun hc => ?_) (fun hc => ?_)
    · have h := h.1 hc
      clear hc
      refine lv_lconst (v := 0) hx hb dLA_inside_15 (by decide) ?_
      obtain ⟨hi3, h⟩ := h
      refine zr_last hx hb hK.1 hP hS zl_658.1 zl_658.2 hi3 dLA_inside_16 (fun H locs hP hS => ?_)
      obtain ⟨t4, ez⟩ : ∃ tz : zs_T, tz = zs_l u1 658 (0 : Int32).toNatClampNeg 0 := ⟨_, rfl⟩
      have h := h t4 ez
      have hP : zs_P g zs_ly zs_N A t4 H := by rw [ez]; exact hP
      clear ez
      refine lv_goto (tgt := 28) hx hb dLA_inside_17 rfl ?_
      refine lv_iconst (v := 0) hx hb dLA_inside_28 (by decide) ?_
      exact zl_iret hx hb hr hlk hP hS h dLA_inside_29 (Nat.le_of_ble_eq_true rfl) (Nat.le_of_ble_eq_true rfl)
    · have h := h.2 hc
      clear hc
      refine lv_lconst (v := 1) hx hb dLA_inside_11 (by decide) ?_
      refine lv_goto (tgt := 16) hx hb dLA_inside_12 rfl ?_
      obtain ⟨hi5, h⟩ := h
      refine zr_last hx hb hK.1 hP hS zl_658.1 zl_658.2 hi5 dLA_inside_16 (fun H locs hP hS => ?_)
      obtain ⟨t6, ez⟩ : ∃ tz : zs_T, tz = zs_l u1 658 (0 : Int32).toNatClampNeg 1 := ⟨_, rfl⟩
      have h := h t6 ez
      have hP : zs_P g zs_ly zs_N A t6 H := by rw [ez]; exact hP
      clear ez
      refine lv_goto (tgt := 28) hx hb dLA_inside_17 rfl ?_
      refine lv_iconst (v := 0) hx hb dLA_inside_28 (by decide) ?_
      exact zl_iret hx hb hr hlk hP hS h dLA_inside_29 (Nat.le_of_ble_eq_true rfl) (Nat.le_of_ble_eq_true rfl)
  · refine zt_callV (n := 2) (As := [.int l1, .int l2]) (rest := [.int 0, .ref (g.2.1 658)]) ⟨hx, hb, hml, hown, hts⟩ (zy_TS_inside l hl0 g A h) rfl rfl ⟨Nat.le_of_ble_eq_true rfl, Nat.le_of_ble_eq_true rfl⟩ zq_611 zq_1 zq_608 zq_609 zq_610 ⟨by decide, by decide, by decide +kernel⟩ rfl zl_0.1 zl_0.2 rfl hK hZ hP hS hl.1 rfl (Nat.le_of_ble_eq_true rfl) dLA_inside_5 ⟨Nat.le_refl _, Nat.le_refl _⟩ (fun q H locs h => ?_)
    obtain ⟨E, ce, u, hkx, hP, hS, hce, hcv, hcl⟩ := h
    rcases hkx with ⟨rfl, h⟩ | ⟨rfl, h⟩
    · refine zl_catch (hp := 20) hce hcv (by obtain ⟨k9, h9, -⟩ := Vm.findClass_spec hcl; exact ⟨k9, h9⟩) (fun pl hpl => by rw [hE]; exact zl_hit hpl hown rfl (by decide) (hts _ zq_538) (hZ.here zl_c2) hcl rfl) ?_
      refine lv_astore hx hb dLA_inside_20 hl (by decide) rfl (fun ls hl => ?_)
      have hl : lv_has ls 5 [(4, .ref q), (0, .ref (g.2.1 0)), (1, .int l1), (2, .int l2), (3, .ref (g.2.1 658))] := hl
      refine lv_iconst (v := 1) hx hb dLA_inside_22 (by decide) ?_
      exact zl_iret hx hb hr hlk hP hS h dLA_inside_23 (Nat.le_of_ble_eq_true rfl) (Nat.le_of_ble_eq_true rfl)
    · refine zl_catch (hp := 24) hce hcv (by obtain ⟨k9, h9, -⟩ := Vm.findClass_spec hcl; exact ⟨k9, h9⟩) (fun pl hpl => by rw [hE]; exact zl_miss hpl hown rfl (by decide) (hts _ zq_538) (hN _ (List.mem_of_getElem? (i := 4) rfl)) hcl (zl_hit hpl hown rfl (by decide) (hts _ zq_257) (hZ.here zl_c1) hcl rfl)) ?_
      refine lv_astore hx hb dLA_inside_24 hl (by decide) rfl (fun ls hl => ?_)
      have hl : lv_has ls 5 [(4, .ref q), (0, .ref (g.2.1 0)), (1, .int l1), (2, .int l2), (3, .ref (g.2.1 658))] := hl
      refine lv_iconst (v := 2) hx hb dLA_inside_26 (by decide) ?_
      exact zl_iret hx hb hr hlk hP hS h dLA_inside_27 (Nat.le_of_ble_eq_true rfl) (Nat.le_of_ble_eq_true rfl)
set_option maxHeartbeats 4000000 in
set_option maxRecDepth 100000 in
theorem zc_LA_fact (l : Launch) (hl0 : l.stackTraces = false) (g : zs_G) (A : Nat → Prop) {l1 l2 l3 l4 : Int32} {st : zs_T} {K : Int32 → zs_T → Prop} (h : zf_LA_fact l1 l2 l3 l4 st K) : Met l yLA_fact (.codeWith yLA_fact cLA_fact 7 (some .int) [(0, 21, 24, 25), (0, 21, 28, 13), (0, 21, 32, 15)] :: zs_tb) (zt_rm 9 149 1 6) (zl_Pc g A [.ref (g.2.1 0), .int l1, .int l2, .int l3, .int l4, .ref (g.2.1 658)] st) (zs_Qi g zs_ly zs_N A K) 1 6 A := by
  refine zl_met (cc := cLA_fact) (maxL := 7) (ret := (some .int)) (hh := [(0, 21, 24, 25), (0, 21, 28, 13), (0, 21, 32, 15)]) (by decide) rfl (Nat.le_of_ble_eq_true rfl) (fun p e s m below meth c ls hML hl hP => ?_)
  obtain ⟨⟨hx, hb, hml, hr, hlk, hts, hown, hK⟩, hE, hZ, hN⟩ := id hML
  have hS : va_S A s.heap s.heap [] := va_S.rf
  have hl : lv_has ls 7 [(0, .ref (g.2.1 0)), (1, .int l1), (2, .int l2), (3, .int l3), (4, .int l4), (5, .ref (g.2.1 658))] := hl
  unfold zf_LA_fact at h
  refine lv_aload hx hb dLA_fact_0 (lv_at hl 5 rfl) ?_
  refine lv_iconst (v := 0) hx hb dLA_fact_2 (by decide) ?_
  refine lv_aload_n hx hb dLA_fact_3 rfl (lv_at hl 0 rfl) ?_
  refine lv_iload_n hx hb dLA_fact_4 rfl (lv_at hl 1 rfl) ?_
  refine lv_iload_n hx hb dLA_fact_5 rfl (lv_at hl 2 rfl) ?_
  refine lv_iload_n hx hb dLA_fact_6 rfl (lv_at hl 3 rfl) ?_
  refine lv_iload hx hb dLA_fact_7 (lv_at hl 4 rfl) ?_
  rcases h with h | h
  · refine zr_calli (va_runV (As := [.int l1, .int l2, .int l3, .int l4]) (rest := [.int 0, .ref (g.2.1 658)]) ⟨hx, hb, hml, hown, hts⟩ (zc_TS_fact l g A  h) (cwV 4 hts (zs_gV zq_619 zq_620 zq_621 zq_1 zq_622) rfl rfl rfl ⟨rfl, by decide, by decide, by decide +kernel⟩ ⟨Nat.le_of_ble_eq_true rfl, Nat.le_of_ble_eq_true rfl⟩) (zs_preV zs_nwk hK hP zl_0.1 zl_0.2 rfl) rfl rfl hl.1 rfl (lv_room (Nat.le_of_ble_eq_true rfl)) dLA_fact_9 ⟨Nat.zero_le _, Nat.zero_le _⟩) hS (fun r2 u1 H locs h hP hS => ?_)
    refine lv_if_eq (tgt := 19) hx hb dLA_fact_12 rfl (fun hc => ?_) (fun hc => ?_)
    · have h := h.1 hc
      clear hc
      refine lv_lconst (v := 0) hx hb dLA_fact_19 (by decide) ?_
      obtain ⟨hi3, h⟩ := h
      refine zr_last hx hb hK.1 hP hS zl_658.1 zl_658.2 hi3 dLA_fact_20 (fun H locs hP hS => ?_)
      obtain ⟨t4, ez⟩ : ∃ tz : zs_T, tz = zs_l u1 658 (0 : Int32).toNatClampNeg 0 := ⟨_, rfl⟩
      have h := h t4 ez
      have hP : zs_P g zs_ly zs_N A t4 H := by rw [ez]; exact hP
      clear ez
      refine lv_goto (tgt := 36) hx hb dLA_fact_21 rfl ?_
      refine lv_iconst (v := 0) hx hb dLA_fact_36 (by decide) ?_
      exact zl_iret hx hb hr hlk hP hS h dLA_fact_37 (Nat.le_of_ble_eq_true rfl) (Nat.le_of_ble_eq_true rfl)
    · have h := h.2 hc
      clear hc
      refine lv_lconst (v := 1) hx hb dLA_fact_15 (by decide) ?_
      refine lv_goto (tgt := 20) hx hb dLA_fact_16 rfl ?_
      obtain ⟨hi5, h⟩ := h
      refine zr_last hx hb hK.1 hP hS zl_658.1 zl_658.2 hi5 dLA_fact_20 (fun H locs hP hS => ?_)
      obtain ⟨t6, ez⟩ : ∃ tz : zs_T, tz = zs_l u1 658 (0 : Int32).toNatClampNeg 1 := ⟨_, rfl⟩
      have h := h t6 ez
      have hP : zs_P g zs_ly zs_N A t6 H := by rw [ez]; exact hP
      clear ez
      refine lv_goto (tgt := 36) hx hb dLA_fact_21 rfl ?_
      refine lv_iconst (v := 0) hx hb dLA_fact_36 (by decide) ?_
      exact zl_iret hx hb hr hlk hP hS h dLA_fact_37 (Nat.le_of_ble_eq_true rfl) (Nat.le_of_ble_eq_true rfl)
  · refine zt_callV (n := 4) (As := [.int l1, .int l2, .int l3, .int l4]) (rest := [.int 0, .ref (g.2.1 658)]) ⟨hx, hb, hml, hown, hts⟩ (zy_TS_fact l hl0 g A h) rfl rfl ⟨Nat.le_of_ble_eq_true rfl, Nat.le_of_ble_eq_true rfl⟩ zq_622 zq_1 zq_619 zq_620 zq_621 ⟨by decide, by decide, by decide +kernel⟩ rfl zl_0.1 zl_0.2 rfl hK hZ hP hS hl.1 rfl (Nat.le_of_ble_eq_true rfl) dLA_fact_9 ⟨Nat.le_refl _, Nat.le_refl _⟩ (fun q H locs h => ?_)
    obtain ⟨E, ce, u, hkx, hP, hS, hce, hcv, hcl⟩ := h
    rcases hkx with ⟨rfl, h⟩ | ⟨rfl, h⟩ | ⟨rfl, h⟩
    · refine zl_catch (hp := 24) hce hcv (by obtain ⟨k9, h9, -⟩ := Vm.findClass_spec hcl; exact ⟨k9, h9⟩) (fun pl hpl => by rw [hE]; exact zl_hit hpl hown rfl (by decide) (hts _ zq_538) (hZ.here zl_c2) hcl rfl) ?_
      refine lv_astore hx hb dLA_fact_24 hl (by decide) rfl (fun ls hl => ?_)
      have hl : lv_has ls 7 [(6, .ref q), (0, .ref (g.2.1 0)), (1, .int l1), (2, .int l2), (3, .int l3), (4, .int l4), (5, .ref (g.2.1 658))] := hl
      refine lv_iconst (v := 1) hx hb dLA_fact_26 (by decide) ?_
      exact zl_iret hx hb hr hlk hP hS h dLA_fact_27 (Nat.le_of_ble_eq_true rfl) (Nat.le_of_ble_eq_true rfl)
    · refine zl_catch (hp := 28) hce hcv (by obtain ⟨k9, h9, -⟩ := Vm.findClass_spec hcl; exact ⟨k9, h9⟩) (fun pl hpl => by rw [hE]; exact zl_miss hpl hown rfl (by decide) (hts _ zq_538) (hN _ (List.mem_of_getElem? (i := 1) rfl)) hcl (zl_hit hpl hown rfl (by decide) (hts _ zq_256) (hZ.here zl_c0) hcl rfl)) ?_
      refine lv_astore hx hb dLA_fact_28 hl (by decide) rfl (fun ls hl => ?_)
      have hl : lv_has ls 7 [(6, .ref q), (0, .ref (g.2.1 0)), (1, .int l1), (2, .int l2), (3, .int l3), (4, .int l4), (5, .ref (g.2.1 658))] := hl
      refine lv_iconst (v := 2) hx hb dLA_fact_30 (by decide) ?_
      exact zl_iret hx hb hr hlk hP hS h dLA_fact_31 (Nat.le_of_ble_eq_true rfl) (Nat.le_of_ble_eq_true rfl)
    · refine zl_catch (hp := 32) hce hcv (by obtain ⟨k9, h9, -⟩ := Vm.findClass_spec hcl; exact ⟨k9, h9⟩) (fun pl hpl => by rw [hE]; exact zl_miss hpl hown rfl (by decide) (hts _ zq_538) (hN _ (List.mem_of_getElem? (i := 4) rfl)) hcl (zl_miss hpl hown rfl (by decide) (hts _ zq_256) (hN _ (List.mem_of_getElem? (i := 0) rfl)) hcl (zl_hit hpl hown rfl (by decide) (hts _ zq_257) (hZ.here zl_c1) hcl rfl))) ?_
      refine lv_astore hx hb dLA_fact_32 hl (by decide) rfl (fun ls hl => ?_)
      have hl : lv_has ls 7 [(6, .ref q), (0, .ref (g.2.1 0)), (1, .int l1), (2, .int l2), (3, .int l3), (4, .int l4), (5, .ref (g.2.1 658))] := hl
      refine lv_iconst (v := 3) hx hb dLA_fact_34 (by decide) ?_
      exact zl_iret hx hb hr hlk hP hS h dLA_fact_35 (Nat.le_of_ble_eq_true rfl) (Nat.le_of_ble_eq_true rfl)
set_option maxHeartbeats 4000000 in
set_option maxRecDepth 100000 in
theorem zc_LA_free (l : Launch) (hl0 : l.stackTraces = false) (g : zs_G) (A : Nat → Prop) {l1 l2 : Int32} {st : zs_T} {K : Int32 → zs_T → Prop} (h : zf_LA_free l1 l2 st K) : Met l yLA_free (.codeWith yLA_free cLA_free 5 (some .int) [(0, 17, 20, 25), (0, 17, 24, 15)] :: zs_tb) (zt_rm 9 147 1 6) (zl_Pc g A [.ref (g.2.1 0), .int l1, .int l2, .ref (g.2.1 658)] st) (zs_Qi g zs_ly zs_N A K) 1 6 A := by
  refine zl_met (cc := cLA_free) (maxL := 5) (ret := (some .int)) (hh := [(0, 17, 20, 25), (0, 17, 24, 15)]) (by decide) rfl (Nat.le_of_ble_eq_true rfl) (fun p e s m below meth c ls hML hl hP => ?_)
  obtain ⟨⟨hx, hb, hml, hr, hlk, hts, hown, hK⟩, hE, hZ, hN⟩ := id hML
  have hS : va_S A s.heap s.heap [] := va_S.rf
  have hl : lv_has ls 5 [(0, .ref (g.2.1 0)), (1, .int l1), (2, .int l2), (3, .ref (g.2.1 658))] := hl
  unfold zf_LA_free at h
  refine lv_aload_n hx hb dLA_free_0 rfl (lv_at hl 3 rfl) ?_
  refine lv_iconst (v := 0) hx hb dLA_free_1 (by decide) ?_
  refine lv_aload_n hx hb dLA_free_2 rfl (lv_at hl 0 rfl) ?_
  refine lv_iload_n hx hb dLA_free_3 rfl (lv_at hl 1 rfl) ?_
  refine lv_iload_n hx hb dLA_free_4 rfl (lv_at hl 2 rfl) ?_
  rcases h with h | h
  · refine zr_calli (va_runV (As := [.int l1, .int l2]) (rest := [.int 0, .ref (g.2.1 658)]) ⟨hx, hb, hml, hown, hts⟩ (zc_TS_free l g A  h) (cwV 2 hts (zs_gV zq_634 zq_635 zq_636 zq_1 zq_637) rfl rfl rfl ⟨rfl, by decide, by decide, by decide +kernel⟩ ⟨Nat.le_of_ble_eq_true rfl, Nat.le_of_ble_eq_true rfl⟩) (zs_preV zs_nwk hK hP zl_0.1 zl_0.2 rfl) rfl rfl hl.1 rfl (lv_room (Nat.le_of_ble_eq_true rfl)) dLA_free_5 ⟨Nat.zero_le _, Nat.zero_le _⟩) hS (fun r2 u1 H locs h hP hS => ?_)
    refine lv_if_eq (tgt := 15) hx hb dLA_free_8 rfl (fun hc => ?_) (fun hc => ?_)
    · have h := h.1 hc
      clear hc
      refine lv_lconst (v := 0) hx hb dLA_free_15 (by decide) ?_
      obtain ⟨hi3, h⟩ := h
      refine zr_last hx hb hK.1 hP hS zl_658.1 zl_658.2 hi3 dLA_free_16 (fun H locs hP hS => ?_)
      obtain ⟨t4, ez⟩ : ∃ tz : zs_T, tz = zs_l u1 658 (0 : Int32).toNatClampNeg 0 := ⟨_, rfl⟩
      have h := h t4 ez
      have hP : zs_P g zs_ly zs_N A t4 H := by rw [ez]; exact hP
      clear ez
      refine lv_goto (tgt := 28) hx hb dLA_free_17 rfl ?_
      refine lv_iconst (v := 0) hx hb dLA_free_28 (by decide) ?_
      exact zl_iret hx hb hr hlk hP hS h dLA_free_29 (Nat.le_of_ble_eq_true rfl) (Nat.le_of_ble_eq_true rfl)
    · have h := h.2 hc
      clear hc
      refine lv_lconst (v := 1) hx hb dLA_free_11 (by decide) ?_
      refine lv_goto (tgt := 16) hx hb dLA_free_12 rfl ?_
      obtain ⟨hi5, h⟩ := h
      refine zr_last hx hb hK.1 hP hS zl_658.1 zl_658.2 hi5 dLA_free_16 (fun H locs hP hS => ?_)
      obtain ⟨t6, ez⟩ : ∃ tz : zs_T, tz = zs_l u1 658 (0 : Int32).toNatClampNeg 1 := ⟨_, rfl⟩
      have h := h t6 ez
      have hP : zs_P g zs_ly zs_N A t6 H := by rw [ez]; exact hP
      clear ez
      refine lv_goto (tgt := 28) hx hb dLA_free_17 rfl ?_
      refine lv_iconst (v := 0) hx hb dLA_free_28 (by decide) ?_
      exact zl_iret hx hb hr hlk hP hS h dLA_free_29 (Nat.le_of_ble_eq_true rfl) (Nat.le_of_ble_eq_true rfl)
  · refine zt_callV (n := 2) (As := [.int l1, .int l2]) (rest := [.int 0, .ref (g.2.1 658)]) ⟨hx, hb, hml, hown, hts⟩ (zy_TS_free l hl0 g A h) rfl rfl ⟨Nat.le_of_ble_eq_true rfl, Nat.le_of_ble_eq_true rfl⟩ zq_637 zq_1 zq_634 zq_635 zq_636 ⟨by decide, by decide, by decide +kernel⟩ rfl zl_0.1 zl_0.2 rfl hK hZ hP hS hl.1 rfl (Nat.le_of_ble_eq_true rfl) dLA_free_5 ⟨Nat.le_refl _, Nat.le_refl _⟩ (fun q H locs h => ?_)
    obtain ⟨E, ce, u, hkx, hP, hS, hce, hcv, hcl⟩ := h
    rcases hkx with ⟨rfl, h⟩ | ⟨rfl, h⟩
    · refine zl_catch (hp := 20) hce hcv (by obtain ⟨k9, h9, -⟩ := Vm.findClass_spec hcl; exact ⟨k9, h9⟩) (fun pl hpl => by rw [hE]; exact zl_hit hpl hown rfl (by decide) (hts _ zq_538) (hZ.here zl_c2) hcl rfl) ?_
      refine lv_astore hx hb dLA_free_20 hl (by decide) rfl (fun ls hl => ?_)
      have hl : lv_has ls 5 [(4, .ref q), (0, .ref (g.2.1 0)), (1, .int l1), (2, .int l2), (3, .ref (g.2.1 658))] := hl
      refine lv_iconst (v := 1) hx hb dLA_free_22 (by decide) ?_
      exact zl_iret hx hb hr hlk hP hS h dLA_free_23 (Nat.le_of_ble_eq_true rfl) (Nat.le_of_ble_eq_true rfl)
    · refine zl_catch (hp := 24) hce hcv (by obtain ⟨k9, h9, -⟩ := Vm.findClass_spec hcl; exact ⟨k9, h9⟩) (fun pl hpl => by rw [hE]; exact zl_miss hpl hown rfl (by decide) (hts _ zq_538) (hN _ (List.mem_of_getElem? (i := 4) rfl)) hcl (zl_hit hpl hown rfl (by decide) (hts _ zq_257) (hZ.here zl_c1) hcl rfl)) ?_
      refine lv_astore hx hb dLA_free_24 hl (by decide) rfl (fun ls hl => ?_)
      have hl : lv_has ls 5 [(4, .ref q), (0, .ref (g.2.1 0)), (1, .int l1), (2, .int l2), (3, .ref (g.2.1 658))] := hl
      refine lv_iconst (v := 2) hx hb dLA_free_26 (by decide) ?_
      exact zl_iret hx hb hr hlk hP hS h dLA_free_27 (Nat.le_of_ble_eq_true rfl) (Nat.le_of_ble_eq_true rfl)
set_option maxHeartbeats 4000000 in
set_option maxRecDepth 100000 in
theorem zc_LA_run (l : Launch) (hl0 : l.stackTraces = false) (g : zs_G) (A : Nat → Prop) {l1 l2 : Int32} {st : zs_T} {K : Int32 → zs_T → Prop} (h : zf_LA_run l1 l2 st K) : Met l yLA_run (.codeWith yLA_run cLA_run 5 (some .int) [(0, 10, 13, 13), (0, 10, 17, 15)] :: zs_tb) (zt_rm 9 147 1 6) (zl_Pc g A [.ref (g.2.1 0), .int l1, .int l2, .ref (g.2.1 658)] st) (zs_Qi g zs_ly zs_N A K) 1 6 A := by
  refine zl_met (cc := cLA_run) (maxL := 5) (ret := (some .int)) (hh := [(0, 10, 13, 13), (0, 10, 17, 15)]) (by decide) rfl (Nat.le_of_ble_eq_true rfl) (fun p e s m below meth c ls hML hl hP => ?_)
  obtain ⟨⟨hx, hb, hml, hr, hlk, hts, hown, hK⟩, hE, hZ, hN⟩ := id hML
  have hS : va_S A s.heap s.heap [] := va_S.rf
  have hl : lv_has ls 5 [(0, .ref (g.2.1 0)), (1, .int l1), (2, .int l2), (3, .ref (g.2.1 658))] := hl
  unfold zf_LA_run at h
  refine lv_aload_n hx hb dLA_run_0 rfl (lv_at hl 3 rfl) ?_
  refine lv_iconst (v := 0) hx hb dLA_run_1 (by decide) ?_
  refine lv_aload_n hx hb dLA_run_2 rfl (lv_at hl 0 rfl) ?_
  refine lv_iload_n hx hb dLA_run_3 rfl (lv_at hl 1 rfl) ?_
  refine lv_iload_n hx hb dLA_run_4 rfl (lv_at hl 2 rfl) ?_
  rcases h with h | h
  · refine zr_calli (va_runV (As := [.int l1, .int l2]) (rest := [.int 0, .ref (g.2.1 658)]) ⟨hx, hb, hml, hown, hts⟩ (zc_TS_run l g A  h) (cwV 2 hts (zs_gV zq_641 zq_642 zq_643 zq_1 zq_644) rfl rfl rfl ⟨rfl, by decide, by decide, by decide +kernel⟩ ⟨Nat.le_of_ble_eq_true rfl, Nat.le_of_ble_eq_true rfl⟩) (zs_preV zs_nwk hK hP zl_0.1 zl_0.2 rfl) rfl rfl hl.1 rfl (lv_room (Nat.le_of_ble_eq_true rfl)) dLA_run_5 ⟨Nat.zero_le _, Nat.zero_le _⟩) hS (fun r2 u1 H locs h hP hS => ?_)
    refine lv_i2l hx hb dLA_run_8 rfl ?_
    obtain ⟨hi3, h⟩ := h
    refine zr_last hx hb hK.1 hP hS zl_658.1 zl_658.2 hi3 dLA_run_9 (fun H locs hP hS => ?_)
    obtain ⟨t4, ez⟩ : ∃ tz : zs_T, tz = zs_l u1 658 (0 : Int32).toNatClampNeg r2.toInt64 := ⟨_, rfl⟩
    have h := h t4 ez
    have hP : zs_P g zs_ly zs_N A t4 H := by rw [ez]; exact hP
    clear ez
    refine lv_goto (tgt := 21) hx hb dLA_run_10 rfl ?_
    refine lv_iconst (v := 0) hx hb dLA_run_21 (by decide) ?_
    exact zl_iret hx hb hr hlk hP hS h dLA_run_22 (Nat.le_of_ble_eq_true rfl) (Nat.le_of_ble_eq_true rfl)
  · refine zt_callV (n := 2) (As := [.int l1, .int l2]) (rest := [.int 0, .ref (g.2.1 658)]) ⟨hx, hb, hml, hown, hts⟩ (zy_TS_run l hl0 g A h) rfl rfl ⟨Nat.le_of_ble_eq_true rfl, Nat.le_of_ble_eq_true rfl⟩ zq_644 zq_1 zq_641 zq_642 zq_643 ⟨by decide, by decide, by decide +kernel⟩ rfl zl_0.1 zl_0.2 rfl hK hZ hP hS hl.1 rfl (Nat.le_of_ble_eq_true rfl) dLA_run_5 ⟨Nat.le_refl _, Nat.le_refl _⟩ (fun q H locs h => ?_)
    obtain ⟨E, ce, u, hkx, hP, hS, hce, hcv, hcl⟩ := h
    rcases hkx with ⟨rfl, h⟩ | ⟨rfl, h⟩
    · refine zl_catch (hp := 13) hce hcv (by obtain ⟨k9, h9, -⟩ := Vm.findClass_spec hcl; exact ⟨k9, h9⟩) (fun pl hpl => by rw [hE]; exact zl_hit hpl hown rfl (by decide) (hts _ zq_256) (hZ.here zl_c0) hcl rfl) ?_
      refine lv_astore hx hb dLA_run_13 hl (by decide) rfl (fun ls hl => ?_)
      have hl : lv_has ls 5 [(4, .ref q), (0, .ref (g.2.1 0)), (1, .int l1), (2, .int l2), (3, .ref (g.2.1 658))] := hl
      refine lv_iconst (v := 1) hx hb dLA_run_15 (by decide) ?_
      exact zl_iret hx hb hr hlk hP hS h dLA_run_16 (Nat.le_of_ble_eq_true rfl) (Nat.le_of_ble_eq_true rfl)
    · refine zl_catch (hp := 17) hce hcv (by obtain ⟨k9, h9, -⟩ := Vm.findClass_spec hcl; exact ⟨k9, h9⟩) (fun pl hpl => by rw [hE]; exact zl_miss hpl hown rfl (by decide) (hts _ zq_256) (hN _ (List.mem_of_getElem? (i := 0) rfl)) hcl (zl_hit hpl hown rfl (by decide) (hts _ zq_257) (hZ.here zl_c1) hcl rfl)) ?_
      refine lv_astore hx hb dLA_run_17 hl (by decide) rfl (fun ls hl => ?_)
      have hl : lv_has ls 5 [(4, .ref q), (0, .ref (g.2.1 0)), (1, .int l1), (2, .int l2), (3, .ref (g.2.1 658))] := hl
      refine lv_iconst (v := 2) hx hb dLA_run_19 (by decide) ?_
      exact zl_iret hx hb hr hlk hP hS h dLA_run_20 (Nat.le_of_ble_eq_true rfl) (Nat.le_of_ble_eq_true rfl)
set_option maxHeartbeats 4000000 in
set_option maxRecDepth 100000 in
theorem zc_LA_print (l : Launch) (hl0 : l.stackTraces = false) (g : zs_G) (A : Nat → Prop) {l1 : Int32} {st : zs_T} {K : Int32 → zs_T → Prop} (h : zf_LA_print l1 st K) : Met l yLA_print (.codeWith yLA_print cLA_print 4 (some .int) [(0, 9, 12, 25)] :: zs_tb) (zt_rm 9 145 1 6) (zl_Pc g A [.ref (g.2.1 0), .int l1, .ref (g.2.1 658)] st) (zs_Qi g zs_ly zs_N A K) 1 6 A := by
  refine zl_met (cc := cLA_print) (maxL := 4) (ret := (some .int)) (hh := [(0, 9, 12, 25)]) (by decide) rfl (Nat.le_of_ble_eq_true rfl) (fun p e s m below meth c ls hML hl hP => ?_)
  obtain ⟨⟨hx, hb, hml, hr, hlk, hts, hown, hK⟩, hE, hZ, hN⟩ := id hML
  have hS : va_S A s.heap s.heap [] := va_S.rf
  have hl : lv_has ls 4 [(0, .ref (g.2.1 0)), (1, .int l1), (2, .ref (g.2.1 658))] := hl
  unfold zf_LA_print at h
  refine lv_aload_n hx hb dLA_print_0 rfl (lv_at hl 2 rfl) ?_
  refine lv_iconst (v := 0) hx hb dLA_print_1 (by decide) ?_
  refine lv_aload_n hx hb dLA_print_2 rfl (lv_at hl 0 rfl) ?_
  refine lv_iload_n hx hb dLA_print_3 rfl (lv_at hl 1 rfl) ?_
  rcases h with h | h
  · refine zr_calli (va_runV (As := [.int l1]) (rest := [.int 0, .ref (g.2.1 658)]) ⟨hx, hb, hml, hown, hts⟩ (zc_TS_print l g A  h) (cwV 1 hts (zs_gV zq_705 zq_706 zq_707 zq_1 zq_708) rfl rfl rfl ⟨rfl, by decide, by decide, by decide +kernel⟩ ⟨Nat.le_of_ble_eq_true rfl, Nat.le_of_ble_eq_true rfl⟩) (zs_preV zs_nwk hK hP zl_0.1 zl_0.2 rfl) rfl rfl hl.1 rfl (lv_room (Nat.le_of_ble_eq_true rfl)) dLA_print_4 ⟨Nat.zero_le _, Nat.zero_le _⟩) hS (fun r2 u1 H locs h hP hS => ?_)
    refine lv_i2l hx hb dLA_print_7 rfl ?_
    obtain ⟨hi3, h⟩ := h
    refine zr_last hx hb hK.1 hP hS zl_658.1 zl_658.2 hi3 dLA_print_8 (fun H locs hP hS => ?_)
    obtain ⟨t4, ez⟩ : ∃ tz : zs_T, tz = zs_l u1 658 (0 : Int32).toNatClampNeg r2.toInt64 := ⟨_, rfl⟩
    have h := h t4 ez
    have hP : zs_P g zs_ly zs_N A t4 H := by rw [ez]; exact hP
    clear ez
    refine lv_goto (tgt := 15) hx hb dLA_print_9 rfl ?_
    refine lv_iconst (v := 0) hx hb dLA_print_15 (by decide) ?_
    exact zl_iret hx hb hr hlk hP hS h dLA_print_16 (Nat.le_of_ble_eq_true rfl) (Nat.le_of_ble_eq_true rfl)
  · refine zt_callV (n := 1) (As := [.int l1]) (rest := [.int 0, .ref (g.2.1 658)]) ⟨hx, hb, hml, hown, hts⟩ (zy_TS_print l hl0 g A h) rfl rfl ⟨Nat.le_of_ble_eq_true rfl, Nat.le_of_ble_eq_true rfl⟩ zq_708 zq_1 zq_705 zq_706 zq_707 ⟨by decide, by decide, by decide +kernel⟩ rfl zl_0.1 zl_0.2 rfl hK hZ hP hS hl.1 rfl (Nat.le_of_ble_eq_true rfl) dLA_print_4 ⟨Nat.le_refl _, Nat.le_refl _⟩ (fun q H locs h => ?_)
    obtain ⟨E, ce, u, hkx, hP, hS, hce, hcv, hcl⟩ := h
    obtain ⟨rfl, h⟩ := hkx
    refine zl_catch (hp := 12) hce hcv (by obtain ⟨k9, h9, -⟩ := Vm.findClass_spec hcl; exact ⟨k9, h9⟩) (fun pl hpl => by rw [hE]; exact zl_hit hpl hown rfl (by decide) (hts _ zq_538) (hZ.here zl_c2) hcl rfl) ?_
    refine lv_astore_n hx hb dLA_print_12 rfl hl (by decide) rfl (fun ls hl => ?_)
    have hl : lv_has ls 4 [(3, .ref q), (0, .ref (g.2.1 0)), (1, .int l1), (2, .ref (g.2.1 658))] := hl
    refine lv_iconst (v := 1) hx hb dLA_print_13 (by decide) ?_
    exact zl_iret hx hb hr hlk hP hS h dLA_print_14 (Nat.le_of_ble_eq_true rfl) (Nat.le_of_ble_eq_true rfl)
set_option maxHeartbeats 4000000 in
set_option maxRecDepth 100000 in
theorem zc_LA_cell (l : Launch) (hl0 : l.stackTraces = false) (g : zs_G) (A : Nat → Prop) {l1 l2 l3 : Int32} {st : zs_T} {K : Int32 → zs_T → Prop} (h : zf_LA_cell l1 l2 l3 st K) : Met l yLA_cell (.codeWith yLA_cell cLA_cell 6 (some .int) [(0, 12, 15, 25), (0, 12, 19, 13)] :: zs_tb) (zt_rm 9 147 1 6) (zl_Pc g A [.ref (g.2.1 0), .int l1, .int l2, .int l3, .ref (g.2.1 658)] st) (zs_Qi g zs_ly zs_N A K) 1 6 A := by
  refine zl_met (cc := cLA_cell) (maxL := 6) (ret := (some .int)) (hh := [(0, 12, 15, 25), (0, 12, 19, 13)]) (by decide) rfl (Nat.le_of_ble_eq_true rfl) (fun p e s m below meth c ls hML hl hP => ?_)
  obtain ⟨⟨hx, hb, hml, hr, hlk, hts, hown, hK⟩, hE, hZ, hN⟩ := id hML
  have hS : va_S A s.heap s.heap [] := va_S.rf
  have hl : lv_has ls 6 [(0, .ref (g.2.1 0)), (1, .int l1), (2, .int l2), (3, .int l3), (4, .ref (g.2.1 658))] := hl
  unfold zf_LA_cell at h
  refine lv_aload hx hb dLA_cell_0 (lv_at hl 4 rfl) ?_
  refine lv_iconst (v := 0) hx hb dLA_cell_2 (by decide) ?_
  refine lv_aload_n hx hb dLA_cell_3 rfl (lv_at hl 0 rfl) ?_
  refine lv_iload_n hx hb dLA_cell_4 rfl (lv_at hl 1 rfl) ?_
  refine lv_iload_n hx hb dLA_cell_5 rfl (lv_at hl 2 rfl) ?_
  refine lv_iload_n hx hb dLA_cell_6 rfl (lv_at hl 3 rfl) ?_
  rcases h with h | h
  · refine zr_calli (va_runV (As := [.int l1, .int l2, .int l3]) (rest := [.int 0, .ref (g.2.1 658)]) ⟨hx, hb, hml, hown, hts⟩ (zc_TS_cell l g A  h) (cwV 3 hts (zs_gV zq_712 zq_713 zq_714 zq_1 zq_715) rfl rfl rfl ⟨rfl, by decide, by decide, by decide +kernel⟩ ⟨Nat.le_of_ble_eq_true rfl, Nat.le_of_ble_eq_true rfl⟩) (zs_preV zs_nwk hK hP zl_0.1 zl_0.2 rfl) rfl rfl hl.1 rfl (lv_room (Nat.le_of_ble_eq_true rfl)) dLA_cell_7 ⟨Nat.zero_le _, Nat.zero_le _⟩) hS (fun r2 u1 H locs h hP hS => ?_)
    refine lv_i2l hx hb dLA_cell_10 rfl ?_
    obtain ⟨hi3, h⟩ := h
    refine zr_last hx hb hK.1 hP hS zl_658.1 zl_658.2 hi3 dLA_cell_11 (fun H locs hP hS => ?_)
    obtain ⟨t4, ez⟩ : ∃ tz : zs_T, tz = zs_l u1 658 (0 : Int32).toNatClampNeg r2.toInt64 := ⟨_, rfl⟩
    have h := h t4 ez
    have hP : zs_P g zs_ly zs_N A t4 H := by rw [ez]; exact hP
    clear ez
    refine lv_goto (tgt := 23) hx hb dLA_cell_12 rfl ?_
    refine lv_iconst (v := 0) hx hb dLA_cell_23 (by decide) ?_
    exact zl_iret hx hb hr hlk hP hS h dLA_cell_24 (Nat.le_of_ble_eq_true rfl) (Nat.le_of_ble_eq_true rfl)
  · refine zt_callV (n := 3) (As := [.int l1, .int l2, .int l3]) (rest := [.int 0, .ref (g.2.1 658)]) ⟨hx, hb, hml, hown, hts⟩ (zy_TS_cell l hl0 g A h) rfl rfl ⟨Nat.le_of_ble_eq_true rfl, Nat.le_of_ble_eq_true rfl⟩ zq_715 zq_1 zq_712 zq_713 zq_714 ⟨by decide, by decide, by decide +kernel⟩ rfl zl_0.1 zl_0.2 rfl hK hZ hP hS hl.1 rfl (Nat.le_of_ble_eq_true rfl) dLA_cell_7 ⟨Nat.le_refl _, Nat.le_refl _⟩ (fun q H locs h => ?_)
    obtain ⟨E, ce, u, hkx, hP, hS, hce, hcv, hcl⟩ := h
    rcases hkx with ⟨rfl, h⟩ | ⟨rfl, h⟩
    · refine zl_catch (hp := 15) hce hcv (by obtain ⟨k9, h9, -⟩ := Vm.findClass_spec hcl; exact ⟨k9, h9⟩) (fun pl hpl => by rw [hE]; exact zl_hit hpl hown rfl (by decide) (hts _ zq_538) (hZ.here zl_c2) hcl rfl) ?_
      refine lv_astore hx hb dLA_cell_15 hl (by decide) rfl (fun ls hl => ?_)
      have hl : lv_has ls 6 [(5, .ref q), (0, .ref (g.2.1 0)), (1, .int l1), (2, .int l2), (3, .int l3), (4, .ref (g.2.1 658))] := hl
      refine lv_iconst (v := 1) hx hb dLA_cell_17 (by decide) ?_
      exact zl_iret hx hb hr hlk hP hS h dLA_cell_18 (Nat.le_of_ble_eq_true rfl) (Nat.le_of_ble_eq_true rfl)
    · refine zl_catch (hp := 19) hce hcv (by obtain ⟨k9, h9, -⟩ := Vm.findClass_spec hcl; exact ⟨k9, h9⟩) (fun pl hpl => by rw [hE]; exact zl_miss hpl hown rfl (by decide) (hts _ zq_538) (hN _ (List.mem_of_getElem? (i := 1) rfl)) hcl (zl_hit hpl hown rfl (by decide) (hts _ zq_256) (hZ.here zl_c0) hcl rfl)) ?_
      refine lv_astore hx hb dLA_cell_19 hl (by decide) rfl (fun ls hl => ?_)
      have hl : lv_has ls 6 [(5, .ref q), (0, .ref (g.2.1 0)), (1, .int l1), (2, .int l2), (3, .int l3), (4, .ref (g.2.1 658))] := hl
      refine lv_iconst (v := 2) hx hb dLA_cell_21 (by decide) ?_
      exact zl_iret hx hb hr hlk hP hS h dLA_cell_22 (Nat.le_of_ble_eq_true rfl) (Nat.le_of_ble_eq_true rfl)
