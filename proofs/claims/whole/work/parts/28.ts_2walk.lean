section ZW
variable {p : Program} {l : Launch} {e : Env} {s : State} {m : MethodId} {args : Array Value} {below : List Frame} {meth : Method} {c : Code} {g : zs_G} {A : Nat → Prop}
set_option maxHeartbeats 4000000 in
set_option maxRecDepth 100000 in
theorem zc_TS_isInstruction (l : Launch) (g : zs_G) (A : Nat → Prop) {l1 : Int32}  {st : zs_T} {K : Int32 → zs_T → Prop} (h : zf_TS_isInstruction l1 st K) : Met l yTS_isInstruction (.code yTS_isInstruction cTS_isInstruction 2 (some .boolean) :: zs_tb) (zs_rm 0 0) (zs_Pc zs_nl g zs_ly zs_N A [.ref (g.2.1 0), .int l1] st) (zs_Qi g zs_ly zs_N A K) 0 0 A := by
  refine zs_met (cc := cTS_isInstruction) (maxL := 2) (ret := (some .boolean)) (by decide) (Nat.le_of_ble_eq_true rfl) (fun p e s m below meth c hM => ?_)
  have hM : zs_M p c cTS_isInstruction 2 s m meth [.ref (g.2.1 0), .int l1].toArray "ThriftyStores" (some .boolean) g := hM
  obtain ⟨hx, hb, hml, hr, hlk, hts, hown, hK⟩ := id hM
  intro ls H locs hl hP hS
  have hl : lv_has ls 2 [(0, .ref (g.2.1 0)), (1, .int l1)] := hl
  unfold zf_TS_isInstruction at h
  refine lv_iload_n hx hb dTS_isInstruction_0 rfl (lv_at hl 1 rfl) ?_
  refine lv_if_lt (tgt := 19) hx hb dTS_isInstruction_1 rfl (fun hc => ?_) (fun hc => ?_)
  · have h := h.1 hc
    clear hc
    refine lv_iconst (v := 0) hx hb dTS_isInstruction_19 (by decide) ?_
    exact zr_zret hx hb hr hlk hP hS rfl h dTS_isInstruction_20
  · have h := h.2 hc
    clear hc
    refine lv_iload_n hx hb dTS_isInstruction_4 rfl (lv_at hl 1 rfl) ?_
    refine lv_aload_n hx hb dTS_isInstruction_5 rfl (lv_at hl 0 rfl) ?_
    refine zr_getr (b := 1) hx hb hts zi_TS hown hK.1 hP zl_0.1 zl_0.2 rfl 0 (by decide) rfl (hts _ zq_201) dTS_isInstruction_6 ?_
    refine zr_geti hx hb hts zi_PR hown hK.1 hP zs_Pr_1.1.1 zs_Pr_1.1.2 rfl 4 (by decide) rfl (hts _ zq_57) dTS_isInstruction_9 ?_
    refine lv_icmp_ge (tgt := 19) hx hb dTS_isInstruction_12 rfl (fun hc => ?_) (fun hc => ?_)
    · have h := h.1 hc
      clear hc
      refine lv_iconst (v := 0) hx hb dTS_isInstruction_19 (by decide) ?_
      exact zr_zret hx hb hr hlk hP hS rfl h dTS_isInstruction_20
    · have h := h.2 hc
      clear hc
      refine lv_iconst (v := 1) hx hb dTS_isInstruction_15 (by decide) ?_
      refine lv_goto (tgt := 20) hx hb dTS_isInstruction_16 rfl ?_
      exact zr_zret hx hb hr hlk hP hS rfl h dTS_isInstruction_20
set_option maxHeartbeats 4000000 in
set_option maxRecDepth 100000 in
theorem zc_TS_isPoint (l : Launch) (g : zs_G) (A : Nat → Prop) {l1 : Int32}  {st : zs_T} {K : Int32 → zs_T → Prop} (h : zf_TS_isPoint l1 st K) : Met l yTS_isPoint (.code yTS_isPoint cTS_isPoint 2 (some .boolean) :: zs_tb) (zs_rm 0 0) (zs_Pc zs_nl g zs_ly zs_N A [.ref (g.2.1 0), .int l1] st) (zs_Qi g zs_ly zs_N A K) 0 0 A := by
  refine zs_met (cc := cTS_isPoint) (maxL := 2) (ret := (some .boolean)) (by decide) (Nat.le_of_ble_eq_true rfl) (fun p e s m below meth c hM => ?_)
  have hM : zs_M p c cTS_isPoint 2 s m meth [.ref (g.2.1 0), .int l1].toArray "ThriftyStores" (some .boolean) g := hM
  obtain ⟨hx, hb, hml, hr, hlk, hts, hown, hK⟩ := id hM
  intro ls H locs hl hP hS
  have hl : lv_has ls 2 [(0, .ref (g.2.1 0)), (1, .int l1)] := hl
  unfold zf_TS_isPoint at h
  refine lv_iload_n hx hb dTS_isPoint_0 rfl (lv_at hl 1 rfl) ?_
  refine lv_if_lt (tgt := 19) hx hb dTS_isPoint_1 rfl (fun hc => ?_) (fun hc => ?_)
  · have h := h.1 hc
    clear hc
    refine lv_iconst (v := 0) hx hb dTS_isPoint_19 (by decide) ?_
    exact zr_zret hx hb hr hlk hP hS rfl h dTS_isPoint_20
  · have h := h.2 hc
    clear hc
    refine lv_iload_n hx hb dTS_isPoint_4 rfl (lv_at hl 1 rfl) ?_
    refine lv_aload_n hx hb dTS_isPoint_5 rfl (lv_at hl 0 rfl) ?_
    refine zr_getr (b := 1) hx hb hts zi_TS hown hK.1 hP zl_0.1 zl_0.2 rfl 0 (by decide) rfl (hts _ zq_201) dTS_isPoint_6 ?_
    refine zr_geti hx hb hts zi_PR hown hK.1 hP zs_Pr_1.1.1 zs_Pr_1.1.2 rfl 4 (by decide) rfl (hts _ zq_57) dTS_isPoint_9 ?_
    refine lv_icmp_gt (tgt := 19) hx hb dTS_isPoint_12 rfl (fun hc => ?_) (fun hc => ?_)
    · have h := h.1 hc
      clear hc
      refine lv_iconst (v := 0) hx hb dTS_isPoint_19 (by decide) ?_
      exact zr_zret hx hb hr hlk hP hS rfl h dTS_isPoint_20
    · have h := h.2 hc
      clear hc
      refine lv_iconst (v := 1) hx hb dTS_isPoint_15 (by decide) ?_
      refine lv_goto (tgt := 20) hx hb dTS_isPoint_16 rfl ?_
      exact zr_zret hx hb hr hlk hP hS rfl h dTS_isPoint_20
set_option maxHeartbeats 4000000 in
set_option maxRecDepth 100000 in
theorem zc_TS_clear (l : Launch) (g : zs_G) (A : Nat → Prop)   {st : zs_T} {K : Int32 → zs_T → Prop} (h : zf_TS_clear  st K) : Met l yTS_clear (.code yTS_clear cTS_clear 2 (some .int) :: zs_tb) (zs_rm 0 0) (zs_Pc zs_nl g zs_ly zs_N A [.ref (g.2.1 0)] st) (zs_Qi g zs_ly zs_N A K) 0 0 A := by
  refine zs_met (cc := cTS_clear) (maxL := 2) (ret := (some .int)) (by decide) (Nat.le_of_ble_eq_true rfl) (fun p e s m below meth c hM => ?_)
  have hM : zs_M p c cTS_clear 2 s m meth [.ref (g.2.1 0)].toArray "ThriftyStores" (some .int) g := hM
  obtain ⟨hx, hb, hml, hr, hlk, hts, hown, hK⟩ := id hM
  intro ls H locs hl hP hS
  have hl : lv_has ls 2 [(0, .ref (g.2.1 0))] := hl
  unfold zf_TS_clear at h
  refine lv_aload_n hx hb dTS_clear_0 rfl (lv_at hl 0 rfl) ?_
  refine zr_getr (b := 1) hx hb hts zi_TS hown hK.1 hP zl_0.1 zl_0.2 rfl 0 (by decide) rfl (hts _ zq_201) dTS_clear_1 ?_
  refine zr_geti hx hb hts zi_PR hown hK.1 hP zs_Pr_1.1.1 zs_Pr_1.1.2 rfl 4 (by decide) rfl (hts _ zq_57) dTS_clear_4 ?_
  refine lv_istore_n hx hb dTS_clear_7 rfl hl (by decide) rfl (fun ls hl => ?_)
  have hl : lv_has ls 2 [(1, .int (st.1 1 4)), (0, .ref (g.2.1 0))] := hl
  refine lv_aload_n hx hb dTS_clear_8 rfl (lv_at hl 1 rfl) ?_
  refine zr_getr (b := 1) hx hb hts zi_TS hown hK.1 hP zl_0.1 zl_0.2 rfl 0 (by decide) rfl (hts _ zq_201) dTS_clear_9 ?_
  refine lv_iconst (v := 0) hx hb dTS_clear_12 (by decide) ?_
  refine zr_put hx hb hts zi_PR tyPR tyPR_ok nmPR hown hK.1 hP hS zs_Pr_1.1.1 zs_Pr_1.1.2 rfl 4 (by decide) rfl (hts _ zq_57) rfl rfl rfl dTS_clear_13 (fun H locs hP hS => ?_)
  obtain ⟨t1, ez⟩ : ∃ tz : zs_T, tz = zs_i st 1 4 0 := ⟨_, rfl⟩
  have h := h t1 ez
  have hP : zs_P g zs_ly zs_N A t1 H := by rw [ez]; exact hP
  clear ez
  refine lv_aload_n hx hb dTS_clear_16 rfl (lv_at hl 1 rfl) ?_
  refine lv_iconst (v := 0) hx hb dTS_clear_17 (by decide) ?_
  refine zr_put hx hb hts zi_TS tyTS tyTS_ok nmTS hown hK.1 hP hS zl_0.1 zl_0.2 rfl 7 (by decide) rfl (hts _ zq_208) rfl rfl rfl dTS_clear_18 (fun H locs hP hS => ?_)
  obtain ⟨t2, ez⟩ : ∃ tz : zs_T, tz = zs_i t1 0 7 0 := ⟨_, rfl⟩
  have h := h t2 ez
  have hP : zs_P g zs_ly zs_N A t2 H := by rw [ez]; exact hP
  clear ez
  refine lv_iload_n hx hb dTS_clear_21 rfl (lv_at hl 0 rfl) ?_
  exact zr_iret hx hb hr hlk hP hS h dTS_clear_22
set_option maxHeartbeats 4000000 in
set_option maxRecDepth 100000 in
theorem zc_TS_size (l : Launch) (g : zs_G) (A : Nat → Prop)   {st : zs_T} {K : Int32 → zs_T → Prop} (h : zf_TS_size  st K) : Met l yTS_size (.code yTS_size cTS_size 1 (some .int) :: zs_tb) (zs_rm 0 0) (zs_Pc zs_nl g zs_ly zs_N A [.ref (g.2.1 0)] st) (zs_Qi g zs_ly zs_N A K) 0 0 A := by
  refine zs_met (cc := cTS_size) (maxL := 1) (ret := (some .int)) (by decide) (Nat.le_of_ble_eq_true rfl) (fun p e s m below meth c hM => ?_)
  have hM : zs_M p c cTS_size 1 s m meth [.ref (g.2.1 0)].toArray "ThriftyStores" (some .int) g := hM
  obtain ⟨hx, hb, hml, hr, hlk, hts, hown, hK⟩ := id hM
  intro ls H locs hl hP hS
  have hl : lv_has ls 1 [(0, .ref (g.2.1 0))] := hl
  unfold zf_TS_size at h
  refine lv_aload_n hx hb dTS_size_0 rfl (lv_at hl 0 rfl) ?_
  refine zr_getr (b := 1) hx hb hts zi_TS hown hK.1 hP zl_0.1 zl_0.2 rfl 0 (by decide) rfl (hts _ zq_201) dTS_size_1 ?_
  refine zr_geti hx hb hts zi_PR hown hK.1 hP zs_Pr_1.1.1 zs_Pr_1.1.2 rfl 4 (by decide) rfl (hts _ zq_57) dTS_size_4 ?_
  exact zr_iret hx hb hr hlk hP hS h dTS_size_7
set_option maxHeartbeats 4000000 in
set_option maxRecDepth 100000 in
theorem zc_TS_steps (l : Launch) (g : zs_G) (A : Nat → Prop)   {st : zs_T} {K : Int32 → zs_T → Prop} (h : zf_TS_steps  st K) : Met l yTS_steps (.code yTS_steps cTS_steps 1 (some .int) :: zs_tb) (zs_rm 0 0) (zs_Pc zs_nl g zs_ly zs_N A [.ref (g.2.1 0)] st) (zs_Qi g zs_ly zs_N A K) 0 0 A := by
  refine zs_met (cc := cTS_steps) (maxL := 1) (ret := (some .int)) (by decide) (Nat.le_of_ble_eq_true rfl) (fun p e s m below meth c hM => ?_)
  have hM : zs_M p c cTS_steps 1 s m meth [.ref (g.2.1 0)].toArray "ThriftyStores" (some .int) g := hM
  obtain ⟨hx, hb, hml, hr, hlk, hts, hown, hK⟩ := id hM
  intro ls H locs hl hP hS
  have hl : lv_has ls 1 [(0, .ref (g.2.1 0))] := hl
  unfold zf_TS_steps at h
  refine lv_aload_n hx hb dTS_steps_0 rfl (lv_at hl 0 rfl) ?_
  refine zr_getr (b := 629) hx hb hts zi_TS hown hK.1 hP zl_0.1 zl_0.2 rfl 6 (by decide) rfl (hts _ zq_207) dTS_steps_1 ?_
  refine zr_geti hx hb hts zi_MA hown hK.1 hP zl_629.1 zl_629.2 rfl 10 (by decide) rfl (hts _ zq_177) dTS_steps_4 ?_
  exact zr_iret hx hb hr hlk hP hS h dTS_steps_7
set_option maxHeartbeats 4000000 in
set_option maxRecDepth 100000 in
theorem zc_TS_printed (l : Launch) (g : zs_G) (A : Nat → Prop)   {st : zs_T} {K : Int32 → zs_T → Prop} (h : zf_TS_printed  st K) : Met l yTS_printed (.code yTS_printed cTS_printed 1 (some .int) :: zs_tb) (zs_rm 0 0) (zs_Pc zs_nl g zs_ly zs_N A [.ref (g.2.1 0)] st) (zs_Qi g zs_ly zs_N A K) 0 0 A := by
  refine zs_met (cc := cTS_printed) (maxL := 1) (ret := (some .int)) (by decide) (Nat.le_of_ble_eq_true rfl) (fun p e s m below meth c hM => ?_)
  have hM : zs_M p c cTS_printed 1 s m meth [.ref (g.2.1 0)].toArray "ThriftyStores" (some .int) g := hM
  obtain ⟨hx, hb, hml, hr, hlk, hts, hown, hK⟩ := id hM
  intro ls H locs hl hP hS
  have hl : lv_has ls 1 [(0, .ref (g.2.1 0))] := hl
  unfold zf_TS_printed at h
  refine lv_aload_n hx hb dTS_printed_0 rfl (lv_at hl 0 rfl) ?_
  refine zr_getr (b := 629) hx hb hts zi_TS hown hK.1 hP zl_0.1 zl_0.2 rfl 6 (by decide) rfl (hts _ zq_207) dTS_printed_1 ?_
  refine zr_geti hx hb hts zi_MA hown hK.1 hP zl_629.1 zl_629.2 rfl 9 (by decide) rfl (hts _ zq_175) dTS_printed_4 ?_
  exact zr_iret hx hb hr hlk hP hS h dTS_printed_7
set_option maxHeartbeats 4000000 in
set_option maxRecDepth 100000 in
theorem zc_TS_kept (l : Launch) (g : zs_G) (A : Nat → Prop)   {st : zs_T} {K : Int32 → zs_T → Prop} (h : zf_TS_kept  st K) : Met l yTS_kept (.code yTS_kept cTS_kept 1 (some .int) :: zs_tb) (zs_rm 1 20) (zs_Pc zs_nl g zs_ly zs_N A [.ref (g.2.1 0)] st) (zs_Qi g zs_ly zs_N A K) 0 0 A := by
  refine zs_met (cc := cTS_kept) (maxL := 1) (ret := (some .int)) (by decide) (Nat.le_of_ble_eq_true rfl) (fun p e s m below meth c hM => ?_)
  have hM : zs_M p c cTS_kept 1 s m meth [.ref (g.2.1 0)].toArray "ThriftyStores" (some .int) g := hM
  obtain ⟨hx, hb, hml, hr, hlk, hts, hown, hK⟩ := id hM
  intro ls H locs hl hP hS
  have hl : lv_has ls 1 [(0, .ref (g.2.1 0))] := hl
  unfold zf_TS_kept at h
  refine lv_aload_n hx hb dTS_kept_0 rfl (lv_at hl 0 rfl) ?_
  refine zr_getr (b := 629) hx hb hts zi_TS hown hK.1 hP zl_0.1 zl_0.2 rfl 6 (by decide) rfl (hts _ zq_207) dTS_kept_1 ?_
  refine zr_calli (va_runV (As := []) (rest := []) ⟨hx, hb, hml, hown, hts⟩ (zc_MA_objectsKept l g A  h) (cwV 0 hts (zs_gV zq_249 zq_250 zq_251 zq_7 zq_252) rfl rfl rfl ⟨rfl, by decide, by decide, by decide +kernel⟩ ⟨Nat.le_of_ble_eq_true rfl, Nat.le_of_ble_eq_true rfl⟩) (zs_preV zs_nwk hK hP zl_629.1 zl_629.2 rfl) rfl rfl hl.1 rfl (lv_room (Nat.le_of_ble_eq_true rfl)) dTS_kept_4 ⟨Nat.le_refl _, Nat.le_refl _⟩) hS (fun r2 u1 H locs h hP hS => ?_)
  exact zr_iret hx hb hr hlk hP hS h dTS_kept_7
set_option maxHeartbeats 4000000 in
set_option maxRecDepth 100000 in
theorem zc_TS_lookThrough (l : Launch) (g : zs_G) (A : Nat → Prop) {d1 : Nat} (hd1 : zs_Pr d1) {st : zs_T} {K : zs_T → Prop} (h : zf_TS_lookThrough d1 st K) : Met l yTS_lookThrough (.code yTS_lookThrough cTS_lookThrough 2 none :: zs_tb) (zs_rm 4 104) (zs_Pc zs_nl g zs_ly zs_N A [.ref (g.2.1 0), .ref (g.2.1 d1)] st) (zs_Qv g zs_ly zs_N A K) 0 0 A := by
  refine zs_met (cc := cTS_lookThrough) (maxL := 2) (ret := none) (by decide) (Nat.le_of_ble_eq_true rfl) (fun p e s m below meth c hM => ?_)
  have hM : zs_M p c cTS_lookThrough 2 s m meth [.ref (g.2.1 0), .ref (g.2.1 d1)].toArray "ThriftyStores" none g := hM
  obtain ⟨hx, hb, hml, hr, hlk, hts, hown, hK⟩ := id hM
  intro ls H locs hl hP hS
  have hl : lv_has ls 2 [(0, .ref (g.2.1 0)), (1, .ref (g.2.1 d1))] := hl
  unfold zf_TS_lookThrough at h
  refine lv_aload_n hx hb dTS_lookThrough_0 rfl (lv_at hl 0 rfl) ?_
  refine zr_getr (b := 12) hx hb hts zi_TS hown hK.1 hP zl_0.1 zl_0.2 rfl 3 (by decide) rfl (hts _ zq_204) dTS_lookThrough_1 ?_
  refine lv_aload_n hx hb dTS_lookThrough_4 rfl (lv_at hl 1 rfl) ?_
  refine zr_callv (va_runV (As := [.ref (g.2.1 d1)]) (rest := []) ⟨hx, hb, hml, hown, hts⟩ (zc_AD_find l g A hd1 h) (cwV 1 hts (zs_gV zq_385 zq_386 zq_387 zq_3 zq_388) rfl rfl rfl ⟨rfl, by decide, by decide, by decide +kernel⟩ ⟨Nat.le_of_ble_eq_true rfl, Nat.le_of_ble_eq_true rfl⟩) (zs_preV zs_nwk hK hP zl_12.1 zl_12.2 rfl) rfl rfl hl.1 rfl (lv_room (Nat.le_of_ble_eq_true rfl)) dTS_lookThrough_5 ⟨Nat.le_refl _, Nat.le_refl _⟩) hS (fun u1 H locs h hP hS => ?_)
  refine lv_aload_n hx hb dTS_lookThrough_8 rfl (lv_at hl 0 rfl) ?_
  refine zr_getr (b := 17) hx hb hts zi_TS hown hK.1 hP zl_0.1 zl_0.2 rfl 4 (by decide) rfl (hts _ zq_205) dTS_lookThrough_9 ?_
  refine lv_aload_n hx hb dTS_lookThrough_12 rfl (lv_at hl 1 rfl) ?_
  refine lv_aload_n hx hb dTS_lookThrough_13 rfl (lv_at hl 0 rfl) ?_
  refine zr_getr (b := 12) hx hb hts zi_TS hown hK.1 hP zl_0.1 zl_0.2 rfl 3 (by decide) rfl (hts _ zq_204) dTS_lookThrough_14 ?_
  refine zr_callv (va_runV (As := [.ref (g.2.1 d1), .ref (g.2.1 12)]) (rest := []) ⟨hx, hb, hml, hown, hts⟩ (zc_KN_find l g A hd1 h) (cwV 2 hts (zs_gV zq_436 zq_437 zq_438 zq_4 zq_439) rfl rfl rfl ⟨rfl, by decide, by decide, by decide +kernel⟩ ⟨Nat.le_of_ble_eq_true rfl, Nat.le_of_ble_eq_true rfl⟩) (zs_preV zs_nwk hK hP zl_17.1 zl_17.2 rfl) rfl rfl hl.1 rfl (lv_room (Nat.le_of_ble_eq_true rfl)) dTS_lookThrough_17 ⟨Nat.le_refl _, Nat.le_refl _⟩) hS (fun u2 H locs h hP hS => ?_)
  refine lv_aload_n hx hb dTS_lookThrough_20 rfl (lv_at hl 0 rfl) ?_
  refine zr_getr (b := 627) hx hb hts zi_TS hown hK.1 hP zl_0.1 zl_0.2 rfl 5 (by decide) rfl (hts _ zq_206) dTS_lookThrough_21 ?_
  refine lv_aload_n hx hb dTS_lookThrough_24 rfl (lv_at hl 1 rfl) ?_
  refine lv_aload_n hx hb dTS_lookThrough_25 rfl (lv_at hl 0 rfl) ?_
  refine zr_getr (b := 12) hx hb hts zi_TS hown hK.1 hP zl_0.1 zl_0.2 rfl 3 (by decide) rfl (hts _ zq_204) dTS_lookThrough_26 ?_
  refine lv_aload_n hx hb dTS_lookThrough_29 rfl (lv_at hl 0 rfl) ?_
  refine zr_getr (b := 17) hx hb hts zi_TS hown hK.1 hP zl_0.1 zl_0.2 rfl 4 (by decide) rfl (hts _ zq_205) dTS_lookThrough_30 ?_
  refine zr_callv (va_runV (As := [.ref (g.2.1 d1), .ref (g.2.1 12), .ref (g.2.1 17)]) (rest := []) ⟨hx, hb, hml, hown, hts⟩ (zc_FR_find l g A hd1 h) (cwV 3 hts (zs_gV zq_498 zq_499 zq_500 zq_6 zq_501) rfl rfl rfl ⟨rfl, by decide, by decide, by decide +kernel⟩ ⟨Nat.le_of_ble_eq_true rfl, Nat.le_of_ble_eq_true rfl⟩) (zs_preV zs_nwk hK hP zl_627.1 zl_627.2 rfl) rfl rfl hl.1 rfl (lv_room (Nat.le_of_ble_eq_true rfl)) dTS_lookThrough_33 ⟨Nat.le_refl _, Nat.le_refl _⟩) hS (fun u3 H locs h hP hS => ?_)
  exact zr_vret hx hb hr hlk hP hS h dTS_lookThrough_36
set_option maxHeartbeats 4000000 in
set_option maxRecDepth 100000 in
theorem zw_TS_dropWhatIsKnown_163 (hM : zs_M p c cTS_dropWhatIsKnown 7 s m meth args "ThriftyStores" (some .int) g)   {K : Int32 → zs_T → Prop} {B4 : Int32 → Int32 → zs_T → Prop} (hB4 : ∀ (l1 : Int32) (l2 : Int32) (st : zs_T), B4 l1 l2 st → zs_Go p l e (zs_rm 1 24) s m args below meth c g A (MQ below (zs_Qi g zs_ly zs_N A K) args s 0 0 A) 7 4 [(0, .ref (g.2.1 0)), (1, .int l1), (2, .int l2)] [] st) (l1 : Int32) (l2 : Int32) (st : zs_T) (h : zf_TS_dropWhatIsKnown_163 K B4 l1 l2 st) : zs_Go p l e (zs_rm 1 24) s m args below meth c g A (MQ below (zs_Qi g zs_ly zs_N A K) args s 0 0 A) 7 163 [(0, .ref (g.2.1 0)), (1, .int l1), (2, .int l2)] [] st := by
  obtain ⟨hx, hb, hml, hr, hlk, hts, hown, hK⟩ := id hM
  intro ls H locs hl hP hS
  unfold zf_TS_dropWhatIsKnown_163 at h
  refine lv_iinc (k := 2) (v := l2 + 1) hx hb dTS_dropWhatIsKnown_163 hl rfl (by rw [show Int32.ofInt (1) = 1 from by decide]) (by decide) rfl (fun ls hl => ?_)
  have hl : lv_has ls 7 [(2, .int (l2 + 1)), (0, .ref (g.2.1 0)), (1, .int l1)] := hl
  refine lv_goto (tgt := 4) hx hb dTS_dropWhatIsKnown_166 rfl ?_
  exact hB4 l1 (l2 + 1) st h ls H locs (lv_sub hl [1, 2, 0] rfl) hP hS
set_option maxHeartbeats 4000000 in
set_option maxRecDepth 100000 in
theorem zw_TS_dropWhatIsKnown_122 (hM : zs_M p c cTS_dropWhatIsKnown 7 s m meth args "ThriftyStores" (some .int) g)   {K : Int32 → zs_T → Prop} {B4 : Int32 → Int32 → zs_T → Prop} (hB4 : ∀ (l1 : Int32) (l2 : Int32) (st : zs_T), B4 l1 l2 st → zs_Go p l e (zs_rm 1 24) s m args below meth c g A (MQ below (zs_Qi g zs_ly zs_N A K) args s 0 0 A) 7 4 [(0, .ref (g.2.1 0)), (1, .int l1), (2, .int l2)] [] st) (l1 : Int32) (l2 : Int32) (l3 : Int32) (l4 : Int32) (l5 : Int32) (st : zs_T) (h : zf_TS_dropWhatIsKnown_122 K B4 l1 l2 l3 l4 l5 st) : zs_Go p l e (zs_rm 1 24) s m args below meth c g A (MQ below (zs_Qi g zs_ly zs_N A K) args s 0 0 A) 7 122 [(0, .ref (g.2.1 0)), (1, .int l1), (2, .int l2), (3, .int l3), (4, .int l4), (5, .int l5), (6, .ref (g.2.1 (24 + 3 * l2.toNatClampNeg + 2)))] [] st := by
  obtain ⟨hx, hb, hml, hr, hlk, hts, hown, hK⟩ := id hM
  intro ls H locs hl hP hS
  unfold zf_TS_dropWhatIsKnown_122 at h
  obtain ⟨hkb0, h⟩ := h
  refine lv_iload_n hx hb dTS_dropWhatIsKnown_122 rfl (lv_at hl 3 rfl) ?_
  refine lv_bipush (v := 10) hx hb dTS_dropWhatIsKnown_123 (by decide) ?_
  refine lv_icmp_ne (tgt := 163) hx hb dTS_dropWhatIsKnown_125 rfl (fun hc => ?_) (fun hc => ?_)
  · have h := h.1 hc
    clear hc
    exact zw_TS_dropWhatIsKnown_163 hM hB4 l1 l2 st h ls H locs (lv_sub hl [0, 1, 2] rfl) hP hS
  · have h := h.2 hc
    clear hc
    refine lv_aload hx hb dTS_dropWhatIsKnown_128 (lv_at hl 6 rfl) ?_
    refine lv_iload hx hb dTS_dropWhatIsKnown_130 (lv_at hl 4 rfl) ?_
    obtain ⟨hi201, h⟩ := h
    refine zr_iald hx hb hK.1 hP (zs_Fa_b hkb0).2.2.1 (zs_Fa_b hkb0).2.2.2 hi201 dTS_dropWhatIsKnown_132 ?_
    refine lv_iload hx hb dTS_dropWhatIsKnown_133 (lv_at hl 5 rfl) ?_
    refine lv_ishr hx hb dTS_dropWhatIsKnown_135 ?_
    refine lv_iconst (v := 1) hx hb dTS_dropWhatIsKnown_136 (by decide) ?_
    refine lv_iand hx hb dTS_dropWhatIsKnown_137 ?_
    refine lv_if_eq (tgt := 163) hx hb dTS_dropWhatIsKnown_138 rfl (fun hc => ?_) (fun hc => ?_)
    · have h := h.1 hc
      clear hc
      exact zw_TS_dropWhatIsKnown_163 hM hB4 l1 l2 st h ls H locs (lv_sub hl [0, 1, 2] rfl) hP hS
    · have h := h.2 hc
      clear hc
      refine lv_aload_n hx hb dTS_dropWhatIsKnown_141 rfl (lv_at hl 0 rfl) ?_
      refine zr_getr (b := 6) hx hb hts zi_TS hown hK.1 hP zl_0.1 zl_0.2 rfl 1 (by decide) rfl (hts _ zq_202) dTS_dropWhatIsKnown_142 ?_
      refine lv_iload_n hx hb dTS_dropWhatIsKnown_145 rfl (lv_at hl 2 rfl) ?_
      refine lv_bipush (v := 15) hx hb dTS_dropWhatIsKnown_146 (by decide) ?_
      refine lv_iconst (v := 0) hx hb dTS_dropWhatIsKnown_148 (by decide) ?_
      refine lv_iconst (v := 0) hx hb dTS_dropWhatIsKnown_149 (by decide) ?_
      refine zr_callv (va_runV (As := [.int l2, .int 15, .int 0, .int 0]) (rest := []) ⟨hx, hb, hml, hown, hts⟩ (zc_PR_replace l g A zs_Pr_6 h) (cwV 4 hts (zs_gV zq_523 zq_524 zq_525 zq_2 zq_526) rfl rfl rfl ⟨rfl, by decide, by decide, by decide +kernel⟩ ⟨Nat.le_of_ble_eq_true rfl, Nat.le_of_ble_eq_true rfl⟩) (zs_preV zs_nwk hK hP zs_Pr_6.1.1 zs_Pr_6.1.2 rfl) rfl rfl hl.1 rfl (lv_room (Nat.le_of_ble_eq_true rfl)) dTS_dropWhatIsKnown_150 ⟨Nat.le_refl _, Nat.le_refl _⟩) hS (fun u202 H locs h hP hS => ?_)
      refine lv_aload_n hx hb dTS_dropWhatIsKnown_153 rfl (lv_at hl 0 rfl) ?_
      refine zr_getr (b := 11) hx hb hts zi_TS hown hK.1 hP zl_0.1 zl_0.2 rfl 2 (by decide) rfl (hts _ zq_203) dTS_dropWhatIsKnown_154 ?_
      refine lv_iload_n hx hb dTS_dropWhatIsKnown_157 rfl (lv_at hl 2 rfl) ?_
      refine lv_iconst (v := 2) hx hb dTS_dropWhatIsKnown_158 (by decide) ?_
      obtain ⟨hi203, h⟩ := h
      refine zr_iast hx hb hK.1 hP hS zl_11.1 zl_11.2 hi203 dTS_dropWhatIsKnown_159 (fun H locs hP hS => ?_)
      obtain ⟨t204, ez⟩ : ∃ tz : zs_T, tz = zs_i u202 11 l2.toNatClampNeg 2 := ⟨_, rfl⟩
      have h := h t204 ez
      have hP : zs_P g zs_ly zs_N A t204 H := by rw [ez]; exact hP
      clear ez
      refine lv_iinc (k := 1) (v := l1 + 1) hx hb dTS_dropWhatIsKnown_160 hl rfl (by rw [show Int32.ofInt (1) = 1 from by decide]) (by decide) rfl (fun ls hl => ?_)
      have hl : lv_has ls 7 [(1, .int (l1 + 1)), (0, .ref (g.2.1 0)), (2, .int l2), (3, .int l3), (4, .int l4), (5, .int l5), (6, .ref (g.2.1 (24 + 3 * l2.toNatClampNeg + 2)))] := hl
      exact zw_TS_dropWhatIsKnown_163 hM hB4 (l1 + 1) l2 t204 h ls H locs (lv_sub hl [1, 0, 2] rfl) hP hS
set_option maxHeartbeats 4000000 in
set_option maxRecDepth 100000 in
theorem zw_TS_dropWhatIsKnown_4_s (hM : zs_M p c cTS_dropWhatIsKnown 7 s m meth args "ThriftyStores" (some .int) g)   {K : Int32 → zs_T → Prop}  {B4 : Int32 → Int32 → zs_T → Prop}  (hB4 : ∀ (l1 : Int32) (l2 : Int32) (st : zs_T), B4 l1 l2 st → zs_Go p l e (zs_rm 1 24) s m args below meth c g A (MQ below (zs_Qi g zs_ly zs_N A K) args s 0 0 A) 7 4 [(0, .ref (g.2.1 0)), (1, .int l1), (2, .int l2)] [] st) (l1 : Int32) (l2 : Int32) (st : zs_T) (h : zf_TS_dropWhatIsKnown_4_s K B4 l1 l2 st) : zs_Go p l e (zs_rm 1 24) s m args below meth c g A (MQ below (zs_Qi g zs_ly zs_N A K) args s 0 0 A) 7 4 [(0, .ref (g.2.1 0)), (1, .int l1), (2, .int l2)] [] st := by
  obtain ⟨hx, hb, hml, hr, hlk, hts, hown, hK⟩ := id hM
  intro ls H locs hl hP hS
  unfold zf_TS_dropWhatIsKnown_4_s at h
  refine lv_iload_n hx hb dTS_dropWhatIsKnown_4 rfl (lv_at hl 2 rfl) ?_
  refine lv_aload_n hx hb dTS_dropWhatIsKnown_5 rfl (lv_at hl 0 rfl) ?_
  refine zr_getr (b := 6) hx hb hts zi_TS hown hK.1 hP zl_0.1 zl_0.2 rfl 1 (by decide) rfl (hts _ zq_202) dTS_dropWhatIsKnown_6 ?_
  refine zr_geti hx hb hts zi_PR hown hK.1 hP zs_Pr_6.1.1 zs_Pr_6.1.2 rfl 4 (by decide) rfl (hts _ zq_57) dTS_dropWhatIsKnown_9 ?_
  refine lv_icmp_ge (tgt := 169) hx hb dTS_dropWhatIsKnown_12 rfl (fun hc => ?_) (fun hc => ?_)
  · have h := h.1 hc
    clear hc
    refine lv_iload_n hx hb dTS_dropWhatIsKnown_169 rfl (lv_at hl 1 rfl) ?_
    exact zr_iret hx hb hr hlk hP hS h dTS_dropWhatIsKnown_170
  · have h := h.2 hc
    clear hc
    refine lv_aload_n hx hb dTS_dropWhatIsKnown_15 rfl (lv_at hl 0 rfl) ?_
    refine zr_getr (b := 17) hx hb hts zi_TS hown hK.1 hP zl_0.1 zl_0.2 rfl 4 (by decide) rfl (hts _ zq_205) dTS_dropWhatIsKnown_16 ?_
    refine zr_getr (b := 19) hx hb hts zi_KN hown hK.1 hP zl_17.1 zl_17.2 rfl 1 (by decide) rfl (hts _ zq_136) dTS_dropWhatIsKnown_19 ?_
    refine lv_iload_n hx hb dTS_dropWhatIsKnown_22 rfl (lv_at hl 2 rfl) ?_
    obtain ⟨hi101, h⟩ := h
    refine zr_zald hx hb hK.1 hP zl_19.1 zl_19.2 hi101 dTS_dropWhatIsKnown_23 ?_
    refine lv_if_ne (tgt := 30) hx hb dTS_dropWhatIsKnown_24 rfl (fun hc => ?_) (fun hc => ?_)
    · have h := h.1 hc
      clear hc
      refine lv_aload_n hx hb dTS_dropWhatIsKnown_30 rfl (lv_at hl 0 rfl) ?_
      refine zr_getr (b := 6) hx hb hts zi_TS hown hK.1 hP zl_0.1 zl_0.2 rfl 1 (by decide) rfl (hts _ zq_202) dTS_dropWhatIsKnown_31 ?_
      refine zr_getr (b := 6 + 1) hx hb hts zi_PR hown hK.1 hP zs_Pr_6.1.1 zs_Pr_6.1.2 rfl 0 (by decide) rfl (hts _ zq_38) dTS_dropWhatIsKnown_34 ?_
      refine lv_iload_n hx hb dTS_dropWhatIsKnown_37 rfl (lv_at hl 2 rfl) ?_
      obtain ⟨hi102, h⟩ := h
      refine zr_iald hx hb hK.1 hP zs_Pr_6.2.1.1 zs_Pr_6.2.1.2 hi102 dTS_dropWhatIsKnown_38 ?_
      refine lv_istore_n hx hb dTS_dropWhatIsKnown_39 rfl hl (by decide) rfl (fun ls hl => ?_)
      have hl : lv_has ls 7 [(3, .int (st.1 (6 + 1) l2.toNatClampNeg)), (0, .ref (g.2.1 0)), (1, .int l1), (2, .int l2)] := hl
      refine lv_aload_n hx hb dTS_dropWhatIsKnown_40 rfl (lv_at hl 1 rfl) ?_
      refine zr_getr (b := 6) hx hb hts zi_TS hown hK.1 hP zl_0.1 zl_0.2 rfl 1 (by decide) rfl (hts _ zq_202) dTS_dropWhatIsKnown_41 ?_
      refine zr_getr (b := 6 + 2) hx hb hts zi_PR hown hK.1 hP zs_Pr_6.1.1 zs_Pr_6.1.2 rfl 1 (by decide) rfl (hts _ zq_44) dTS_dropWhatIsKnown_44 ?_
      refine lv_iload_n hx hb dTS_dropWhatIsKnown_47 rfl (lv_at hl 3 rfl) ?_
      obtain ⟨hi103, h⟩ := h
      refine zr_iald hx hb hK.1 hP zs_Pr_6.2.2.1.1 zs_Pr_6.2.2.1.2 hi103 dTS_dropWhatIsKnown_48 ?_
      refine lv_istore hx hb dTS_dropWhatIsKnown_49 hl (by decide) rfl (fun ls hl => ?_)
      have hl : lv_has ls 7 [(4, .int (st.1 (6 + 2) l2.toNatClampNeg)), (3, .int (st.1 (6 + 1) l2.toNatClampNeg)), (0, .ref (g.2.1 0)), (1, .int l1), (2, .int l2)] := hl
      refine lv_aload_n hx hb dTS_dropWhatIsKnown_51 rfl (lv_at hl 2 rfl) ?_
      refine zr_getr (b := 6) hx hb hts zi_TS hown hK.1 hP zl_0.1 zl_0.2 rfl 1 (by decide) rfl (hts _ zq_202) dTS_dropWhatIsKnown_52 ?_
      refine zr_getr (b := 6 + 3) hx hb hts zi_PR hown hK.1 hP zs_Pr_6.1.1 zs_Pr_6.1.2 rfl 2 (by decide) rfl (hts _ zq_50) dTS_dropWhatIsKnown_55 ?_
      refine lv_iload_n hx hb dTS_dropWhatIsKnown_58 rfl (lv_at hl 4 rfl) ?_
      obtain ⟨hi104, h⟩ := h
      refine zr_iald hx hb hK.1 hP zs_Pr_6.2.2.2.1.1 zs_Pr_6.2.2.2.1.2 hi104 dTS_dropWhatIsKnown_59 ?_
      refine lv_istore hx hb dTS_dropWhatIsKnown_60 hl (by decide) rfl (fun ls hl => ?_)
      have hl : lv_has ls 7 [(5, .int (st.1 (6 + 3) l2.toNatClampNeg)), (4, .int (st.1 (6 + 2) l2.toNatClampNeg)), (3, .int (st.1 (6 + 1) l2.toNatClampNeg)), (0, .ref (g.2.1 0)), (1, .int l1), (2, .int l2)] := hl
      refine lv_aload_n hx hb dTS_dropWhatIsKnown_62 rfl (lv_at hl 3 rfl) ?_
      refine zr_getr (b := 17) hx hb hts zi_TS hown hK.1 hP zl_0.1 zl_0.2 rfl 4 (by decide) rfl (hts _ zq_205) dTS_dropWhatIsKnown_63 ?_
      refine zr_getr (b := 18) hx hb hts zi_KN hown hK.1 hP zl_17.1 zl_17.2 rfl 0 (by decide) rfl (hts _ zq_133) dTS_dropWhatIsKnown_66 ?_
      refine lv_iload_n hx hb dTS_dropWhatIsKnown_69 rfl (lv_at hl 5 rfl) ?_
      obtain ⟨hi105, hk106, h⟩ := h
      refine zr_aald hx hb hK.1 hP zl_18.1 zl_18.2 hi105 hk106 dTS_dropWhatIsKnown_70 ?_
      refine zr_getr (b := 24 + 3 * l2.toNatClampNeg + 2) hx hb hts zi_FA hown hK.1 hP (zs_Fa_b hk106).1.1 (zs_Fa_b hk106).1.2 rfl 1 (by decide) rfl (hts _ zq_119) dTS_dropWhatIsKnown_71 ?_
      refine lv_astore hx hb dTS_dropWhatIsKnown_74 hl (by decide) rfl (fun ls hl => ?_)
      have hl : lv_has ls 7 [(6, .ref (g.2.1 (24 + 3 * l2.toNatClampNeg + 2))), (5, .int (st.1 (6 + 3) l2.toNatClampNeg)), (4, .int (st.1 (6 + 2) l2.toNatClampNeg)), (3, .int (st.1 (6 + 1) l2.toNatClampNeg)), (0, .ref (g.2.1 0)), (1, .int l1), (2, .int l2)] := hl
      refine lv_iload_n hx hb dTS_dropWhatIsKnown_76 rfl (lv_at hl 3 rfl) ?_
      refine lv_bipush (v := 9) hx hb dTS_dropWhatIsKnown_77 (by decide) ?_
      refine lv_icmp_ne (tgt := 122) hx hb dTS_dropWhatIsKnown_79 rfl (fun hc => ?_) (fun hc => ?_)
      · have h := h.1 hc
        clear hc
        exact zw_TS_dropWhatIsKnown_122 hM hB4 l1 l2 (st.1 (6 + 1) l2.toNatClampNeg) (st.1 (6 + 2) l2.toNatClampNeg) (st.1 (6 + 3) l2.toNatClampNeg) st h ls H locs (lv_sub hl [4, 5, 6, 3, 2, 1, 0] rfl) hP hS
      · have h := h.2 hc
        clear hc
        refine lv_aload hx hb dTS_dropWhatIsKnown_82 (lv_at hl 0 rfl) ?_
        refine lv_iload hx hb dTS_dropWhatIsKnown_84 (lv_at hl 1 rfl) ?_
        obtain ⟨hi107, h⟩ := h
        refine zr_iald hx hb hK.1 hP (zs_Fa_b hk106).2.2.1 (zs_Fa_b hk106).2.2.2 hi107 dTS_dropWhatIsKnown_86 ?_
        refine lv_if_eq (tgt := 122) hx hb dTS_dropWhatIsKnown_87 rfl (fun hc => ?_) (fun hc => ?_)
        · have h := h.1 hc
          clear hc
          exact zw_TS_dropWhatIsKnown_122 hM hB4 l1 l2 (st.1 (6 + 1) l2.toNatClampNeg) (st.1 (6 + 2) l2.toNatClampNeg) (st.1 (6 + 3) l2.toNatClampNeg) st h ls H locs (lv_sub hl [4, 5, 6, 3, 2, 1, 0] rfl) hP hS
        · have h := h.2 hc
          clear hc
          refine lv_aload_n hx hb dTS_dropWhatIsKnown_90 rfl (lv_at hl 4 rfl) ?_
          refine zr_getr (b := 6) hx hb hts zi_TS hown hK.1 hP zl_0.1 zl_0.2 rfl 1 (by decide) rfl (hts _ zq_202) dTS_dropWhatIsKnown_91 ?_
          refine lv_iload_n hx hb dTS_dropWhatIsKnown_94 rfl (lv_at hl 6 rfl) ?_
          refine lv_iconst (v := 1) hx hb dTS_dropWhatIsKnown_95 (by decide) ?_
          refine lv_iload hx hb dTS_dropWhatIsKnown_96 (lv_at hl 2 rfl) ?_
          refine lv_aload hx hb dTS_dropWhatIsKnown_98 (lv_at hl 0 rfl) ?_
          refine lv_iload hx hb dTS_dropWhatIsKnown_100 (lv_at hl 1 rfl) ?_
          obtain ⟨hi108, h⟩ := h
          refine zr_iald hx hb hK.1 hP (zs_Fa_b hk106).2.2.1 (zs_Fa_b hk106).2.2.2 hi108 dTS_dropWhatIsKnown_102 ?_
          refine zr_calli (va_runS (As := [.int (st.1 (24 + 3 * l2.toNatClampNeg + 2) (st.1 (6 + 3) l2.toNatClampNeg).toNatClampNeg)]) (rest := [.int (st.1 (6 + 2) l2.toNatClampNeg), .int 1, .int l2, .ref (g.2.1 6)]) ⟨hx, hb, hml, hown, hts⟩ (zc_IN_numberOfTrailingZeros_II l g A  h) (va_cwS 1 hts (zs_gS zq_519 zq_520 zq_17 zq_521) rfl rfl rfl ⟨by decide, by decide, by decide +kernel⟩ ⟨Nat.le_of_ble_eq_true rfl, Nat.le_of_ble_eq_true rfl⟩) (zs_preS zs_nwk hK hP) rfl rfl hl.1 rfl (lv_room (Nat.le_of_ble_eq_true rfl)) dTS_dropWhatIsKnown_103 ⟨Nat.le_refl _, Nat.le_refl _⟩) hS (fun r110 u109 H locs h hP hS => ?_)
          refine zr_callv (va_runV (As := [.int l2, .int 1, .int (st.1 (6 + 2) l2.toNatClampNeg), .int r110]) (rest := []) ⟨hx, hb, hml, hown, hts⟩ (zc_PR_replace l g A zs_Pr_6 h) (cwV 4 hts (zs_gV zq_523 zq_524 zq_525 zq_2 zq_526) rfl rfl rfl ⟨rfl, by decide, by decide, by decide +kernel⟩ ⟨Nat.le_of_ble_eq_true rfl, Nat.le_of_ble_eq_true rfl⟩) (zs_preV zs_nwk hK hP zs_Pr_6.1.1 zs_Pr_6.1.2 rfl) rfl rfl hl.1 rfl (lv_room (Nat.le_of_ble_eq_true rfl)) dTS_dropWhatIsKnown_106 ⟨Nat.le_refl _, Nat.le_refl _⟩) hS (fun u111 H locs h hP hS => ?_)
          refine lv_aload_n hx hb dTS_dropWhatIsKnown_109 rfl (lv_at hl 4 rfl) ?_
          refine zr_getr (b := 11) hx hb hts zi_TS hown hK.1 hP zl_0.1 zl_0.2 rfl 2 (by decide) rfl (hts _ zq_203) dTS_dropWhatIsKnown_110 ?_
          refine lv_iload_n hx hb dTS_dropWhatIsKnown_113 rfl (lv_at hl 6 rfl) ?_
          refine lv_iconst (v := 1) hx hb dTS_dropWhatIsKnown_114 (by decide) ?_
          obtain ⟨hi112, h⟩ := h
          refine zr_iast hx hb hK.1 hP hS zl_11.1 zl_11.2 hi112 dTS_dropWhatIsKnown_115 (fun H locs hP hS => ?_)
          obtain ⟨t113, ez⟩ : ∃ tz : zs_T, tz = zs_i u111 11 l2.toNatClampNeg 1 := ⟨_, rfl⟩
          have h := h t113 ez
          have hP : zs_P g zs_ly zs_N A t113 H := by rw [ez]; exact hP
          clear ez
          refine lv_iinc (k := 5) (v := l1 + 1) hx hb dTS_dropWhatIsKnown_116 hl rfl (by rw [show Int32.ofInt (1) = 1 from by decide]) (by decide) rfl (fun ls hl => ?_)
          have hl : lv_has ls 7 [(1, .int (l1 + 1)), (6, .ref (g.2.1 (24 + 3 * l2.toNatClampNeg + 2))), (5, .int (st.1 (6 + 3) l2.toNatClampNeg)), (4, .int (st.1 (6 + 2) l2.toNatClampNeg)), (3, .int (st.1 (6 + 1) l2.toNatClampNeg)), (0, .ref (g.2.1 0)), (2, .int l2)] := hl
          refine lv_goto (tgt := 163) hx hb dTS_dropWhatIsKnown_119 rfl ?_
          exact zw_TS_dropWhatIsKnown_163 hM hB4 (l1 + 1) l2 t113 h ls H locs (lv_sub hl [5, 0, 6] rfl) hP hS
    · have h := h.2 hc
      clear hc
      refine lv_goto (tgt := 163) hx hb dTS_dropWhatIsKnown_27 rfl ?_
      exact zw_TS_dropWhatIsKnown_163 hM hB4 l1 l2 st h ls H locs (lv_sub hl [0, 1, 2] rfl) hP hS
theorem zw_TS_dropWhatIsKnown_4 (hM : zs_M p c cTS_dropWhatIsKnown 7 s m meth args "ThriftyStores" (some .int) g)   {K : Int32 → zs_T → Prop}   : ∀ (n : Nat) (l1 : Int32) (l2 : Int32) (st : zs_T), zf_TS_dropWhatIsKnown_4 K n l1 l2 st → zs_Go p l e (zs_rm 1 24) s m args below meth c g A (MQ below (zs_Qi g zs_ly zs_N A K) args s 0 0 A) 7 4 [(0, .ref (g.2.1 0)), (1, .int l1), (2, .int l2)] [] st := by
  intro n
  induction n with
  | zero => intro l1 l2 st h; exact False.elim h
  | succ n ih => intro l1 l2 st h; exact zw_TS_dropWhatIsKnown_4_s hM  ih l1 l2 st h
set_option maxHeartbeats 4000000 in
set_option maxRecDepth 100000 in
theorem zc_TS_dropWhatIsKnown (l : Launch) (g : zs_G) (A : Nat → Prop)   {st : zs_T} {K : Int32 → zs_T → Prop} (h : zf_TS_dropWhatIsKnown  st K) : Met l yTS_dropWhatIsKnown (.code yTS_dropWhatIsKnown cTS_dropWhatIsKnown 7 (some .int) :: zs_tb) (zs_rm 1 24) (zs_Pc zs_nl g zs_ly zs_N A [.ref (g.2.1 0)] st) (zs_Qi g zs_ly zs_N A K) 0 0 A := by
  refine zs_met (cc := cTS_dropWhatIsKnown) (maxL := 7) (ret := (some .int)) (by decide) (Nat.le_of_ble_eq_true rfl) (fun p e s m below meth c hM => ?_)
  have hM : zs_M p c cTS_dropWhatIsKnown 7 s m meth [.ref (g.2.1 0)].toArray "ThriftyStores" (some .int) g := hM
  obtain ⟨hx, hb, hml, hr, hlk, hts, hown, hK⟩ := id hM
  intro ls H locs hl hP hS
  have hl : lv_has ls 7 [(0, .ref (g.2.1 0))] := hl
  unfold zf_TS_dropWhatIsKnown at h
  refine lv_iconst (v := 0) hx hb dTS_dropWhatIsKnown_0 (by decide) ?_
  refine lv_istore_n hx hb dTS_dropWhatIsKnown_1 rfl hl (by decide) rfl (fun ls hl => ?_)
  have hl : lv_has ls 7 [(1, .int 0), (0, .ref (g.2.1 0))] := hl
  refine lv_iconst (v := 0) hx hb dTS_dropWhatIsKnown_2 (by decide) ?_
  refine lv_istore_n hx hb dTS_dropWhatIsKnown_3 rfl hl (by decide) rfl (fun ls hl => ?_)
  have hl : lv_has ls 7 [(2, .int 0), (1, .int 0), (0, .ref (g.2.1 0))] := hl
  obtain ⟨n, h⟩ := h
  exact zw_TS_dropWhatIsKnown_4 hM  n 0 0 st h ls H locs (lv_sub hl [2, 1, 0] rfl) hP hS
set_option maxHeartbeats 4000000 in
set_option maxRecDepth 100000 in
theorem zw_TS_dropWhatIsDead_116 (hM : zs_M p c cTS_dropWhatIsDead 5 s m meth args "ThriftyStores" (some .int) g)   {K : Int32 → zs_T → Prop} {B4 : Int32 → Int32 → zs_T → Prop} (hB4 : ∀ (l1 : Int32) (l2 : Int32) (st : zs_T), B4 l1 l2 st → zs_Go p l e (zs_rm 1 24) s m args below meth c g A (MQ below (zs_Qi g zs_ly zs_N A K) args s 0 0 A) 5 4 [(0, .ref (g.2.1 0)), (1, .int l1), (2, .int l2)] [] st) (l1 : Int32) (l2 : Int32) (st : zs_T) (h : zf_TS_dropWhatIsDead_116 K B4 l1 l2 st) : zs_Go p l e (zs_rm 1 24) s m args below meth c g A (MQ below (zs_Qi g zs_ly zs_N A K) args s 0 0 A) 5 116 [(0, .ref (g.2.1 0)), (1, .int l1), (2, .int l2)] [] st := by
  obtain ⟨hx, hb, hml, hr, hlk, hts, hown, hK⟩ := id hM
  intro ls H locs hl hP hS
  unfold zf_TS_dropWhatIsDead_116 at h
  refine lv_iinc (k := 2) (v := l2 + 1) hx hb dTS_dropWhatIsDead_116 hl rfl (by rw [show Int32.ofInt (1) = 1 from by decide]) (by decide) rfl (fun ls hl => ?_)
  have hl : lv_has ls 5 [(2, .int (l2 + 1)), (0, .ref (g.2.1 0)), (1, .int l1)] := hl
  refine lv_goto (tgt := 4) hx hb dTS_dropWhatIsDead_119 rfl ?_
  exact hB4 l1 (l2 + 1) st h ls H locs (lv_sub hl [1, 2, 0] rfl) hP hS
set_option maxHeartbeats 4000000 in
set_option maxRecDepth 100000 in
theorem zw_TS_dropWhatIsDead_75 (hM : zs_M p c cTS_dropWhatIsDead 5 s m meth args "ThriftyStores" (some .int) g)   {K : Int32 → zs_T → Prop} {B4 : Int32 → Int32 → zs_T → Prop} (hB4 : ∀ (l1 : Int32) (l2 : Int32) (st : zs_T), B4 l1 l2 st → zs_Go p l e (zs_rm 1 24) s m args below meth c g A (MQ below (zs_Qi g zs_ly zs_N A K) args s 0 0 A) 5 4 [(0, .ref (g.2.1 0)), (1, .int l1), (2, .int l2)] [] st) (l1 : Int32) (l2 : Int32) (l3 : Int32) (s0 : Int32) (st : zs_T) (h : zf_TS_dropWhatIsDead_75 K B4 l1 l2 l3 s0 st) : zs_Go p l e (zs_rm 1 24) s m args below meth c g A (MQ below (zs_Qi g zs_ly zs_N A K) args s 0 0 A) 5 75 [(0, .ref (g.2.1 0)), (1, .int l1), (2, .int l2), (3, .int l3)] [.int s0] st := by
  obtain ⟨hx, hb, hml, hr, hlk, hts, hown, hK⟩ := id hM
  intro ls H locs hl hP hS
  unfold zf_TS_dropWhatIsDead_75 at h
  refine lv_istore hx hb dTS_dropWhatIsDead_75 hl (by decide) rfl (fun ls hl => ?_)
  have hl : lv_has ls 5 [(4, .int s0), (0, .ref (g.2.1 0)), (1, .int l1), (2, .int l2), (3, .int l3)] := hl
  refine lv_iload hx hb dTS_dropWhatIsDead_77 (lv_at hl 0 rfl) ?_
  refine lv_if_eq (tgt := 116) hx hb dTS_dropWhatIsDead_79 rfl (fun hc => ?_) (fun hc => ?_)
  · have h := h.1 hc
    clear hc
    exact zw_TS_dropWhatIsDead_116 hM hB4 l1 l2 st h ls H locs (lv_sub hl [1, 2, 3] rfl) hP hS
  · have h := h.2 hc
    clear hc
    refine lv_aload_n hx hb dTS_dropWhatIsDead_82 rfl (lv_at hl 1 rfl) ?_
    refine zr_getr (b := 627) hx hb hts zi_TS hown hK.1 hP zl_0.1 zl_0.2 rfl 5 (by decide) rfl (hts _ zq_206) dTS_dropWhatIsDead_83 ?_
    refine lv_iload_n hx hb dTS_dropWhatIsDead_86 rfl (lv_at hl 3 rfl) ?_
    refine lv_iload_n hx hb dTS_dropWhatIsDead_87 rfl (lv_at hl 4 rfl) ?_
    refine zr_calli (va_runV (As := [.int l2, .int l3]) (rest := []) ⟨hx, hb, hml, hown, hts⟩ (zc_FR_isFreeBehind l g A  h) (cwV 2 hts (zs_gV zq_531 zq_532 zq_533 zq_6 zq_534) rfl rfl rfl ⟨rfl, by decide, by decide, by decide +kernel⟩ ⟨Nat.le_of_ble_eq_true rfl, Nat.le_of_ble_eq_true rfl⟩) (zs_preV zs_nwk hK hP zl_627.1 zl_627.2 rfl) rfl rfl hl.1 rfl (lv_room (Nat.le_of_ble_eq_true rfl)) dTS_dropWhatIsDead_88 ⟨Nat.le_refl _, Nat.le_refl _⟩) hS (fun r302 u301 H locs h hP hS => ?_)
    refine lv_if_eq (tgt := 116) hx hb dTS_dropWhatIsDead_91 rfl (fun hc => ?_) (fun hc => ?_)
    · have h := h.1 hc
      clear hc
      exact zw_TS_dropWhatIsDead_116 hM hB4 l1 l2 u301 h ls H locs (lv_sub hl [1, 2, 3] rfl) hP hS
    · have h := h.2 hc
      clear hc
      refine lv_aload_n hx hb dTS_dropWhatIsDead_94 rfl (lv_at hl 1 rfl) ?_
      refine zr_getr (b := 6) hx hb hts zi_TS hown hK.1 hP zl_0.1 zl_0.2 rfl 1 (by decide) rfl (hts _ zq_202) dTS_dropWhatIsDead_95 ?_
      refine lv_iload_n hx hb dTS_dropWhatIsDead_98 rfl (lv_at hl 3 rfl) ?_
      refine lv_bipush (v := 15) hx hb dTS_dropWhatIsDead_99 (by decide) ?_
      refine lv_iconst (v := 0) hx hb dTS_dropWhatIsDead_101 (by decide) ?_
      refine lv_iconst (v := 0) hx hb dTS_dropWhatIsDead_102 (by decide) ?_
      refine zr_callv (va_runV (As := [.int l2, .int 15, .int 0, .int 0]) (rest := []) ⟨hx, hb, hml, hown, hts⟩ (zc_PR_replace l g A zs_Pr_6 h) (cwV 4 hts (zs_gV zq_523 zq_524 zq_525 zq_2 zq_526) rfl rfl rfl ⟨rfl, by decide, by decide, by decide +kernel⟩ ⟨Nat.le_of_ble_eq_true rfl, Nat.le_of_ble_eq_true rfl⟩) (zs_preV zs_nwk hK hP zs_Pr_6.1.1 zs_Pr_6.1.2 rfl) rfl rfl hl.1 rfl (lv_room (Nat.le_of_ble_eq_true rfl)) dTS_dropWhatIsDead_103 ⟨Nat.le_refl _, Nat.le_refl _⟩) hS (fun u303 H locs h hP hS => ?_)
      refine lv_aload_n hx hb dTS_dropWhatIsDead_106 rfl (lv_at hl 1 rfl) ?_
      refine zr_getr (b := 11) hx hb hts zi_TS hown hK.1 hP zl_0.1 zl_0.2 rfl 2 (by decide) rfl (hts _ zq_203) dTS_dropWhatIsDead_107 ?_
      refine lv_iload_n hx hb dTS_dropWhatIsDead_110 rfl (lv_at hl 3 rfl) ?_
      refine lv_iconst (v := 3) hx hb dTS_dropWhatIsDead_111 (by decide) ?_
      obtain ⟨hi304, h⟩ := h
      refine zr_iast hx hb hK.1 hP hS zl_11.1 zl_11.2 hi304 dTS_dropWhatIsDead_112 (fun H locs hP hS => ?_)
      obtain ⟨t305, ez⟩ : ∃ tz : zs_T, tz = zs_i u303 11 l2.toNatClampNeg 3 := ⟨_, rfl⟩
      have h := h t305 ez
      have hP : zs_P g zs_ly zs_N A t305 H := by rw [ez]; exact hP
      clear ez
      refine lv_iinc (k := 2) (v := l1 + 1) hx hb dTS_dropWhatIsDead_113 hl rfl (by rw [show Int32.ofInt (1) = 1 from by decide]) (by decide) rfl (fun ls hl => ?_)
      have hl : lv_has ls 5 [(1, .int (l1 + 1)), (4, .int s0), (0, .ref (g.2.1 0)), (2, .int l2), (3, .int l3)] := hl
      exact zw_TS_dropWhatIsDead_116 hM hB4 (l1 + 1) l2 t305 h ls H locs (lv_sub hl [2, 0, 3] rfl) hP hS
set_option maxHeartbeats 4000000 in
set_option maxRecDepth 100000 in
theorem zw_TS_dropWhatIsDead_4_s (hM : zs_M p c cTS_dropWhatIsDead 5 s m meth args "ThriftyStores" (some .int) g)   {K : Int32 → zs_T → Prop}  {B4 : Int32 → Int32 → zs_T → Prop}  (hB4 : ∀ (l1 : Int32) (l2 : Int32) (st : zs_T), B4 l1 l2 st → zs_Go p l e (zs_rm 1 24) s m args below meth c g A (MQ below (zs_Qi g zs_ly zs_N A K) args s 0 0 A) 5 4 [(0, .ref (g.2.1 0)), (1, .int l1), (2, .int l2)] [] st) (l1 : Int32) (l2 : Int32) (st : zs_T) (h : zf_TS_dropWhatIsDead_4_s K B4 l1 l2 st) : zs_Go p l e (zs_rm 1 24) s m args below meth c g A (MQ below (zs_Qi g zs_ly zs_N A K) args s 0 0 A) 5 4 [(0, .ref (g.2.1 0)), (1, .int l1), (2, .int l2)] [] st := by
  obtain ⟨hx, hb, hml, hr, hlk, hts, hown, hK⟩ := id hM
  intro ls H locs hl hP hS
  unfold zf_TS_dropWhatIsDead_4_s at h
  refine lv_iload_n hx hb dTS_dropWhatIsDead_4 rfl (lv_at hl 2 rfl) ?_
  refine lv_aload_n hx hb dTS_dropWhatIsDead_5 rfl (lv_at hl 0 rfl) ?_
  refine zr_getr (b := 6) hx hb hts zi_TS hown hK.1 hP zl_0.1 zl_0.2 rfl 1 (by decide) rfl (hts _ zq_202) dTS_dropWhatIsDead_6 ?_
  refine zr_geti hx hb hts zi_PR hown hK.1 hP zs_Pr_6.1.1 zs_Pr_6.1.2 rfl 4 (by decide) rfl (hts _ zq_57) dTS_dropWhatIsDead_9 ?_
  refine lv_icmp_ge (tgt := 122) hx hb dTS_dropWhatIsDead_12 rfl (fun hc => ?_) (fun hc => ?_)
  · have h := h.1 hc
    clear hc
    refine lv_iload_n hx hb dTS_dropWhatIsDead_122 rfl (lv_at hl 1 rfl) ?_
    exact zr_iret hx hb hr hlk hP hS h dTS_dropWhatIsDead_123
  · have h := h.2 hc
    clear hc
    refine lv_aload_n hx hb dTS_dropWhatIsDead_15 rfl (lv_at hl 0 rfl) ?_
    refine zr_getr (b := 6) hx hb hts zi_TS hown hK.1 hP zl_0.1 zl_0.2 rfl 1 (by decide) rfl (hts _ zq_202) dTS_dropWhatIsDead_16 ?_
    refine zr_getr (b := 6 + 1) hx hb hts zi_PR hown hK.1 hP zs_Pr_6.1.1 zs_Pr_6.1.2 rfl 0 (by decide) rfl (hts _ zq_38) dTS_dropWhatIsDead_19 ?_
    refine lv_iload_n hx hb dTS_dropWhatIsDead_22 rfl (lv_at hl 2 rfl) ?_
    obtain ⟨hi101, h⟩ := h
    refine zr_iald hx hb hK.1 hP zs_Pr_6.2.1.1 zs_Pr_6.2.1.2 hi101 dTS_dropWhatIsDead_23 ?_
    refine lv_bipush (v := 10) hx hb dTS_dropWhatIsDead_24 (by decide) ?_
    refine lv_icmp_ne (tgt := 116) hx hb dTS_dropWhatIsDead_26 rfl (fun hc => ?_) (fun hc => ?_)
    · have h := h.1 hc
      clear hc
      exact zw_TS_dropWhatIsDead_116 hM hB4 l1 l2 st h ls H locs (lv_sub hl [0, 1, 2] rfl) hP hS
    · have h := h.2 hc
      clear hc
      refine lv_aload_n hx hb dTS_dropWhatIsDead_29 rfl (lv_at hl 0 rfl) ?_
      refine zr_getr (b := 17) hx hb hts zi_TS hown hK.1 hP zl_0.1 zl_0.2 rfl 4 (by decide) rfl (hts _ zq_205) dTS_dropWhatIsDead_30 ?_
      refine zr_getr (b := 19) hx hb hts zi_KN hown hK.1 hP zl_17.1 zl_17.2 rfl 1 (by decide) rfl (hts _ zq_136) dTS_dropWhatIsDead_33 ?_
      refine lv_iload_n hx hb dTS_dropWhatIsDead_36 rfl (lv_at hl 2 rfl) ?_
      obtain ⟨hi102, h⟩ := h
      refine zr_zald hx hb hK.1 hP zl_19.1 zl_19.2 hi102 dTS_dropWhatIsDead_37 ?_
      refine lv_if_eq (tgt := 116) hx hb dTS_dropWhatIsDead_38 rfl (fun hc => ?_) (fun hc => ?_)
      · have h := h.1 hc
        clear hc
        exact zw_TS_dropWhatIsDead_116 hM hB4 l1 l2 st h ls H locs (lv_sub hl [0, 1, 2] rfl) hP hS
      · have h := h.2 hc
        clear hc
        refine lv_aload_n hx hb dTS_dropWhatIsDead_41 rfl (lv_at hl 0 rfl) ?_
        refine zr_getr (b := 6) hx hb hts zi_TS hown hK.1 hP zl_0.1 zl_0.2 rfl 1 (by decide) rfl (hts _ zq_202) dTS_dropWhatIsDead_42 ?_
        refine zr_getr (b := 6 + 2) hx hb hts zi_PR hown hK.1 hP zs_Pr_6.1.1 zs_Pr_6.1.2 rfl 1 (by decide) rfl (hts _ zq_44) dTS_dropWhatIsDead_45 ?_
        refine lv_iload_n hx hb dTS_dropWhatIsDead_48 rfl (lv_at hl 2 rfl) ?_
        obtain ⟨hi103, h⟩ := h
        refine zr_iald hx hb hK.1 hP zs_Pr_6.2.2.1.1 zs_Pr_6.2.2.1.2 hi103 dTS_dropWhatIsDead_49 ?_
        refine lv_istore_n hx hb dTS_dropWhatIsDead_50 rfl hl (by decide) rfl (fun ls hl => ?_)
        have hl : lv_has ls 5 [(3, .int (st.1 (6 + 2) l2.toNatClampNeg)), (0, .ref (g.2.1 0)), (1, .int l1), (2, .int l2)] := hl
        refine lv_aload_n hx hb dTS_dropWhatIsDead_51 rfl (lv_at hl 1 rfl) ?_
        refine zr_getr (b := 17) hx hb hts zi_TS hown hK.1 hP zl_0.1 zl_0.2 rfl 4 (by decide) rfl (hts _ zq_205) dTS_dropWhatIsDead_52 ?_
        refine zr_getr (b := 18) hx hb hts zi_KN hown hK.1 hP zl_17.1 zl_17.2 rfl 0 (by decide) rfl (hts _ zq_133) dTS_dropWhatIsDead_55 ?_
        refine lv_iload_n hx hb dTS_dropWhatIsDead_58 rfl (lv_at hl 3 rfl) ?_
        obtain ⟨hi104, hk105, h⟩ := h
        refine zr_aald hx hb hK.1 hP zl_18.1 zl_18.2 hi104 hk105 dTS_dropWhatIsDead_59 ?_
        refine zr_geti hx hb hts zi_FA hown hK.1 hP (zs_Fa_b hk105).1.1 (zs_Fa_b hk105).1.2 rfl 2 (by decide) rfl (hts _ zq_122) dTS_dropWhatIsDead_60 ?_
        refine lv_iload_n hx hb dTS_dropWhatIsDead_63 rfl (lv_at hl 0 rfl) ?_
        refine lv_ishr hx hb dTS_dropWhatIsDead_64 ?_
        refine lv_iconst (v := 1) hx hb dTS_dropWhatIsDead_65 (by decide) ?_
        refine lv_iand hx hb dTS_dropWhatIsDead_66 ?_
        refine lv_if_eq (tgt := 74) hx hb dTS_dropWhatIsDead_67 rfl (fun hc => ?_) (fun hc => ?_)
        · have h := h.1 hc
          clear hc
          refine lv_iconst (v := 0) hx hb dTS_dropWhatIsDead_74 (by decide) ?_
          exact zw_TS_dropWhatIsDead_75 hM hB4 l1 l2 (st.1 (6 + 2) l2.toNatClampNeg) 0 st h ls H locs (lv_sub hl [1, 2, 3, 0] rfl) hP hS
        · have h := h.2 hc
          clear hc
          refine lv_iconst (v := 1) hx hb dTS_dropWhatIsDead_70 (by decide) ?_
          refine lv_goto (tgt := 75) hx hb dTS_dropWhatIsDead_71 rfl ?_
          exact zw_TS_dropWhatIsDead_75 hM hB4 l1 l2 (st.1 (6 + 2) l2.toNatClampNeg) 1 st h ls H locs (lv_sub hl [1, 2, 3, 0] rfl) hP hS
theorem zw_TS_dropWhatIsDead_4 (hM : zs_M p c cTS_dropWhatIsDead 5 s m meth args "ThriftyStores" (some .int) g)   {K : Int32 → zs_T → Prop}   : ∀ (n : Nat) (l1 : Int32) (l2 : Int32) (st : zs_T), zf_TS_dropWhatIsDead_4 K n l1 l2 st → zs_Go p l e (zs_rm 1 24) s m args below meth c g A (MQ below (zs_Qi g zs_ly zs_N A K) args s 0 0 A) 5 4 [(0, .ref (g.2.1 0)), (1, .int l1), (2, .int l2)] [] st := by
  intro n
  induction n with
  | zero => intro l1 l2 st h; exact False.elim h
  | succ n ih => intro l1 l2 st h; exact zw_TS_dropWhatIsDead_4_s hM  ih l1 l2 st h
set_option maxHeartbeats 4000000 in
set_option maxRecDepth 100000 in
theorem zc_TS_dropWhatIsDead (l : Launch) (g : zs_G) (A : Nat → Prop)   {st : zs_T} {K : Int32 → zs_T → Prop} (h : zf_TS_dropWhatIsDead  st K) : Met l yTS_dropWhatIsDead (.code yTS_dropWhatIsDead cTS_dropWhatIsDead 5 (some .int) :: zs_tb) (zs_rm 1 24) (zs_Pc zs_nl g zs_ly zs_N A [.ref (g.2.1 0)] st) (zs_Qi g zs_ly zs_N A K) 0 0 A := by
  refine zs_met (cc := cTS_dropWhatIsDead) (maxL := 5) (ret := (some .int)) (by decide) (Nat.le_of_ble_eq_true rfl) (fun p e s m below meth c hM => ?_)
  have hM : zs_M p c cTS_dropWhatIsDead 5 s m meth [.ref (g.2.1 0)].toArray "ThriftyStores" (some .int) g := hM
  obtain ⟨hx, hb, hml, hr, hlk, hts, hown, hK⟩ := id hM
  intro ls H locs hl hP hS
  have hl : lv_has ls 5 [(0, .ref (g.2.1 0))] := hl
  unfold zf_TS_dropWhatIsDead at h
  refine lv_iconst (v := 0) hx hb dTS_dropWhatIsDead_0 (by decide) ?_
  refine lv_istore_n hx hb dTS_dropWhatIsDead_1 rfl hl (by decide) rfl (fun ls hl => ?_)
  have hl : lv_has ls 5 [(1, .int 0), (0, .ref (g.2.1 0))] := hl
  refine lv_iconst (v := 0) hx hb dTS_dropWhatIsDead_2 (by decide) ?_
  refine lv_istore_n hx hb dTS_dropWhatIsDead_3 rfl hl (by decide) rfl (fun ls hl => ?_)
  have hl : lv_has ls 5 [(2, .int 0), (1, .int 0), (0, .ref (g.2.1 0))] := hl
  obtain ⟨n, h⟩ := h
  exact zw_TS_dropWhatIsDead_4 hM  n 0 0 st h ls H locs (lv_sub hl [2, 1, 0] rfl) hP hS
set_option maxHeartbeats 4000000 in
set_option maxRecDepth 100000 in
theorem zw_TS_makeRound_25 (hM : zs_M p c cTS_makeRound 2 s m meth args "ThriftyStores" (some .int) g)   {K : Int32 → zs_T → Prop}   (l1 : Int32) (st : zs_T) (h : zf_TS_makeRound_25 K l1 st) : zs_Go p l e (zs_rm 5 125) s m args below meth c g A (MQ below (zs_Qi g zs_ly zs_N A K) args s 0 0 A) 2 25 [(0, .ref (g.2.1 0)), (1, .int l1)] [] st := by
  obtain ⟨hx, hb, hml, hr, hlk, hts, hown, hK⟩ := id hM
  intro ls H locs hl hP hS
  unfold zf_TS_makeRound_25 at h
  refine lv_iload_n hx hb dTS_makeRound_25 rfl (lv_at hl 1 rfl) ?_
  refine lv_aload_n hx hb dTS_makeRound_26 rfl (lv_at hl 0 rfl) ?_
  refine zr_calli (va_runV (As := []) (rest := [.int l1]) ⟨hx, hb, hml, hown, hts⟩ (zc_TS_dropWhatIsDead l g A  h) (cwV 0 hts (zs_gV zq_527 zq_529 zp_21 zq_1 zq_530) rfl rfl rfl ⟨rfl, by decide, by decide, by decide +kernel⟩ ⟨Nat.le_of_ble_eq_true rfl, Nat.le_of_ble_eq_true rfl⟩) (zs_preV zs_nwk hK hP zl_0.1 zl_0.2 rfl) rfl rfl hl.1 rfl (lv_room (Nat.le_of_ble_eq_true rfl)) dTS_makeRound_27 ⟨Nat.le_refl _, Nat.le_refl _⟩) hS (fun r102 u101 H locs h hP hS => ?_)
  refine lv_iadd hx hb dTS_makeRound_30 ?_
  exact zr_iret hx hb hr hlk hP hS h dTS_makeRound_31
set_option maxHeartbeats 4000000 in
set_option maxRecDepth 100000 in
theorem zc_TS_makeRound (l : Launch) (g : zs_G) (A : Nat → Prop)   {st : zs_T} {K : Int32 → zs_T → Prop} (h : zf_TS_makeRound  st K) : Met l yTS_makeRound (.code yTS_makeRound cTS_makeRound 2 (some .int) :: zs_tb) (zs_rm 5 125) (zs_Pc zs_nl g zs_ly zs_N A [.ref (g.2.1 0)] st) (zs_Qi g zs_ly zs_N A K) 0 0 A := by
  refine zs_met (cc := cTS_makeRound) (maxL := 2) (ret := (some .int)) (by decide) (Nat.le_of_ble_eq_true rfl) (fun p e s m below meth c hM => ?_)
  have hM : zs_M p c cTS_makeRound 2 s m meth [.ref (g.2.1 0)].toArray "ThriftyStores" (some .int) g := hM
  obtain ⟨hx, hb, hml, hr, hlk, hts, hown, hK⟩ := id hM
  intro ls H locs hl hP hS
  have hl : lv_has ls 2 [(0, .ref (g.2.1 0))] := hl
  unfold zf_TS_makeRound at h
  refine lv_aload_n hx hb dTS_makeRound_0 rfl (lv_at hl 0 rfl) ?_
  refine lv_aload_n hx hb dTS_makeRound_1 rfl (lv_at hl 0 rfl) ?_
  refine zr_getr (b := 6) hx hb hts zi_TS hown hK.1 hP zl_0.1 zl_0.2 rfl 1 (by decide) rfl (hts _ zq_202) dTS_makeRound_2 ?_
  refine zr_callv (va_runV (As := [.ref (g.2.1 6)]) (rest := []) ⟨hx, hb, hml, hown, hts⟩ (zc_TS_lookThrough l g A zs_Pr_6 h) (cwV 1 hts (zs_gV zq_381 zq_383 zp_2 zq_1 zq_384) rfl rfl rfl ⟨rfl, by decide, by decide, by decide +kernel⟩ ⟨Nat.le_of_ble_eq_true rfl, Nat.le_of_ble_eq_true rfl⟩) (zs_preV zs_nwk hK hP zl_0.1 zl_0.2 rfl) rfl rfl hl.1 rfl (lv_room (Nat.le_of_ble_eq_true rfl)) dTS_makeRound_5 ⟨Nat.le_refl _, Nat.le_refl _⟩) hS (fun u1 H locs h hP hS => ?_)
  refine lv_aload_n hx hb dTS_makeRound_8 rfl (lv_at hl 0 rfl) ?_
  refine zr_calli (va_runV (As := []) (rest := []) ⟨hx, hb, hml, hown, hts⟩ (zc_TS_dropWhatIsKnown l g A  h) (cwV 0 hts (zs_gV zq_515 zq_517 zp_20 zq_1 zq_518) rfl rfl rfl ⟨rfl, by decide, by decide, by decide +kernel⟩ ⟨Nat.le_of_ble_eq_true rfl, Nat.le_of_ble_eq_true rfl⟩) (zs_preV zs_nwk hK hP zl_0.1 zl_0.2 rfl) rfl rfl hl.1 rfl (lv_room (Nat.le_of_ble_eq_true rfl)) dTS_makeRound_9 ⟨Nat.le_refl _, Nat.le_refl _⟩) hS (fun r3 u2 H locs h hP hS => ?_)
  refine lv_istore_n hx hb dTS_makeRound_12 rfl hl (by decide) rfl (fun ls hl => ?_)
  have hl : lv_has ls 2 [(1, .int r3), (0, .ref (g.2.1 0))] := hl
  refine lv_iload_n hx hb dTS_makeRound_13 rfl (lv_at hl 0 rfl) ?_
  refine lv_if_le (tgt := 25) hx hb dTS_makeRound_14 rfl (fun hc => ?_) (fun hc => ?_)
  · have h := h.1 hc
    clear hc
    exact zw_TS_makeRound_25 hM  r3 u2 h ls H locs (lv_sub hl [1, 0] rfl) hP hS
  · have h := h.2 hc
    clear hc
    refine lv_aload_n hx hb dTS_makeRound_17 rfl (lv_at hl 1 rfl) ?_
    refine lv_aload_n hx hb dTS_makeRound_18 rfl (lv_at hl 1 rfl) ?_
    refine zr_getr (b := 6) hx hb hts zi_TS hown hK.1 hP zl_0.1 zl_0.2 rfl 1 (by decide) rfl (hts _ zq_202) dTS_makeRound_19 ?_
    refine zr_callv (va_runV (As := [.ref (g.2.1 6)]) (rest := []) ⟨hx, hb, hml, hown, hts⟩ (zc_TS_lookThrough l g A zs_Pr_6 h) (cwV 1 hts (zs_gV zq_381 zq_383 zp_2 zq_1 zq_384) rfl rfl rfl ⟨rfl, by decide, by decide, by decide +kernel⟩ ⟨Nat.le_of_ble_eq_true rfl, Nat.le_of_ble_eq_true rfl⟩) (zs_preV zs_nwk hK hP zl_0.1 zl_0.2 rfl) rfl rfl hl.1 rfl (lv_room (Nat.le_of_ble_eq_true rfl)) dTS_makeRound_22 ⟨Nat.le_refl _, Nat.le_refl _⟩) hS (fun u4 H locs h hP hS => ?_)
    exact zw_TS_makeRound_25 hM  r3 u4 h ls H locs (lv_sub hl [1, 0] rfl) hP hS
end ZW
