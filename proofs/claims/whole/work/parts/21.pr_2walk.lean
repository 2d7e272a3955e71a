section ZW
variable {p : Program} {l : Launch} {e : Env} {s : State} {m : MethodId} {args : Array Value} {below : List Frame} {meth : Method} {c : Code} {g : zs_G} {A : Nat → Prop}
set_option maxHeartbeats 4000000 in
set_option maxRecDepth 100000 in
theorem zc_TS_isRegister (l : Launch) (g : zs_G) (A : Nat → Prop) {l0 : Int32}  {st : zs_T} {K : Int32 → zs_T → Prop} (h : zf_TS_isRegister l0 st K) : Met l yTS_isRegister (.code yTS_isRegister cTS_isRegister 1 (some .boolean) :: zs_tb) (zs_rm 0 0) (zs_Pc zs_nl g zs_ly zs_N A [.int l0] st) (zs_Qi g zs_ly zs_N A K) 0 0 A := by
  refine zs_met (cc := cTS_isRegister) (maxL := 1) (ret := (some .boolean)) (by decide) (Nat.le_of_ble_eq_true rfl) (fun p e s m below meth c hM => ?_)
  have hM : zs_M p c cTS_isRegister 1 s m meth [.int l0].toArray "ThriftyStores" (some .boolean) g := hM
  obtain ⟨hx, hb, hml, hr, hlk, hts, hown, hK⟩ := id hM
  intro ls H locs hl hP hS
  have hl : lv_has ls 1 [(0, .int l0)] := hl
  unfold zf_TS_isRegister at h
  refine lv_iload_n hx hb dTS_isRegister_0 rfl (lv_at hl 0 rfl) ?_
  refine lv_if_lt (tgt := 14) hx hb dTS_isRegister_1 rfl (fun hc => ?_) (fun hc => ?_)
  · have h := h.1 hc
    clear hc
    refine lv_iconst (v := 0) hx hb dTS_isRegister_14 (by decide) ?_
    exact zr_zret hx hb hr hlk hP hS rfl h dTS_isRegister_15
  · have h := h.2 hc
    clear hc
    refine lv_iload_n hx hb dTS_isRegister_4 rfl (lv_at hl 0 rfl) ?_
    refine lv_bipush (v := 16) hx hb dTS_isRegister_5 (by decide) ?_
    refine lv_icmp_ge (tgt := 14) hx hb dTS_isRegister_7 rfl (fun hc => ?_) (fun hc => ?_)
    · have h := h.1 hc
      clear hc
      refine lv_iconst (v := 0) hx hb dTS_isRegister_14 (by decide) ?_
      exact zr_zret hx hb hr hlk hP hS rfl h dTS_isRegister_15
    · have h := h.2 hc
      clear hc
      refine lv_iconst (v := 1) hx hb dTS_isRegister_10 (by decide) ?_
      refine lv_goto (tgt := 15) hx hb dTS_isRegister_11 rfl ?_
      exact zr_zret hx hb hr hlk hP hS rfl h dTS_isRegister_15
set_option maxHeartbeats 4000000 in
set_option maxRecDepth 100000 in
theorem zc_PR_isTarget (l : Launch) (g : zs_G) (A : Nat → Prop) {l0 : Int32}  {st : zs_T} {K : Int32 → zs_T → Prop} (h : zf_PR_isTarget l0 st K) : Met l yPR_isTarget (.code yPR_isTarget cPR_isTarget 1 (some .boolean) :: zs_tb) (zs_rm 0 0) (zs_Pc zs_nl g zs_ly zs_N A [.int l0] st) (zs_Qi g zs_ly zs_N A K) 0 0 A := by
  refine zs_met (cc := cPR_isTarget) (maxL := 1) (ret := (some .boolean)) (by decide) (Nat.le_of_ble_eq_true rfl) (fun p e s m below meth c hM => ?_)
  have hM : zs_M p c cPR_isTarget 1 s m meth [.int l0].toArray "ThriftyStores$Program" (some .boolean) g := hM
  obtain ⟨hx, hb, hml, hr, hlk, hts, hown, hK⟩ := id hM
  intro ls H locs hl hP hS
  have hl : lv_has ls 1 [(0, .int l0)] := hl
  unfold zf_PR_isTarget at h
  refine lv_iload_n hx hb dPR_isTarget_0 rfl (lv_at hl 0 rfl) ?_
  refine lv_if_lt (tgt := 15) hx hb dPR_isTarget_1 rfl (fun hc => ?_) (fun hc => ?_)
  · have h := h.1 hc
    clear hc
    refine lv_iconst (v := 0) hx hb dPR_isTarget_15 (by decide) ?_
    exact zr_zret hx hb hr hlk hP hS rfl h dPR_isTarget_16
  · have h := h.2 hc
    clear hc
    refine lv_iload_n hx hb dPR_isTarget_4 rfl (lv_at hl 0 rfl) ?_
    refine lv_sipush (v := 200) hx hb dPR_isTarget_5 (by decide) ?_
    refine lv_icmp_gt (tgt := 15) hx hb dPR_isTarget_8 rfl (fun hc => ?_) (fun hc => ?_)
    · have h := h.1 hc
      clear hc
      refine lv_iconst (v := 0) hx hb dPR_isTarget_15 (by decide) ?_
      exact zr_zret hx hb hr hlk hP hS rfl h dPR_isTarget_16
    · have h := h.2 hc
      clear hc
      refine lv_iconst (v := 1) hx hb dPR_isTarget_11 (by decide) ?_
      refine lv_goto (tgt := 16) hx hb dPR_isTarget_12 rfl ?_
      exact zr_zret hx hb hr hlk hP hS rfl h dPR_isTarget_16
set_option maxHeartbeats 4000000 in
set_option maxRecDepth 100000 in
theorem zw_PR_mayStand_97 (hM : zs_M p c cPR_mayStand 4 s m meth args "ThriftyStores$Program" (some .boolean) g)   {K : Int32 → zs_T → Prop}   (l1 : Int32) (l2 : Int32) (l3 : Int32) (st : zs_T) (h : zf_PR_mayStand_97 K l1 l2 l3 st) : zs_Go p l e (zs_rm 1 20) s m args below meth c g A (MQ below (zs_Qi g zs_ly zs_N A K) args s 0 0 A) 4 97 [(1, .int l1), (2, .int l2), (3, .int l3)] [] st := by
  obtain ⟨hx, hb, hml, hr, hlk, hts, hown, hK⟩ := id hM
  intro ls H locs hl hP hS
  unfold zf_PR_mayStand_97 at h
  refine lv_iload_n hx hb dPR_mayStand_97 rfl (lv_at hl 0 rfl) ?_
  refine zr_calli (va_runSN (As := [.int l1]) (rest := []) ⟨hx, hb, hml, hown, hts⟩ (zc_TS_isRegister l g A  h) ⟨va_cnB 1 hts (zs_gN zq_267) rfl rfl rfl (hK.2 (.methodLinkNest "ThriftyStores$Program" 28 yTS_isRegister "ThriftyStores") (by decide +kernel)) (hts _ zq_1) ⟨by decide, by decide, by decide +kernel⟩ ⟨Nat.le_of_ble_eq_true rfl, Nat.le_of_ble_eq_true rfl⟩, hts _ zq_266, trivial⟩ (zs_preS zs_nwk hK hP) rfl rfl hl.1 rfl (lv_room (Nat.le_of_ble_eq_true rfl)) dPR_mayStand_98 ⟨Nat.le_refl _, Nat.le_refl _⟩) hS (fun r102 u101 H locs h hP hS => ?_)
  refine lv_if_eq (tgt := 119) hx hb dPR_mayStand_101 rfl (fun hc => ?_) (fun hc => ?_)
  · have h := h.1 hc
    clear hc
    refine lv_iconst (v := 0) hx hb dPR_mayStand_119 (by decide) ?_
    exact zr_zret hx hb hr hlk hP hS rfl h dPR_mayStand_120
  · have h := h.2 hc
    clear hc
    refine lv_iload_n hx hb dPR_mayStand_104 rfl (lv_at hl 1 rfl) ?_
    refine zr_calli (va_runSN (As := [.int l2]) (rest := []) ⟨hx, hb, hml, hown, hts⟩ (zc_TS_isRegister l g A  h) ⟨va_cnB 1 hts (zs_gN zq_267) rfl rfl rfl (hK.2 (.methodLinkNest "ThriftyStores$Program" 28 yTS_isRegister "ThriftyStores") (by decide +kernel)) (hts _ zq_1) ⟨by decide, by decide, by decide +kernel⟩ ⟨Nat.le_of_ble_eq_true rfl, Nat.le_of_ble_eq_true rfl⟩, hts _ zq_266, trivial⟩ (zs_preS zs_nwk hK hP) rfl rfl hl.1 rfl (lv_room (Nat.le_of_ble_eq_true rfl)) dPR_mayStand_105 ⟨Nat.le_refl _, Nat.le_refl _⟩) hS (fun r104 u103 H locs h hP hS => ?_)
    refine lv_if_eq (tgt := 119) hx hb dPR_mayStand_108 rfl (fun hc => ?_) (fun hc => ?_)
    · have h := h.1 hc
      clear hc
      refine lv_iconst (v := 0) hx hb dPR_mayStand_119 (by decide) ?_
      exact zr_zret hx hb hr hlk hP hS rfl h dPR_mayStand_120
    · have h := h.2 hc
      clear hc
      refine lv_iload_n hx hb dPR_mayStand_111 rfl (lv_at hl 2 rfl) ?_
      refine lv_if_ne (tgt := 119) hx hb dPR_mayStand_112 rfl (fun hc => ?_) (fun hc => ?_)
      · have h := h.1 hc
        clear hc
        refine lv_iconst (v := 0) hx hb dPR_mayStand_119 (by decide) ?_
        exact zr_zret hx hb hr hlk hP hS rfl h dPR_mayStand_120
      · have h := h.2 hc
        clear hc
        refine lv_iconst (v := 1) hx hb dPR_mayStand_115 (by decide) ?_
        refine lv_goto (tgt := 120) hx hb dPR_mayStand_116 rfl ?_
        exact zr_zret hx hb hr hlk hP hS rfl h dPR_mayStand_120
set_option maxHeartbeats 4000000 in
set_option maxRecDepth 100000 in
theorem zw_PR_mayStand_121 (hM : zs_M p c cPR_mayStand 4 s m meth args "ThriftyStores$Program" (some .boolean) g)   {K : Int32 → zs_T → Prop}   (l1 : Int32) (l2 : Int32) (l3 : Int32) (st : zs_T) (h : zf_PR_mayStand_121 K l1 l2 l3 st) : zs_Go p l e (zs_rm 1 20) s m args below meth c g A (MQ below (zs_Qi g zs_ly zs_N A K) args s 0 0 A) 4 121 [(1, .int l1), (2, .int l2), (3, .int l3)] [] st := by
  obtain ⟨hx, hb, hml, hr, hlk, hts, hown, hK⟩ := id hM
  intro ls H locs hl hP hS
  unfold zf_PR_mayStand_121 at h
  refine lv_iload_n hx hb dPR_mayStand_121 rfl (lv_at hl 0 rfl) ?_
  refine zr_calli (va_runSN (As := [.int l1]) (rest := []) ⟨hx, hb, hml, hown, hts⟩ (zc_TS_isRegister l g A  h) ⟨va_cnB 1 hts (zs_gN zq_267) rfl rfl rfl (hK.2 (.methodLinkNest "ThriftyStores$Program" 28 yTS_isRegister "ThriftyStores") (by decide +kernel)) (hts _ zq_1) ⟨by decide, by decide, by decide +kernel⟩ ⟨Nat.le_of_ble_eq_true rfl, Nat.le_of_ble_eq_true rfl⟩, hts _ zq_266, trivial⟩ (zs_preS zs_nwk hK hP) rfl rfl hl.1 rfl (lv_room (Nat.le_of_ble_eq_true rfl)) dPR_mayStand_122 ⟨Nat.le_refl _, Nat.le_refl _⟩) hS (fun r202 u201 H locs h hP hS => ?_)
  refine lv_if_eq (tgt := 146) hx hb dPR_mayStand_125 rfl (fun hc => ?_) (fun hc => ?_)
  · have h := h.1 hc
    clear hc
    refine lv_iconst (v := 0) hx hb dPR_mayStand_146 (by decide) ?_
    exact zr_zret hx hb hr hlk hP hS rfl h dPR_mayStand_147
  · have h := h.2 hc
    clear hc
    refine lv_iload_n hx hb dPR_mayStand_128 rfl (lv_at hl 1 rfl) ?_
    refine zr_calli (va_runSN (As := [.int l2]) (rest := []) ⟨hx, hb, hml, hown, hts⟩ (zc_TS_isRegister l g A  h) ⟨va_cnB 1 hts (zs_gN zq_267) rfl rfl rfl (hK.2 (.methodLinkNest "ThriftyStores$Program" 28 yTS_isRegister "ThriftyStores") (by decide +kernel)) (hts _ zq_1) ⟨by decide, by decide, by decide +kernel⟩ ⟨Nat.le_of_ble_eq_true rfl, Nat.le_of_ble_eq_true rfl⟩, hts _ zq_266, trivial⟩ (zs_preS zs_nwk hK hP) rfl rfl hl.1 rfl (lv_room (Nat.le_of_ble_eq_true rfl)) dPR_mayStand_129 ⟨Nat.le_refl _, Nat.le_refl _⟩) hS (fun r204 u203 H locs h hP hS => ?_)
    refine lv_if_eq (tgt := 146) hx hb dPR_mayStand_132 rfl (fun hc => ?_) (fun hc => ?_)
    · have h := h.1 hc
      clear hc
      refine lv_iconst (v := 0) hx hb dPR_mayStand_146 (by decide) ?_
      exact zr_zret hx hb hr hlk hP hS rfl h dPR_mayStand_147
    · have h := h.2 hc
      clear hc
      refine lv_iload_n hx hb dPR_mayStand_135 rfl (lv_at hl 2 rfl) ?_
      refine zr_calli (va_runSN (As := [.int l3]) (rest := []) ⟨hx, hb, hml, hown, hts⟩ (zc_TS_isRegister l g A  h) ⟨va_cnB 1 hts (zs_gN zq_267) rfl rfl rfl (hK.2 (.methodLinkNest "ThriftyStores$Program" 28 yTS_isRegister "ThriftyStores") (by decide +kernel)) (hts _ zq_1) ⟨by decide, by decide, by decide +kernel⟩ ⟨Nat.le_of_ble_eq_true rfl, Nat.le_of_ble_eq_true rfl⟩, hts _ zq_266, trivial⟩ (zs_preS zs_nwk hK hP) rfl rfl hl.1 rfl (lv_room (Nat.le_of_ble_eq_true rfl)) dPR_mayStand_136 ⟨Nat.le_refl _, Nat.le_refl _⟩) hS (fun r206 u205 H locs h hP hS => ?_)
      refine lv_if_eq (tgt := 146) hx hb dPR_mayStand_139 rfl (fun hc => ?_) (fun hc => ?_)
      · have h := h.1 hc
        clear hc
        refine lv_iconst (v := 0) hx hb dPR_mayStand_146 (by decide) ?_
        exact zr_zret hx hb hr hlk hP hS rfl h dPR_mayStand_147
      · have h := h.2 hc
        clear hc
        refine lv_iconst (v := 1) hx hb dPR_mayStand_142 (by decide) ?_
        refine lv_goto (tgt := 147) hx hb dPR_mayStand_143 rfl ?_
        exact zr_zret hx hb hr hlk hP hS rfl h dPR_mayStand_147
set_option maxHeartbeats 4000000 in
set_option maxRecDepth 100000 in
theorem zw_PR_mayStand_247 (hM : zs_M p c cPR_mayStand 4 s m meth args "ThriftyStores$Program" (some .boolean) g)   {K : Int32 → zs_T → Prop}   (l1 : Int32) (l2 : Int32) (l3 : Int32) (st : zs_T) (h : zf_PR_mayStand_247 K l1 l2 l3 st) : zs_Go p l e (zs_rm 1 20) s m args below meth c g A (MQ below (zs_Qi g zs_ly zs_N A K) args s 0 0 A) 4 247 [(1, .int l1), (2, .int l2), (3, .int l3)] [] st := by
  obtain ⟨hx, hb, hml, hr, hlk, hts, hown, hK⟩ := id hM
  intro ls H locs hl hP hS
  unfold zf_PR_mayStand_247 at h
  refine lv_iload_n hx hb dPR_mayStand_247 rfl (lv_at hl 0 rfl) ?_
  refine lv_if_ne (tgt := 263) hx hb dPR_mayStand_248 rfl (fun hc => ?_) (fun hc => ?_)
  · have h := h.1 hc
    clear hc
    refine lv_iconst (v := 0) hx hb dPR_mayStand_263 (by decide) ?_
    exact zr_zret hx hb hr hlk hP hS rfl h dPR_mayStand_264
  · have h := h.2 hc
    clear hc
    refine lv_iload_n hx hb dPR_mayStand_251 rfl (lv_at hl 1 rfl) ?_
    refine lv_if_ne (tgt := 263) hx hb dPR_mayStand_252 rfl (fun hc => ?_) (fun hc => ?_)
    · have h := h.1 hc
      clear hc
      refine lv_iconst (v := 0) hx hb dPR_mayStand_263 (by decide) ?_
      exact zr_zret hx hb hr hlk hP hS rfl h dPR_mayStand_264
    · have h := h.2 hc
      clear hc
      refine lv_iload_n hx hb dPR_mayStand_255 rfl (lv_at hl 2 rfl) ?_
      refine lv_if_ne (tgt := 263) hx hb dPR_mayStand_256 rfl (fun hc => ?_) (fun hc => ?_)
      · have h := h.1 hc
        clear hc
        refine lv_iconst (v := 0) hx hb dPR_mayStand_263 (by decide) ?_
        exact zr_zret hx hb hr hlk hP hS rfl h dPR_mayStand_264
      · have h := h.2 hc
        clear hc
        refine lv_iconst (v := 1) hx hb dPR_mayStand_259 (by decide) ?_
        refine lv_goto (tgt := 264) hx hb dPR_mayStand_260 rfl ?_
        exact zr_zret hx hb hr hlk hP hS rfl h dPR_mayStand_264
set_option maxHeartbeats 4000000 in
set_option maxRecDepth 100000 in
theorem zc_PR_mayStand (l : Launch) (g : zs_G) (A : Nat → Prop) {l0 : Int32} {l1 : Int32} {l2 : Int32} {l3 : Int32}  {st : zs_T} {K : Int32 → zs_T → Prop} (h : zf_PR_mayStand l0 l1 l2 l3 st K) : Met l yPR_mayStand (.code yPR_mayStand cPR_mayStand 4 (some .boolean) :: zs_tb) (zs_rm 1 20) (zs_Pc zs_nl g zs_ly zs_N A [.int l0, .int l1, .int l2, .int l3] st) (zs_Qi g zs_ly zs_N A K) 0 0 A := by
  refine zs_met (cc := cPR_mayStand) (maxL := 4) (ret := (some .boolean)) (by decide) (Nat.le_of_ble_eq_true rfl) (fun p e s m below meth c hM => ?_)
  have hM : zs_M p c cPR_mayStand 4 s m meth [.int l0, .int l1, .int l2, .int l3].toArray "ThriftyStores$Program" (some .boolean) g := hM
  obtain ⟨hx, hb, hml, hr, hlk, hts, hown, hK⟩ := id hM
  intro ls H locs hl hP hS
  have hl : lv_has ls 4 [(0, .int l0), (1, .int l1), (2, .int l2), (3, .int l3)] := hl
  unfold zf_PR_mayStand at h
  refine lv_iload_n hx hb dPR_mayStand_0 rfl (lv_at hl 0 rfl) ?_
  by_cases hc : l0 = 0
  · refine lv_tableIn (tgt := 80) (off := 79) hx hb dPR_mayStand_1 (by rw [hc]; decide) (by rw [hc]; decide) (by rw [hc]; decide) rfl ?_
    have h := h.1 hc
    clear hc
    refine lv_iload_n hx hb dPR_mayStand_80 rfl (lv_at hl 1 rfl) ?_
    refine zr_calli (va_runSN (As := [.int l1]) (rest := []) ⟨hx, hb, hml, hown, hts⟩ (zc_TS_isRegister l g A  h) ⟨va_cnB 1 hts (zs_gN zq_267) rfl rfl rfl (hK.2 (.methodLinkNest "ThriftyStores$Program" 28 yTS_isRegister "ThriftyStores") (by decide +kernel)) (hts _ zq_1) ⟨by decide, by decide, by decide +kernel⟩ ⟨Nat.le_of_ble_eq_true rfl, Nat.le_of_ble_eq_true rfl⟩, hts _ zq_266, trivial⟩ (zs_preS zs_nwk hK hP) rfl rfl hl.1 rfl (lv_room (Nat.le_of_ble_eq_true rfl)) dPR_mayStand_81 ⟨Nat.le_refl _, Nat.le_refl _⟩) hS (fun r2 u1 H locs h hP hS => ?_)
    refine lv_if_eq (tgt := 95) hx hb dPR_mayStand_84 rfl (fun hc => ?_) (fun hc => ?_)
    · have h := h.1 hc
      clear hc
      refine lv_iconst (v := 0) hx hb dPR_mayStand_95 (by decide) ?_
      exact zr_zret hx hb hr hlk hP hS rfl h dPR_mayStand_96
    · have h := h.2 hc
      clear hc
      refine lv_iload_n hx hb dPR_mayStand_87 rfl (lv_at hl 3 rfl) ?_
      refine lv_if_ne (tgt := 95) hx hb dPR_mayStand_88 rfl (fun hc => ?_) (fun hc => ?_)
      · have h := h.1 hc
        clear hc
        refine lv_iconst (v := 0) hx hb dPR_mayStand_95 (by decide) ?_
        exact zr_zret hx hb hr hlk hP hS rfl h dPR_mayStand_96
      · have h := h.2 hc
        clear hc
        refine lv_iconst (v := 1) hx hb dPR_mayStand_91 (by decide) ?_
        refine lv_goto (tgt := 96) hx hb dPR_mayStand_92 rfl ?_
        exact zr_zret hx hb hr hlk hP hS rfl h dPR_mayStand_96
  · have h := h.2 hc
    have hn0 := hc
    clear hc
    by_cases hc : l0 = 1
    · refine lv_tableIn (tgt := 97) (off := 96) hx hb dPR_mayStand_1 (by rw [hc]; decide) (by rw [hc]; decide) (by rw [hc]; decide) rfl ?_
      have h := h.1 hc
      clear hc
      exact zw_PR_mayStand_97 hM  l1 l2 l3 st h ls H locs (lv_sub hl [1, 2, 3] rfl) hP hS
    · have h := h.2 hc
      have hn1 := hc
      clear hc
      by_cases hc : l0 = 2
      · refine lv_tableIn (tgt := 121) (off := 120) hx hb dPR_mayStand_1 (by rw [hc]; decide) (by rw [hc]; decide) (by rw [hc]; decide) rfl ?_
        have h := h.1 hc
        clear hc
        exact zw_PR_mayStand_121 hM  l1 l2 l3 st h ls H locs (lv_sub hl [1, 2, 3] rfl) hP hS
      · have h := h.2 hc
        have hn2 := hc
        clear hc
        by_cases hc : l0 = 3
        · refine lv_tableIn (tgt := 121) (off := 120) hx hb dPR_mayStand_1 (by rw [hc]; decide) (by rw [hc]; decide) (by rw [hc]; decide) rfl ?_
          have h := h.1 hc
          clear hc
          exact zw_PR_mayStand_121 hM  l1 l2 l3 st h ls H locs (lv_sub hl [1, 2, 3] rfl) hP hS
        · have h := h.2 hc
          have hn3 := hc
          clear hc
          by_cases hc : l0 = 4
          · refine lv_tableIn (tgt := 121) (off := 120) hx hb dPR_mayStand_1 (by rw [hc]; decide) (by rw [hc]; decide) (by rw [hc]; decide) rfl ?_
            have h := h.1 hc
            clear hc
            exact zw_PR_mayStand_121 hM  l1 l2 l3 st h ls H locs (lv_sub hl [1, 2, 3] rfl) hP hS
          · have h := h.2 hc
            have hn4 := hc
            clear hc
            by_cases hc : l0 = 5
            · refine lv_tableIn (tgt := 121) (off := 120) hx hb dPR_mayStand_1 (by rw [hc]; decide) (by rw [hc]; decide) (by rw [hc]; decide) rfl ?_
              have h := h.1 hc
              clear hc
              exact zw_PR_mayStand_121 hM  l1 l2 l3 st h ls H locs (lv_sub hl [1, 2, 3] rfl) hP hS
            · have h := h.2 hc
              have hn5 := hc
              clear hc
              by_cases hc : l0 = 6
              · refine lv_tableIn (tgt := 121) (off := 120) hx hb dPR_mayStand_1 (by rw [hc]; decide) (by rw [hc]; decide) (by rw [hc]; decide) rfl ?_
                have h := h.1 hc
                clear hc
                exact zw_PR_mayStand_121 hM  l1 l2 l3 st h ls H locs (lv_sub hl [1, 2, 3] rfl) hP hS
              · have h := h.2 hc
                have hn6 := hc
                clear hc
                by_cases hc : l0 = 7
                · refine lv_tableIn (tgt := 121) (off := 120) hx hb dPR_mayStand_1 (by rw [hc]; decide) (by rw [hc]; decide) (by rw [hc]; decide) rfl ?_
                  have h := h.1 hc
                  clear hc
                  exact zw_PR_mayStand_121 hM  l1 l2 l3 st h ls H locs (lv_sub hl [1, 2, 3] rfl) hP hS
                · have h := h.2 hc
                  have hn7 := hc
                  clear hc
                  by_cases hc : l0 = 8
                  · refine lv_tableIn (tgt := 148) (off := 147) hx hb dPR_mayStand_1 (by rw [hc]; decide) (by rw [hc]; decide) (by rw [hc]; decide) rfl ?_
                    have h := h.1 hc
                    clear hc
                    refine lv_iload_n hx hb dPR_mayStand_148 rfl (lv_at hl 1 rfl) ?_
                    refine zr_calli (va_runSN (As := [.int l1]) (rest := []) ⟨hx, hb, hml, hown, hts⟩ (zc_TS_isRegister l g A  h) ⟨va_cnB 1 hts (zs_gN zq_267) rfl rfl rfl (hK.2 (.methodLinkNest "ThriftyStores$Program" 28 yTS_isRegister "ThriftyStores") (by decide +kernel)) (hts _ zq_1) ⟨by decide, by decide, by decide +kernel⟩ ⟨Nat.le_of_ble_eq_true rfl, Nat.le_of_ble_eq_true rfl⟩, hts _ zq_266, trivial⟩ (zs_preS zs_nwk hK hP) rfl rfl hl.1 rfl (lv_room (Nat.le_of_ble_eq_true rfl)) dPR_mayStand_149 ⟨Nat.le_refl _, Nat.le_refl _⟩) hS (fun r4 u3 H locs h hP hS => ?_)
                    refine lv_if_eq (tgt := 179) hx hb dPR_mayStand_152 rfl (fun hc => ?_) (fun hc => ?_)
                    · have h := h.1 hc
                      clear hc
                      refine lv_iconst (v := 0) hx hb dPR_mayStand_179 (by decide) ?_
                      exact zr_zret hx hb hr hlk hP hS rfl h dPR_mayStand_180
                    · have h := h.2 hc
                      clear hc
                      refine lv_iload_n hx hb dPR_mayStand_155 rfl (lv_at hl 2 rfl) ?_
                      refine lv_iconst (v := 1) hx hb dPR_mayStand_156 (by decide) ?_
                      refine lv_icmp_lt (tgt := 179) hx hb dPR_mayStand_157 rfl (fun hc => ?_) (fun hc => ?_)
                      · have h := h.1 hc
                        clear hc
                        refine lv_iconst (v := 0) hx hb dPR_mayStand_179 (by decide) ?_
                        exact zr_zret hx hb hr hlk hP hS rfl h dPR_mayStand_180
                      · have h := h.2 hc
                        clear hc
                        refine lv_iload_n hx hb dPR_mayStand_160 rfl (lv_at hl 2 rfl) ?_
                        refine lv_bipush (v := 16) hx hb dPR_mayStand_161 (by decide) ?_
                        refine lv_icmp_gt (tgt := 179) hx hb dPR_mayStand_163 rfl (fun hc => ?_) (fun hc => ?_)
                        · have h := h.1 hc
                          clear hc
                          refine lv_iconst (v := 0) hx hb dPR_mayStand_179 (by decide) ?_
                          exact zr_zret hx hb hr hlk hP hS rfl h dPR_mayStand_180
                        · have h := h.2 hc
                          clear hc
                          refine lv_iload_n hx hb dPR_mayStand_166 rfl (lv_at hl 3 rfl) ?_
                          refine lv_if_eq (tgt := 175) hx hb dPR_mayStand_167 rfl (fun hc => ?_) (fun hc => ?_)
                          · have h := h.1 hc
                            clear hc
                            refine lv_iconst (v := 1) hx hb dPR_mayStand_175 (by decide) ?_
                            refine lv_goto (tgt := 180) hx hb dPR_mayStand_176 rfl ?_
                            exact zr_zret hx hb hr hlk hP hS rfl h dPR_mayStand_180
                          · have h := h.2 hc
                            clear hc
                            refine lv_iload_n hx hb dPR_mayStand_170 rfl (lv_at hl 3 rfl) ?_
                            refine lv_iconst (v := 1) hx hb dPR_mayStand_171 (by decide) ?_
                            refine lv_icmp_ne (tgt := 179) hx hb dPR_mayStand_172 rfl (fun hc => ?_) (fun hc => ?_)
                            · have h := h.1 hc
                              clear hc
                              refine lv_iconst (v := 0) hx hb dPR_mayStand_179 (by decide) ?_
                              exact zr_zret hx hb hr hlk hP hS rfl h dPR_mayStand_180
                            · have h := h.2 hc
                              clear hc
                              refine lv_iconst (v := 1) hx hb dPR_mayStand_175 (by decide) ?_
                              refine lv_goto (tgt := 180) hx hb dPR_mayStand_176 rfl ?_
                              exact zr_zret hx hb hr hlk hP hS rfl h dPR_mayStand_180
                  · have h := h.2 hc
                    have hn8 := hc
                    clear hc
                    by_cases hc : l0 = 9
                    · refine lv_tableIn (tgt := 97) (off := 96) hx hb dPR_mayStand_1 (by rw [hc]; decide) (by rw [hc]; decide) (by rw [hc]; decide) rfl ?_
                      have h := h.1 hc
                      clear hc
                      exact zw_PR_mayStand_97 hM  l1 l2 l3 st h ls H locs (lv_sub hl [1, 2, 3] rfl) hP hS
                    · have h := h.2 hc
                      have hn9 := hc
                      clear hc
                      by_cases hc : l0 = 10
                      · refine lv_tableIn (tgt := 97) (off := 96) hx hb dPR_mayStand_1 (by rw [hc]; decide) (by rw [hc]; decide) (by rw [hc]; decide) rfl ?_
                        have h := h.1 hc
                        clear hc
                        exact zw_PR_mayStand_97 hM  l1 l2 l3 st h ls H locs (lv_sub hl [1, 2, 3] rfl) hP hS
                      · have h := h.2 hc
                        have hn10 := hc
                        clear hc
                        by_cases hc : l0 = 11
                        · refine lv_tableIn (tgt := 181) (off := 180) hx hb dPR_mayStand_1 (by rw [hc]; decide) (by rw [hc]; decide) (by rw [hc]; decide) rfl ?_
                          have h := h.1 hc
                          clear hc
                          refine lv_iload_n hx hb dPR_mayStand_181 rfl (lv_at hl 1 rfl) ?_
                          refine zr_calli (va_runSN (As := [.int l1]) (rest := []) ⟨hx, hb, hml, hown, hts⟩ (zc_TS_isRegister l g A  h) ⟨va_cnB 1 hts (zs_gN zq_267) rfl rfl rfl (hK.2 (.methodLinkNest "ThriftyStores$Program" 28 yTS_isRegister "ThriftyStores") (by decide +kernel)) (hts _ zq_1) ⟨by decide, by decide, by decide +kernel⟩ ⟨Nat.le_of_ble_eq_true rfl, Nat.le_of_ble_eq_true rfl⟩, hts _ zq_266, trivial⟩ (zs_preS zs_nwk hK hP) rfl rfl hl.1 rfl (lv_room (Nat.le_of_ble_eq_true rfl)) dPR_mayStand_182 ⟨Nat.le_refl _, Nat.le_refl _⟩) hS (fun r6 u5 H locs h hP hS => ?_)
                          refine lv_if_eq (tgt := 200) hx hb dPR_mayStand_185 rfl (fun hc => ?_) (fun hc => ?_)
                          · have h := h.1 hc
                            clear hc
                            refine lv_iconst (v := 0) hx hb dPR_mayStand_200 (by decide) ?_
                            exact zr_zret hx hb hr hlk hP hS rfl h dPR_mayStand_201
                          · have h := h.2 hc
                            clear hc
                            refine lv_iload_n hx hb dPR_mayStand_188 rfl (lv_at hl 2 rfl) ?_
                            refine lv_if_ne (tgt := 200) hx hb dPR_mayStand_189 rfl (fun hc => ?_) (fun hc => ?_)
                            · have h := h.1 hc
                              clear hc
                              refine lv_iconst (v := 0) hx hb dPR_mayStand_200 (by decide) ?_
                              exact zr_zret hx hb hr hlk hP hS rfl h dPR_mayStand_201
                            · have h := h.2 hc
                              clear hc
                              refine lv_iload_n hx hb dPR_mayStand_192 rfl (lv_at hl 3 rfl) ?_
                              refine lv_if_ne (tgt := 200) hx hb dPR_mayStand_193 rfl (fun hc => ?_) (fun hc => ?_)
                              · have h := h.1 hc
                                clear hc
                                refine lv_iconst (v := 0) hx hb dPR_mayStand_200 (by decide) ?_
                                exact zr_zret hx hb hr hlk hP hS rfl h dPR_mayStand_201
                              · have h := h.2 hc
                                clear hc
                                refine lv_iconst (v := 1) hx hb dPR_mayStand_196 (by decide) ?_
                                refine lv_goto (tgt := 201) hx hb dPR_mayStand_197 rfl ?_
                                exact zr_zret hx hb hr hlk hP hS rfl h dPR_mayStand_201
                        · have h := h.2 hc
                          have hn11 := hc
                          clear hc
                          by_cases hc : l0 = 12
                          · refine lv_tableIn (tgt := 202) (off := 201) hx hb dPR_mayStand_1 (by rw [hc]; decide) (by rw [hc]; decide) (by rw [hc]; decide) rfl ?_
                            have h := h.1 hc
                            clear hc
                            refine lv_iload_n hx hb dPR_mayStand_202 rfl (lv_at hl 1 rfl) ?_
                            refine zr_calli (va_runS (As := [.int l1]) (rest := []) ⟨hx, hb, hml, hown, hts⟩ (zc_PR_isTarget l g A  h) (va_cwS 1 hts (zs_gS zq_268 zq_269 zq_2 zq_270) rfl rfl rfl ⟨by decide, by decide, by decide +kernel⟩ ⟨Nat.le_of_ble_eq_true rfl, Nat.le_of_ble_eq_true rfl⟩) (zs_preS zs_nwk hK hP) rfl rfl hl.1 rfl (lv_room (Nat.le_of_ble_eq_true rfl)) dPR_mayStand_203 ⟨Nat.le_refl _, Nat.le_refl _⟩) hS (fun r8 u7 H locs h hP hS => ?_)
                            refine lv_if_eq (tgt := 221) hx hb dPR_mayStand_206 rfl (fun hc => ?_) (fun hc => ?_)
                            · have h := h.1 hc
                              clear hc
                              refine lv_iconst (v := 0) hx hb dPR_mayStand_221 (by decide) ?_
                              exact zr_zret hx hb hr hlk hP hS rfl h dPR_mayStand_222
                            · have h := h.2 hc
                              clear hc
                              refine lv_iload_n hx hb dPR_mayStand_209 rfl (lv_at hl 2 rfl) ?_
                              refine lv_if_ne (tgt := 221) hx hb dPR_mayStand_210 rfl (fun hc => ?_) (fun hc => ?_)
                              · have h := h.1 hc
                                clear hc
                                refine lv_iconst (v := 0) hx hb dPR_mayStand_221 (by decide) ?_
                                exact zr_zret hx hb hr hlk hP hS rfl h dPR_mayStand_222
                              · have h := h.2 hc
                                clear hc
                                refine lv_iload_n hx hb dPR_mayStand_213 rfl (lv_at hl 3 rfl) ?_
                                refine lv_if_ne (tgt := 221) hx hb dPR_mayStand_214 rfl (fun hc => ?_) (fun hc => ?_)
                                · have h := h.1 hc
                                  clear hc
                                  refine lv_iconst (v := 0) hx hb dPR_mayStand_221 (by decide) ?_
                                  exact zr_zret hx hb hr hlk hP hS rfl h dPR_mayStand_222
                                · have h := h.2 hc
                                  clear hc
                                  refine lv_iconst (v := 1) hx hb dPR_mayStand_217 (by decide) ?_
                                  refine lv_goto (tgt := 222) hx hb dPR_mayStand_218 rfl ?_
                                  exact zr_zret hx hb hr hlk hP hS rfl h dPR_mayStand_222
                          · have h := h.2 hc
                            have hn12 := hc
                            clear hc
                            by_cases hc : l0 = 13
                            · refine lv_tableIn (tgt := 223) (off := 222) hx hb dPR_mayStand_1 (by rw [hc]; decide) (by rw [hc]; decide) (by rw [hc]; decide) rfl ?_
                              have h := h.1 hc
                              clear hc
                              refine lv_iload_n hx hb dPR_mayStand_223 rfl (lv_at hl 1 rfl) ?_
                              refine zr_calli (va_runSN (As := [.int l1]) (rest := []) ⟨hx, hb, hml, hown, hts⟩ (zc_TS_isRegister l g A  h) ⟨va_cnB 1 hts (zs_gN zq_267) rfl rfl rfl (hK.2 (.methodLinkNest "ThriftyStores$Program" 28 yTS_isRegister "ThriftyStores") (by decide +kernel)) (hts _ zq_1) ⟨by decide, by decide, by decide +kernel⟩ ⟨Nat.le_of_ble_eq_true rfl, Nat.le_of_ble_eq_true rfl⟩, hts _ zq_266, trivial⟩ (zs_preS zs_nwk hK hP) rfl rfl hl.1 rfl (lv_room (Nat.le_of_ble_eq_true rfl)) dPR_mayStand_224 ⟨Nat.le_refl _, Nat.le_refl _⟩) hS (fun r10 u9 H locs h hP hS => ?_)
                              refine lv_if_eq (tgt := 245) hx hb dPR_mayStand_227 rfl (fun hc => ?_) (fun hc => ?_)
                              · have h := h.1 hc
                                clear hc
                                refine lv_iconst (v := 0) hx hb dPR_mayStand_245 (by decide) ?_
                                exact zr_zret hx hb hr hlk hP hS rfl h dPR_mayStand_246
                              · have h := h.2 hc
                                clear hc
                                refine lv_iload_n hx hb dPR_mayStand_230 rfl (lv_at hl 2 rfl) ?_
                                refine zr_calli (va_runS (As := [.int l2]) (rest := []) ⟨hx, hb, hml, hown, hts⟩ (zc_PR_isTarget l g A  h) (va_cwS 1 hts (zs_gS zq_268 zq_269 zq_2 zq_270) rfl rfl rfl ⟨by decide, by decide, by decide +kernel⟩ ⟨Nat.le_of_ble_eq_true rfl, Nat.le_of_ble_eq_true rfl⟩) (zs_preS zs_nwk hK hP) rfl rfl hl.1 rfl (lv_room (Nat.le_of_ble_eq_true rfl)) dPR_mayStand_231 ⟨Nat.le_refl _, Nat.le_refl _⟩) hS (fun r12 u11 H locs h hP hS => ?_)
                                refine lv_if_eq (tgt := 245) hx hb dPR_mayStand_234 rfl (fun hc => ?_) (fun hc => ?_)
                                · have h := h.1 hc
                                  clear hc
                                  refine lv_iconst (v := 0) hx hb dPR_mayStand_245 (by decide) ?_
                                  exact zr_zret hx hb hr hlk hP hS rfl h dPR_mayStand_246
                                · have h := h.2 hc
                                  clear hc
                                  refine lv_iload_n hx hb dPR_mayStand_237 rfl (lv_at hl 3 rfl) ?_
                                  refine lv_if_ne (tgt := 245) hx hb dPR_mayStand_238 rfl (fun hc => ?_) (fun hc => ?_)
                                  · have h := h.1 hc
                                    clear hc
                                    refine lv_iconst (v := 0) hx hb dPR_mayStand_245 (by decide) ?_
                                    exact zr_zret hx hb hr hlk hP hS rfl h dPR_mayStand_246
                                  · have h := h.2 hc
                                    clear hc
                                    refine lv_iconst (v := 1) hx hb dPR_mayStand_241 (by decide) ?_
                                    refine lv_goto (tgt := 246) hx hb dPR_mayStand_242 rfl ?_
                                    exact zr_zret hx hb hr hlk hP hS rfl h dPR_mayStand_246
                            · have h := h.2 hc
                              have hn13 := hc
                              clear hc
                              by_cases hc : l0 = 14
                              · refine lv_tableIn (tgt := 247) (off := 246) hx hb dPR_mayStand_1 (by rw [hc]; decide) (by rw [hc]; decide) (by rw [hc]; decide) rfl ?_
                                have h := h.1 hc
                                clear hc
                                exact zw_PR_mayStand_247 hM  l1 l2 l3 st h ls H locs (lv_sub hl [1, 2, 3] rfl) hP hS
                              · have h := h.2 hc
                                have hn14 := hc
                                clear hc
                                by_cases hc : l0 = 15
                                · refine lv_tableIn (tgt := 247) (off := 246) hx hb dPR_mayStand_1 (by rw [hc]; decide) (by rw [hc]; decide) (by rw [hc]; decide) rfl ?_
                                  have h := h.1 hc
                                  clear hc
                                  exact zw_PR_mayStand_247 hM  l1 l2 l3 st h ls H locs (lv_sub hl [1, 2, 3] rfl) hP hS
                                · have h := h.2 hc
                                  have hn15 := hc
                                  clear hc
                                  refine lv_tableOut (tgt := 265) hx hb dPR_mayStand_1 (by have q0 := lv_neT hn0 (a := 0) (by decide); have q1 := lv_neT hn1 (a := 1) (by decide); have q2 := lv_neT hn2 (a := 2) (by decide); have q3 := lv_neT hn3 (a := 3) (by decide); have q4 := lv_neT hn4 (a := 4) (by decide); have q5 := lv_neT hn5 (a := 5) (by decide); have q6 := lv_neT hn6 (a := 6) (by decide); have q7 := lv_neT hn7 (a := 7) (by decide); have q8 := lv_neT hn8 (a := 8) (by decide); have q9 := lv_neT hn9 (a := 9) (by decide); have q10 := lv_neT hn10 (a := 10) (by decide); have q11 := lv_neT hn11 (a := 11) (by decide); have q12 := lv_neT hn12 (a := 12) (by decide); have q13 := lv_neT hn13 (a := 13) (by decide); have q14 := lv_neT hn14 (a := 14) (by decide); have q15 := lv_neT hn15 (a := 15) (by decide); omega) rfl ?_
                                  refine lv_iconst (v := 0) hx hb dPR_mayStand_265 (by decide) ?_
                                  exact zr_zret hx hb hr hlk hP hS rfl h dPR_mayStand_266
set_option maxHeartbeats 4000000 in
set_option maxRecDepth 100000 in
theorem zc_PR_append (l : Launch) (g : zs_G) (A : Nat → Prop) {d0 : Nat} {l1 : Int32} {l2 : Int32} {l3 : Int32} {l4 : Int32} (hd0 : zs_Pr d0) {st : zs_T} {K : Int32 → zs_T → Prop} (h : zf_PR_append d0 l1 l2 l3 l4 st K) : Met l yPR_append (.code yPR_append cPR_append 6 (some .int) :: zs_tb) (zs_rm 0 0) (zs_Pc zs_nl g zs_ly zs_N A [.ref (g.2.1 d0), .int l1, .int l2, .int l3, .int l4] st) (zs_Qi g zs_ly zs_N A K) 0 0 A := by
  refine zs_met (cc := cPR_append) (maxL := 6) (ret := (some .int)) (by decide) (Nat.le_of_ble_eq_true rfl) (fun p e s m below meth c hM => ?_)
  have hM : zs_M p c cPR_append 6 s m meth [.ref (g.2.1 d0), .int l1, .int l2, .int l3, .int l4].toArray "ThriftyStores$Program" (some .int) g := hM
  obtain ⟨hx, hb, hml, hr, hlk, hts, hown, hK⟩ := id hM
  intro ls H locs hl hP hS
  have hl : lv_has ls 6 [(0, .ref (g.2.1 d0)), (1, .int l1), (2, .int l2), (3, .int l3), (4, .int l4)] := hl
  unfold zf_PR_append at h
  refine lv_aload_n hx hb dPR_append_0 rfl (lv_at hl 0 rfl) ?_
  refine zr_geti hx hb hts zi_PR hown hK.1 hP hd0.1.1 hd0.1.2 rfl 4 (by decide) rfl (hts _ zq_54) dPR_append_1 ?_
  refine lv_istore hx hb dPR_append_4 hl (by decide) rfl (fun ls hl => ?_)
  have hl : lv_has ls 6 [(5, .int (st.1 d0 4)), (0, .ref (g.2.1 d0)), (1, .int l1), (2, .int l2), (3, .int l3), (4, .int l4)] := hl
  refine lv_aload_n hx hb dPR_append_6 rfl (lv_at hl 1 rfl) ?_
  refine zr_getr (b := d0 + 1) hx hb hts zi_PR hown hK.1 hP hd0.1.1 hd0.1.2 rfl 0 (by decide) rfl (hts _ zq_33) dPR_append_7 ?_
  refine lv_iload hx hb dPR_append_10 (lv_at hl 0 rfl) ?_
  refine lv_iload_n hx hb dPR_append_12 rfl (lv_at hl 2 rfl) ?_
  obtain ⟨hi1, h⟩ := h
  refine zr_iast hx hb hK.1 hP hS hd0.2.1.1 hd0.2.1.2 hi1 dPR_append_13 (fun H locs hP hS => ?_)
  obtain ⟨t2, e9⟩ : ∃ t9 : zs_T, t9 = zs_i st (d0 + 1) (st.1 d0 4).toNatClampNeg l1 := ⟨_, rfl⟩
  have h := h t2 e9
  have hP : zs_P g zs_ly zs_N A t2 H := by rw [e9]; exact hP
  clear e9
  refine lv_aload_n hx hb dPR_append_14 rfl (lv_at hl 1 rfl) ?_
  refine zr_getr (b := d0 + 2) hx hb hts zi_PR hown hK.1 hP hd0.1.1 hd0.1.2 rfl 1 (by decide) rfl (hts _ zq_39) dPR_append_15 ?_
  refine lv_iload hx hb dPR_append_18 (lv_at hl 0 rfl) ?_
  refine lv_iload_n hx hb dPR_append_20 rfl (lv_at hl 3 rfl) ?_
  obtain ⟨hi3, h⟩ := h
  refine zr_iast hx hb hK.1 hP hS hd0.2.2.1.1 hd0.2.2.1.2 hi3 dPR_append_21 (fun H locs hP hS => ?_)
  obtain ⟨t4, e9⟩ : ∃ t9 : zs_T, t9 = zs_i t2 (d0 + 2) (st.1 d0 4).toNatClampNeg l2 := ⟨_, rfl⟩
  have h := h t4 e9
  have hP : zs_P g zs_ly zs_N A t4 H := by rw [e9]; exact hP
  clear e9
  refine lv_aload_n hx hb dPR_append_22 rfl (lv_at hl 1 rfl) ?_
  refine zr_getr (b := d0 + 3) hx hb hts zi_PR hown hK.1 hP hd0.1.1 hd0.1.2 rfl 2 (by decide) rfl (hts _ zq_45) dPR_append_23 ?_
  refine lv_iload hx hb dPR_append_26 (lv_at hl 0 rfl) ?_
  refine lv_iload_n hx hb dPR_append_28 rfl (lv_at hl 4 rfl) ?_
  obtain ⟨hi5, h⟩ := h
  refine zr_iast hx hb hK.1 hP hS hd0.2.2.2.1.1 hd0.2.2.2.1.2 hi5 dPR_append_29 (fun H locs hP hS => ?_)
  obtain ⟨t6, e9⟩ : ∃ t9 : zs_T, t9 = zs_i t4 (d0 + 3) (st.1 d0 4).toNatClampNeg l3 := ⟨_, rfl⟩
  have h := h t6 e9
  have hP : zs_P g zs_ly zs_N A t6 H := by rw [e9]; exact hP
  clear e9
  refine lv_aload_n hx hb dPR_append_30 rfl (lv_at hl 1 rfl) ?_
  refine zr_getr (b := d0 + 4) hx hb hts zi_PR hown hK.1 hP hd0.1.1 hd0.1.2 rfl 3 (by decide) rfl (hts _ zq_51) dPR_append_31 ?_
  refine lv_iload hx hb dPR_append_34 (lv_at hl 0 rfl) ?_
  refine lv_iload hx hb dPR_append_36 (lv_at hl 5 rfl) ?_
  obtain ⟨hi7, h⟩ := h
  refine zr_iast hx hb hK.1 hP hS hd0.2.2.2.2.1 hd0.2.2.2.2.2 hi7 dPR_append_38 (fun H locs hP hS => ?_)
  obtain ⟨t8, e9⟩ : ∃ t9 : zs_T, t9 = zs_i t6 (d0 + 4) (st.1 d0 4).toNatClampNeg l4 := ⟨_, rfl⟩
  have h := h t8 e9
  have hP : zs_P g zs_ly zs_N A t8 H := by rw [e9]; exact hP
  clear e9
  refine lv_aload_n hx hb dPR_append_39 rfl (lv_at hl 1 rfl) ?_
  refine lv_dup hx hb dPR_append_40 rfl ?_
  refine zr_geti hx hb hts zi_PR hown hK.1 hP hd0.1.1 hd0.1.2 rfl 4 (by decide) rfl (hts _ zq_54) dPR_append_41 ?_
  refine lv_iconst (v := 1) hx hb dPR_append_44 (by decide) ?_
  refine lv_iadd hx hb dPR_append_45 ?_
  refine zr_put hx hb hts zi_PR tyPR tyPR_ok nmPR hown hK.1 hP hS hd0.1.1 hd0.1.2 rfl 4 (by decide) rfl (hts _ zq_54) rfl rfl rfl dPR_append_46 (fun H locs hP hS => ?_)
  obtain ⟨t9, e9⟩ : ∃ t9 : zs_T, t9 = zs_i t8 d0 4 ((t8.1 d0 4) + 1) := ⟨_, rfl⟩
  have h := h t9 e9
  have hP : zs_P g zs_ly zs_N A t9 H := by rw [e9]; exact hP
  clear e9
  refine lv_iload hx hb dPR_append_49 (lv_at hl 0 rfl) ?_
  exact zr_iret hx hb hr hlk hP hS h dPR_append_51
set_option maxHeartbeats 4000000 in
set_option maxRecDepth 100000 in
theorem zc_PR_replace (l : Launch) (g : zs_G) (A : Nat → Prop) {d0 : Nat} {l1 : Int32} {l2 : Int32} {l3 : Int32} {l4 : Int32} (hd0 : zs_Pr d0) {st : zs_T} {K : zs_T → Prop} (h : zf_PR_replace d0 l1 l2 l3 l4 st K) : Met l yPR_replace (.code yPR_replace cPR_replace 5 none :: zs_tb) (zs_rm 0 0) (zs_Pc zs_nl g zs_ly zs_N A [.ref (g.2.1 d0), .int l1, .int l2, .int l3, .int l4] st) (zs_Qv g zs_ly zs_N A K) 0 0 A := by
  refine zs_met (cc := cPR_replace) (maxL := 5) (ret := none) (by decide) (Nat.le_of_ble_eq_true rfl) (fun p e s m below meth c hM => ?_)
  have hM : zs_M p c cPR_replace 5 s m meth [.ref (g.2.1 d0), .int l1, .int l2, .int l3, .int l4].toArray "ThriftyStores$Program" none g := hM
  obtain ⟨hx, hb, hml, hr, hlk, hts, hown, hK⟩ := id hM
  intro ls H locs hl hP hS
  have hl : lv_has ls 5 [(0, .ref (g.2.1 d0)), (1, .int l1), (2, .int l2), (3, .int l3), (4, .int l4)] := hl
  unfold zf_PR_replace at h
  refine lv_aload_n hx hb dPR_replace_0 rfl (lv_at hl 0 rfl) ?_
  refine zr_getr (b := d0 + 1) hx hb hts zi_PR hown hK.1 hP hd0.1.1 hd0.1.2 rfl 0 (by decide) rfl (hts _ zq_33) dPR_replace_1 ?_
  refine lv_iload_n hx hb dPR_replace_4 rfl (lv_at hl 1 rfl) ?_
  refine lv_iload_n hx hb dPR_replace_5 rfl (lv_at hl 2 rfl) ?_
  obtain ⟨hi1, h⟩ := h
  refine zr_iast hx hb hK.1 hP hS hd0.2.1.1 hd0.2.1.2 hi1 dPR_replace_6 (fun H locs hP hS => ?_)
  obtain ⟨t2, e9⟩ : ∃ t9 : zs_T, t9 = zs_i st (d0 + 1) l1.toNatClampNeg l2 := ⟨_, rfl⟩
  have h := h t2 e9
  have hP : zs_P g zs_ly zs_N A t2 H := by rw [e9]; exact hP
  clear e9
  refine lv_aload_n hx hb dPR_replace_7 rfl (lv_at hl 0 rfl) ?_
  refine zr_getr (b := d0 + 2) hx hb hts zi_PR hown hK.1 hP hd0.1.1 hd0.1.2 rfl 1 (by decide) rfl (hts _ zq_39) dPR_replace_8 ?_
  refine lv_iload_n hx hb dPR_replace_11 rfl (lv_at hl 1 rfl) ?_
  refine lv_iload_n hx hb dPR_replace_12 rfl (lv_at hl 3 rfl) ?_
  obtain ⟨hi3, h⟩ := h
  refine zr_iast hx hb hK.1 hP hS hd0.2.2.1.1 hd0.2.2.1.2 hi3 dPR_replace_13 (fun H locs hP hS => ?_)
  obtain ⟨t4, e9⟩ : ∃ t9 : zs_T, t9 = zs_i t2 (d0 + 2) l1.toNatClampNeg l3 := ⟨_, rfl⟩
  have h := h t4 e9
  have hP : zs_P g zs_ly zs_N A t4 H := by rw [e9]; exact hP
  clear e9
  refine lv_aload_n hx hb dPR_replace_14 rfl (lv_at hl 0 rfl) ?_
  refine zr_getr (b := d0 + 3) hx hb hts zi_PR hown hK.1 hP hd0.1.1 hd0.1.2 rfl 2 (by decide) rfl (hts _ zq_45) dPR_replace_15 ?_
  refine lv_iload_n hx hb dPR_replace_18 rfl (lv_at hl 1 rfl) ?_
  refine lv_iload hx hb dPR_replace_19 (lv_at hl 4 rfl) ?_
  obtain ⟨hi5, h⟩ := h
  refine zr_iast hx hb hK.1 hP hS hd0.2.2.2.1.1 hd0.2.2.2.1.2 hi5 dPR_replace_21 (fun H locs hP hS => ?_)
  obtain ⟨t6, e9⟩ : ∃ t9 : zs_T, t9 = zs_i t4 (d0 + 3) l1.toNatClampNeg l4 := ⟨_, rfl⟩
  have h := h t6 e9
  have hP : zs_P g zs_ly zs_N A t6 H := by rw [e9]; exact hP
  clear e9
  refine lv_aload_n hx hb dPR_replace_22 rfl (lv_at hl 0 rfl) ?_
  refine zr_getr (b := d0 + 4) hx hb hts zi_PR hown hK.1 hP hd0.1.1 hd0.1.2 rfl 3 (by decide) rfl (hts _ zq_51) dPR_replace_23 ?_
  refine lv_iload_n hx hb dPR_replace_26 rfl (lv_at hl 1 rfl) ?_
  refine lv_iconst (v := 0) hx hb dPR_replace_27 (by decide) ?_
  obtain ⟨hi7, h⟩ := h
  refine zr_iast hx hb hK.1 hP hS hd0.2.2.2.2.1 hd0.2.2.2.2.2 hi7 dPR_replace_28 (fun H locs hP hS => ?_)
  obtain ⟨t8, e9⟩ : ∃ t9 : zs_T, t9 = zs_i t6 (d0 + 4) l1.toNatClampNeg 0 := ⟨_, rfl⟩
  have h := h t8 e9
  have hP : zs_P g zs_ly zs_N A t8 H := by rw [e9]; exact hP
  clear e9
  exact zr_vret hx hb hr hlk hP hS h dPR_replace_29
set_option maxHeartbeats 4000000 in
set_option maxRecDepth 100000 in
theorem zc_PR_copy (l : Launch) (g : zs_G) (A : Nat → Prop) {d0 : Nat} {d1 : Nat} (hd0 : zs_Pr d0) (hd1 : zs_Pr d1) {st : zs_T} {K : zs_T → Prop} (h : zf_PR_copy d0 d1 st K) : Met l yPR_copy (.code yPR_copy cPR_copy 2 none :: zs_tb) (zs_rm 1 18) (zs_Pc zs_nl g zs_ly zs_N A [.ref (g.2.1 d0), .ref (g.2.1 d1)] st) (zs_Qv g zs_ly zs_N A K) 0 0 A := by
  refine zs_met (cc := cPR_copy) (maxL := 2) (ret := none) (by decide) (Nat.le_of_ble_eq_true rfl) (fun p e s m below meth c hM => ?_)
  have hM : zs_M p c cPR_copy 2 s m meth [.ref (g.2.1 d0), .ref (g.2.1 d1)].toArray "ThriftyStores$Program" none g := hM
  obtain ⟨hx, hb, hml, hr, hlk, hts, hown, hK⟩ := id hM
  intro ls H locs hl hP hS
  have hl : lv_has ls 2 [(0, .ref (g.2.1 d0)), (1, .ref (g.2.1 d1))] := hl
  unfold zf_PR_copy at h
  refine lv_aload_n hx hb dPR_copy_0 rfl (lv_at hl 1 rfl) ?_
  refine zr_getr (b := d1 + 1) hx hb hts zi_PR hown hK.1 hP hd1.1.1 hd1.1.2 rfl 0 (by decide) rfl (hts _ zq_33) dPR_copy_1 ?_
  refine lv_iconst (v := 0) hx hb dPR_copy_4 (by decide) ?_
  refine lv_aload_n hx hb dPR_copy_5 rfl (lv_at hl 0 rfl) ?_
  refine zr_getr (b := d0 + 1) hx hb hts zi_PR hown hK.1 hP hd0.1.1 hd0.1.2 rfl 0 (by decide) rfl (hts _ zq_33) dPR_copy_6 ?_
  refine lv_iconst (v := 0) hx hb dPR_copy_9 (by decide) ?_
  refine lv_aload_n hx hb dPR_copy_10 rfl (lv_at hl 1 rfl) ?_
  refine zr_geti hx hb hts zi_PR hown hK.1 hP hd1.1.1 hd1.1.2 rfl 4 (by decide) rfl (hts _ zq_54) dPR_copy_11 ?_
  obtain ⟨hq1, hq2, hq3, hq4, hq5, h⟩ := h
  refine zr_copy hx hb (hml.trans hl.1.symm) hown (hts _ zq_371) (hts _ zq_373) (hts _ zq_372) (hts _ zq_14) hK.1 hP hS hd1.2.1.1 hd1.2.1.2 hd0.2.1.1 hd0.2.1.2 hq1 hq2 hq3 hq4 hq5 (by decide) (by decide) dPR_copy_14 (fun H locs hP hS => ?_)
  obtain ⟨t6, e9⟩ : ∃ t9 : zs_T, t9 = zs_a st (d0 + 1) (va_cpy (st.1 (d1 + 1)) (st.1 (d0 + 1)) (0 : Int32).toNatClampNeg (0 : Int32).toNatClampNeg (st.1 d1 4).toNatClampNeg) := ⟨_, rfl⟩
  have h := h t6 e9
  have hP : zs_P g zs_ly zs_N A t6 H := by rw [e9]; exact hP
  clear e9
  refine lv_aload_n hx hb dPR_copy_17 rfl (lv_at hl 1 rfl) ?_
  refine zr_getr (b := d1 + 2) hx hb hts zi_PR hown hK.1 hP hd1.1.1 hd1.1.2 rfl 1 (by decide) rfl (hts _ zq_39) dPR_copy_18 ?_
  refine lv_iconst (v := 0) hx hb dPR_copy_21 (by decide) ?_
  refine lv_aload_n hx hb dPR_copy_22 rfl (lv_at hl 0 rfl) ?_
  refine zr_getr (b := d0 + 2) hx hb hts zi_PR hown hK.1 hP hd0.1.1 hd0.1.2 rfl 1 (by decide) rfl (hts _ zq_39) dPR_copy_23 ?_
  refine lv_iconst (v := 0) hx hb dPR_copy_26 (by decide) ?_
  refine lv_aload_n hx hb dPR_copy_27 rfl (lv_at hl 1 rfl) ?_
  refine zr_geti hx hb hts zi_PR hown hK.1 hP hd1.1.1 hd1.1.2 rfl 4 (by decide) rfl (hts _ zq_54) dPR_copy_28 ?_
  obtain ⟨hq7, hq8, hq9, hq10, hq11, h⟩ := h
  refine zr_copy hx hb (hml.trans hl.1.symm) hown (hts _ zq_371) (hts _ zq_373) (hts _ zq_372) (hts _ zq_14) hK.1 hP hS hd1.2.2.1.1 hd1.2.2.1.2 hd0.2.2.1.1 hd0.2.2.1.2 hq7 hq8 hq9 hq10 hq11 (by decide) (by decide) dPR_copy_31 (fun H locs hP hS => ?_)
  obtain ⟨t12, e9⟩ : ∃ t9 : zs_T, t9 = zs_a t6 (d0 + 2) (va_cpy (t6.1 (d1 + 2)) (t6.1 (d0 + 2)) (0 : Int32).toNatClampNeg (0 : Int32).toNatClampNeg (t6.1 d1 4).toNatClampNeg) := ⟨_, rfl⟩
  have h := h t12 e9
  have hP : zs_P g zs_ly zs_N A t12 H := by rw [e9]; exact hP
  clear e9
  refine lv_aload_n hx hb dPR_copy_34 rfl (lv_at hl 1 rfl) ?_
  refine zr_getr (b := d1 + 3) hx hb hts zi_PR hown hK.1 hP hd1.1.1 hd1.1.2 rfl 2 (by decide) rfl (hts _ zq_45) dPR_copy_35 ?_
  refine lv_iconst (v := 0) hx hb dPR_copy_38 (by decide) ?_
  refine lv_aload_n hx hb dPR_copy_39 rfl (lv_at hl 0 rfl) ?_
  refine zr_getr (b := d0 + 3) hx hb hts zi_PR hown hK.1 hP hd0.1.1 hd0.1.2 rfl 2 (by decide) rfl (hts _ zq_45) dPR_copy_40 ?_
  refine lv_iconst (v := 0) hx hb dPR_copy_43 (by decide) ?_
  refine lv_aload_n hx hb dPR_copy_44 rfl (lv_at hl 1 rfl) ?_
  refine zr_geti hx hb hts zi_PR hown hK.1 hP hd1.1.1 hd1.1.2 rfl 4 (by decide) rfl (hts _ zq_54) dPR_copy_45 ?_
  obtain ⟨hq13, hq14, hq15, hq16, hq17, h⟩ := h
  refine zr_copy hx hb (hml.trans hl.1.symm) hown (hts _ zq_371) (hts _ zq_373) (hts _ zq_372) (hts _ zq_14) hK.1 hP hS hd1.2.2.2.1.1 hd1.2.2.2.1.2 hd0.2.2.2.1.1 hd0.2.2.2.1.2 hq13 hq14 hq15 hq16 hq17 (by decide) (by decide) dPR_copy_48 (fun H locs hP hS => ?_)
  obtain ⟨t18, e9⟩ : ∃ t9 : zs_T, t9 = zs_a t12 (d0 + 3) (va_cpy (t12.1 (d1 + 3)) (t12.1 (d0 + 3)) (0 : Int32).toNatClampNeg (0 : Int32).toNatClampNeg (t12.1 d1 4).toNatClampNeg) := ⟨_, rfl⟩
  have h := h t18 e9
  have hP : zs_P g zs_ly zs_N A t18 H := by rw [e9]; exact hP
  clear e9
  refine lv_aload_n hx hb dPR_copy_51 rfl (lv_at hl 1 rfl) ?_
  refine zr_getr (b := d1 + 4) hx hb hts zi_PR hown hK.1 hP hd1.1.1 hd1.1.2 rfl 3 (by decide) rfl (hts _ zq_51) dPR_copy_52 ?_
  refine lv_iconst (v := 0) hx hb dPR_copy_55 (by decide) ?_
  refine lv_aload_n hx hb dPR_copy_56 rfl (lv_at hl 0 rfl) ?_
  refine zr_getr (b := d0 + 4) hx hb hts zi_PR hown hK.1 hP hd0.1.1 hd0.1.2 rfl 3 (by decide) rfl (hts _ zq_51) dPR_copy_57 ?_
  refine lv_iconst (v := 0) hx hb dPR_copy_60 (by decide) ?_
  refine lv_aload_n hx hb dPR_copy_61 rfl (lv_at hl 1 rfl) ?_
  refine zr_geti hx hb hts zi_PR hown hK.1 hP hd1.1.1 hd1.1.2 rfl 4 (by decide) rfl (hts _ zq_54) dPR_copy_62 ?_
  obtain ⟨hq19, hq20, hq21, hq22, hq23, h⟩ := h
  refine zr_copy hx hb (hml.trans hl.1.symm) hown (hts _ zq_371) (hts _ zq_373) (hts _ zq_372) (hts _ zq_14) hK.1 hP hS hd1.2.2.2.2.1 hd1.2.2.2.2.2 hd0.2.2.2.2.1 hd0.2.2.2.2.2 hq19 hq20 hq21 hq22 hq23 (by decide) (by decide) dPR_copy_65 (fun H locs hP hS => ?_)
  obtain ⟨t24, e9⟩ : ∃ t9 : zs_T, t9 = zs_a t18 (d0 + 4) (va_cpy (t18.1 (d1 + 4)) (t18.1 (d0 + 4)) (0 : Int32).toNatClampNeg (0 : Int32).toNatClampNeg (t18.1 d1 4).toNatClampNeg) := ⟨_, rfl⟩
  have h := h t24 e9
  have hP : zs_P g zs_ly zs_N A t24 H := by rw [e9]; exact hP
  clear e9
  refine lv_aload_n hx hb dPR_copy_68 rfl (lv_at hl 0 rfl) ?_
  refine lv_aload_n hx hb dPR_copy_69 rfl (lv_at hl 1 rfl) ?_
  refine zr_geti hx hb hts zi_PR hown hK.1 hP hd1.1.1 hd1.1.2 rfl 4 (by decide) rfl (hts _ zq_54) dPR_copy_70 ?_
  refine zr_put hx hb hts zi_PR tyPR tyPR_ok nmPR hown hK.1 hP hS hd0.1.1 hd0.1.2 rfl 4 (by decide) rfl (hts _ zq_54) rfl rfl rfl dPR_copy_73 (fun H locs hP hS => ?_)
  obtain ⟨t25, e9⟩ : ∃ t9 : zs_T, t9 = zs_i t24 d0 4 (t24.1 d1 4) := ⟨_, rfl⟩
  have h := h t25 e9
  have hP : zs_P g zs_ly zs_N A t25 H := by rw [e9]; exact hP
  clear e9
  exact zr_vret hx hb hr hlk hP hS h dPR_copy_76
set_option maxHeartbeats 4000000 in
set_option maxRecDepth 100000 in
theorem zc_PR_part (l : Launch) (g : zs_G) (A : Nat → Prop) {d0 : Nat} {l1 : Int32} {l2 : Int32} (hd0 : zs_Pr d0) {st : zs_T} {K : Int32 → zs_T → Prop} (h : zf_PR_part d0 l1 l2 st K) : Met l yPR_part (.code yPR_part cPR_part 3 (some .int) :: zs_tb) (zs_rm 0 0) (zs_Pc zs_nl g zs_ly zs_N A [.ref (g.2.1 d0), .int l1, .int l2] st) (zs_Qi g zs_ly zs_N A K) 0 0 A := by
  refine zs_met (cc := cPR_part) (maxL := 3) (ret := (some .int)) (by decide) (Nat.le_of_ble_eq_true rfl) (fun p e s m below meth c hM => ?_)
  have hM : zs_M p c cPR_part 3 s m meth [.ref (g.2.1 d0), .int l1, .int l2].toArray "ThriftyStores$Program" (some .int) g := hM
  obtain ⟨hx, hb, hml, hr, hlk, hts, hown, hK⟩ := id hM
  intro ls H locs hl hP hS
  have hl : lv_has ls 3 [(0, .ref (g.2.1 d0)), (1, .int l1), (2, .int l2)] := hl
  unfold zf_PR_part at h
  refine lv_iload_n hx hb dPR_part_0 rfl (lv_at hl 2 rfl) ?_
  by_cases hc : l2 = 0
  · refine lv_tableIn (tgt := 28) (off := 27) hx hb dPR_part_1 (by rw [hc]; decide) (by rw [hc]; decide) (by rw [hc]; decide) rfl ?_
    have h := h.1 hc
    clear hc
    refine lv_aload_n hx hb dPR_part_28 rfl (lv_at hl 0 rfl) ?_
    refine zr_getr (b := d0 + 1) hx hb hts zi_PR hown hK.1 hP hd0.1.1 hd0.1.2 rfl 0 (by decide) rfl (hts _ zq_33) dPR_part_29 ?_
    refine lv_iload_n hx hb dPR_part_32 rfl (lv_at hl 1 rfl) ?_
    obtain ⟨hi1, h⟩ := h
    refine zr_iald hx hb hK.1 hP hd0.2.1.1 hd0.2.1.2 hi1 dPR_part_33 ?_
    exact zr_iret hx hb hr hlk hP hS h dPR_part_34
  · have h := h.2 hc
    have hn0 := hc
    clear hc
    by_cases hc : l2 = 1
    · refine lv_tableIn (tgt := 35) (off := 34) hx hb dPR_part_1 (by rw [hc]; decide) (by rw [hc]; decide) (by rw [hc]; decide) rfl ?_
      have h := h.1 hc
      clear hc
      refine lv_aload_n hx hb dPR_part_35 rfl (lv_at hl 0 rfl) ?_
      refine zr_getr (b := d0 + 2) hx hb hts zi_PR hown hK.1 hP hd0.1.1 hd0.1.2 rfl 1 (by decide) rfl (hts _ zq_39) dPR_part_36 ?_
      refine lv_iload_n hx hb dPR_part_39 rfl (lv_at hl 1 rfl) ?_
      obtain ⟨hi2, h⟩ := h
      refine zr_iald hx hb hK.1 hP hd0.2.2.1.1 hd0.2.2.1.2 hi2 dPR_part_40 ?_
      exact zr_iret hx hb hr hlk hP hS h dPR_part_41
    · have h := h.2 hc
      have hn1 := hc
      clear hc
      by_cases hc : l2 = 2
      · refine lv_tableIn (tgt := 42) (off := 41) hx hb dPR_part_1 (by rw [hc]; decide) (by rw [hc]; decide) (by rw [hc]; decide) rfl ?_
        have h := h.1 hc
        clear hc
        refine lv_aload_n hx hb dPR_part_42 rfl (lv_at hl 0 rfl) ?_
        refine zr_getr (b := d0 + 3) hx hb hts zi_PR hown hK.1 hP hd0.1.1 hd0.1.2 rfl 2 (by decide) rfl (hts _ zq_45) dPR_part_43 ?_
        refine lv_iload_n hx hb dPR_part_46 rfl (lv_at hl 1 rfl) ?_
        obtain ⟨hi3, h⟩ := h
        refine zr_iald hx hb hK.1 hP hd0.2.2.2.1.1 hd0.2.2.2.1.2 hi3 dPR_part_47 ?_
        exact zr_iret hx hb hr hlk hP hS h dPR_part_48
      · have h := h.2 hc
        have hn2 := hc
        clear hc
        refine lv_tableOut (tgt := 49) hx hb dPR_part_1 (by have q0 := lv_neT hn0 (a := 0) (by decide); have q1 := lv_neT hn1 (a := 1) (by decide); have q2 := lv_neT hn2 (a := 2) (by decide); omega) rfl ?_
        refine lv_aload_n hx hb dPR_part_49 rfl (lv_at hl 0 rfl) ?_
        refine zr_getr (b := d0 + 4) hx hb hts zi_PR hown hK.1 hP hd0.1.1 hd0.1.2 rfl 3 (by decide) rfl (hts _ zq_51) dPR_part_50 ?_
        refine lv_iload_n hx hb dPR_part_53 rfl (lv_at hl 1 rfl) ?_
        obtain ⟨hi4, h⟩ := h
        refine zr_iald hx hb hK.1 hP hd0.2.2.2.2.1 hd0.2.2.2.2.2 hi4 dPR_part_54 ?_
        exact zr_iret hx hb hr hlk hP hS h dPR_part_55
set_option maxHeartbeats 4000000 in
set_option maxRecDepth 100000 in
theorem zc_PR_setsFirst (l : Launch) (g : zs_G) (A : Nat → Prop) {d0 : Nat} {l1 : Int32} (hd0 : zs_Pr d0) {st : zs_T} {K : Int32 → zs_T → Prop} (h : zf_PR_setsFirst d0 l1 st K) : Met l yPR_setsFirst (.code yPR_setsFirst cPR_setsFirst 2 (some .boolean) :: zs_tb) (zs_rm 0 0) (zs_Pc zs_nl g zs_ly zs_N A [.ref (g.2.1 d0), .int l1] st) (zs_Qi g zs_ly zs_N A K) 0 0 A := by
  refine zs_met (cc := cPR_setsFirst) (maxL := 2) (ret := (some .boolean)) (by decide) (Nat.le_of_ble_eq_true rfl) (fun p e s m below meth c hM => ?_)
  have hM : zs_M p c cPR_setsFirst 2 s m meth [.ref (g.2.1 d0), .int l1].toArray "ThriftyStores$Program" (some .boolean) g := hM
  obtain ⟨hx, hb, hml, hr, hlk, hts, hown, hK⟩ := id hM
  intro ls H locs hl hP hS
  have hl : lv_has ls 2 [(0, .ref (g.2.1 d0)), (1, .int l1)] := hl
  unfold zf_PR_setsFirst at h
  refine lv_aload_n hx hb dPR_setsFirst_0 rfl (lv_at hl 0 rfl) ?_
  refine zr_getr (b := d0 + 1) hx hb hts zi_PR hown hK.1 hP hd0.1.1 hd0.1.2 rfl 0 (by decide) rfl (hts _ zq_33) dPR_setsFirst_1 ?_
  refine lv_iload_n hx hb dPR_setsFirst_4 rfl (lv_at hl 1 rfl) ?_
  obtain ⟨hi1, h⟩ := h
  refine zr_iald hx hb hK.1 hP hd0.2.1.1 hd0.2.1.2 hi1 dPR_setsFirst_5 ?_
  refine lv_bipush (v := 9) hx hb dPR_setsFirst_6 (by decide) ?_
  refine lv_icmp_gt (tgt := 15) hx hb dPR_setsFirst_8 rfl (fun hc => ?_) (fun hc => ?_)
  · have h := h.1 hc
    clear hc
    refine lv_iconst (v := 0) hx hb dPR_setsFirst_15 (by decide) ?_
    exact zr_zret hx hb hr hlk hP hS rfl h dPR_setsFirst_16
  · have h := h.2 hc
    clear hc
    refine lv_iconst (v := 1) hx hb dPR_setsFirst_11 (by decide) ?_
    refine lv_goto (tgt := 16) hx hb dPR_setsFirst_12 rfl ?_
    exact zr_zret hx hb hr hlk hP hS rfl h dPR_setsFirst_16
set_option maxHeartbeats 4000000 in
set_option maxRecDepth 100000 in
theorem zc_PR_follower (l : Launch) (g : zs_G) (A : Nat → Prop) {d0 : Nat} {l1 : Int32} (hd0 : zs_Pr d0) {st : zs_T} {K : Int32 → zs_T → Prop} (h : zf_PR_follower d0 l1 st K) : Met l yPR_follower (.code yPR_follower cPR_follower 2 (some .int) :: zs_tb) (zs_rm 0 0) (zs_Pc zs_nl g zs_ly zs_N A [.ref (g.2.1 d0), .int l1] st) (zs_Qi g zs_ly zs_N A K) 0 0 A := by
  refine zs_met (cc := cPR_follower) (maxL := 2) (ret := (some .int)) (by decide) (Nat.le_of_ble_eq_true rfl) (fun p e s m below meth c hM => ?_)
  have hM : zs_M p c cPR_follower 2 s m meth [.ref (g.2.1 d0), .int l1].toArray "ThriftyStores$Program" (some .int) g := hM
  obtain ⟨hx, hb, hml, hr, hlk, hts, hown, hK⟩ := id hM
  intro ls H locs hl hP hS
  have hl : lv_has ls 2 [(0, .ref (g.2.1 d0)), (1, .int l1)] := hl
  unfold zf_PR_follower at h
  refine lv_aload_n hx hb dPR_follower_0 rfl (lv_at hl 0 rfl) ?_
  refine zr_getr (b := d0 + 1) hx hb hts zi_PR hown hK.1 hP hd0.1.1 hd0.1.2 rfl 0 (by decide) rfl (hts _ zq_33) dPR_follower_1 ?_
  refine lv_iload_n hx hb dPR_follower_4 rfl (lv_at hl 1 rfl) ?_
  obtain ⟨hi1, h⟩ := h
  refine zr_iald hx hb hK.1 hP hd0.2.1.1 hd0.2.1.2 hi1 dPR_follower_5 ?_
  refine lv_bipush (v := 12) hx hb dPR_follower_6 (by decide) ?_
  refine lv_icmp_eq (tgt := 22) hx hb dPR_follower_8 rfl (fun hc => ?_) (fun hc => ?_)
  · have h := h.1 hc
    clear hc
    refine lv_iconst (v := (-1)) hx hb dPR_follower_22 (by decide) ?_
    refine lv_goto (tgt := 29) hx hb dPR_follower_23 rfl ?_
    exact zr_iret hx hb hr hlk hP hS h dPR_follower_29
  · have h := h.2 hc
    clear hc
    refine lv_aload_n hx hb dPR_follower_11 rfl (lv_at hl 0 rfl) ?_
    refine zr_getr (b := d0 + 1) hx hb hts zi_PR hown hK.1 hP hd0.1.1 hd0.1.2 rfl 0 (by decide) rfl (hts _ zq_33) dPR_follower_12 ?_
    refine lv_iload_n hx hb dPR_follower_15 rfl (lv_at hl 1 rfl) ?_
    obtain ⟨hi2, h⟩ := h
    refine zr_iald hx hb hK.1 hP hd0.2.1.1 hd0.2.1.2 hi2 dPR_follower_16 ?_
    refine lv_bipush (v := 14) hx hb dPR_follower_17 (by decide) ?_
    refine lv_icmp_ne (tgt := 26) hx hb dPR_follower_19 rfl (fun hc => ?_) (fun hc => ?_)
    · have h := h.1 hc
      clear hc
      refine lv_iload_n hx hb dPR_follower_26 rfl (lv_at hl 1 rfl) ?_
      refine lv_iconst (v := 1) hx hb dPR_follower_27 (by decide) ?_
      refine lv_iadd hx hb dPR_follower_28 ?_
      exact zr_iret hx hb hr hlk hP hS h dPR_follower_29
    · have h := h.2 hc
      clear hc
      refine lv_iconst (v := (-1)) hx hb dPR_follower_22 (by decide) ?_
      refine lv_goto (tgt := 29) hx hb dPR_follower_23 rfl ?_
      exact zr_iret hx hb hr hlk hP hS h dPR_follower_29
set_option maxHeartbeats 4000000 in
set_option maxRecDepth 100000 in
theorem zc_PR_target (l : Launch) (g : zs_G) (A : Nat → Prop) {d0 : Nat} {l1 : Int32} (hd0 : zs_Pr d0) {st : zs_T} {K : Int32 → zs_T → Prop} (h : zf_PR_target d0 l1 st K) : Met l yPR_target (.code yPR_target cPR_target 2 (some .int) :: zs_tb) (zs_rm 1 21) (zs_Pc zs_nl g zs_ly zs_N A [.ref (g.2.1 d0), .int l1] st) (zs_Qi g zs_ly zs_N A K) 0 0 A := by
  refine zs_met (cc := cPR_target) (maxL := 2) (ret := (some .int)) (by decide) (Nat.le_of_ble_eq_true rfl) (fun p e s m below meth c hM => ?_)
  have hM : zs_M p c cPR_target 2 s m meth [.ref (g.2.1 d0), .int l1].toArray "ThriftyStores$Program" (some .int) g := hM
  obtain ⟨hx, hb, hml, hr, hlk, hts, hown, hK⟩ := id hM
  intro ls H locs hl hP hS
  have hl : lv_has ls 2 [(0, .ref (g.2.1 d0)), (1, .int l1)] := hl
  unfold zf_PR_target at h
  refine lv_aload_n hx hb dPR_target_0 rfl (lv_at hl 0 rfl) ?_
  refine zr_getr (b := d0 + 1) hx hb hts zi_PR hown hK.1 hP hd0.1.1 hd0.1.2 rfl 0 (by decide) rfl (hts _ zq_33) dPR_target_1 ?_
  refine lv_iload_n hx hb dPR_target_4 rfl (lv_at hl 1 rfl) ?_
  obtain ⟨hi1, h⟩ := h
  refine zr_iald hx hb hK.1 hP hd0.2.1.1 hd0.2.1.2 hi1 dPR_target_5 ?_
  refine lv_bipush (v := 12) hx hb dPR_target_6 (by decide) ?_
  refine lv_icmp_ne (tgt := 25) hx hb dPR_target_8 rfl (fun hc => ?_) (fun hc => ?_)
  · have h := h.1 hc
    clear hc
    refine lv_aload_n hx hb dPR_target_25 rfl (lv_at hl 0 rfl) ?_
    refine zr_getr (b := d0 + 1) hx hb hts zi_PR hown hK.1 hP hd0.1.1 hd0.1.2 rfl 0 (by decide) rfl (hts _ zq_33) dPR_target_26 ?_
    refine lv_iload_n hx hb dPR_target_29 rfl (lv_at hl 1 rfl) ?_
    obtain ⟨hi2, h⟩ := h
    refine zr_iald hx hb hK.1 hP hd0.2.1.1 hd0.2.1.2 hi2 dPR_target_30 ?_
    refine lv_bipush (v := 13) hx hb dPR_target_31 (by decide) ?_
    refine lv_icmp_ne (tgt := 52) hx hb dPR_target_33 rfl (fun hc => ?_) (fun hc => ?_)
    · have h := h.1 hc
      clear hc
      refine lv_iconst (v := (-1)) hx hb dPR_target_52 (by decide) ?_
      exact zr_iret hx hb hr hlk hP hS h dPR_target_53
    · have h := h.2 hc
      clear hc
      refine lv_aload_n hx hb dPR_target_36 rfl (lv_at hl 0 rfl) ?_
      refine zr_getr (b := d0 + 3) hx hb hts zi_PR hown hK.1 hP hd0.1.1 hd0.1.2 rfl 2 (by decide) rfl (hts _ zq_45) dPR_target_37 ?_
      refine lv_iload_n hx hb dPR_target_40 rfl (lv_at hl 1 rfl) ?_
      obtain ⟨hi3, h⟩ := h
      refine zr_iald hx hb hK.1 hP hd0.2.2.2.1.1 hd0.2.2.2.1.2 hi3 dPR_target_41 ?_
      refine lv_aload_n hx hb dPR_target_42 rfl (lv_at hl 0 rfl) ?_
      refine zr_geti hx hb hts zi_PR hown hK.1 hP hd0.1.1 hd0.1.2 rfl 4 (by decide) rfl (hts _ zq_54) dPR_target_43 ?_
      refine va_mmin hx hb (hml.trans hl.1.symm) hown (hts _ zq_495) (hts _ zq_496) (hts _ zq_16) (hts _ zq_497) (by decide) (by decide) (by decide) (by decide) dPR_target_46 ?_
      refine lv_goto (tgt := 53) hx hb dPR_target_49 rfl ?_
      exact zr_iret hx hb hr hlk hP hS h dPR_target_53
  · have h := h.2 hc
    clear hc
    refine lv_aload_n hx hb dPR_target_11 rfl (lv_at hl 0 rfl) ?_
    refine zr_getr (b := d0 + 2) hx hb hts zi_PR hown hK.1 hP hd0.1.1 hd0.1.2 rfl 1 (by decide) rfl (hts _ zq_39) dPR_target_12 ?_
    refine lv_iload_n hx hb dPR_target_15 rfl (lv_at hl 1 rfl) ?_
    obtain ⟨hi4, h⟩ := h
    refine zr_iald hx hb hK.1 hP hd0.2.2.1.1 hd0.2.2.1.2 hi4 dPR_target_16 ?_
    refine lv_aload_n hx hb dPR_target_17 rfl (lv_at hl 0 rfl) ?_
    refine zr_geti hx hb hts zi_PR hown hK.1 hP hd0.1.1 hd0.1.2 rfl 4 (by decide) rfl (hts _ zq_54) dPR_target_18 ?_
    refine va_mmin hx hb (hml.trans hl.1.symm) hown (hts _ zq_495) (hts _ zq_496) (hts _ zq_16) (hts _ zq_497) (by decide) (by decide) (by decide) (by decide) dPR_target_21 ?_
    exact zr_iret hx hb hr hlk hP hS h dPR_target_24
end ZW
