section ZW
variable {p : Program} {l : Launch} {e : Env} {s : State} {m : MethodId} {args : Array Value} {below : List Frame} {meth : Method} {c : Code} {g : zs_G} {A : Nat → Prop}
set_option maxHeartbeats 4000000 in
set_option maxRecDepth 100000 in
theorem zc_MA_number (l : Launch) (g : zs_G) (A : Nat → Prop) {l0 : Int32}  {st : zs_T} {K : Int64 → zs_T → Prop} (h : zf_MA_number l0 st K) : Met l yMA_number (.code yMA_number cMA_number 1 (some .long) :: zs_tb) (zs_rm 0 0) (zs_Pc zs_nl g zs_ly zs_N A [.int l0] st) (zs_Ql g zs_ly zs_N A K) 0 0 A := by
  refine zs_met (cc := cMA_number) (maxL := 1) (ret := (some .long)) (by decide) (Nat.le_of_ble_eq_true rfl) (fun p e s m below meth c hM => ?_)
  have hM : zs_M p c cMA_number 1 s m meth [.int l0].toArray "ThriftyStores$Machine" (some .long) g := hM
  obtain ⟨hx, hb, hml, hr, hlk, hts, hown, hK⟩ := id hM
  intro ls H locs hl hP hS
  have hl : lv_has ls 1 [(0, .int l0)] := hl
  unfold zf_MA_number at h
  refine lv_iload_n hx hb dMA_number_0 rfl (lv_at hl 0 rfl) ?_
  refine lv_i2l hx hb dMA_number_1 rfl ?_
  refine lv_ldc2 hx hb hown (hts _ zq_657) dMA_number_2 ?_
  refine lv_land hx hb dMA_number_5 ?_
  exact zr_lret hx hb hr hlk hP hS h dMA_number_6
set_option maxHeartbeats 4000000 in
set_option maxRecDepth 100000 in
theorem zc_MA_address (l : Launch) (g : zs_G) (A : Nat → Prop) {l0 : Int32} {l1 : Int32}  {st : zs_T} {K : Int64 → zs_T → Prop} (h : zf_MA_address l0 l1 st K) : Met l yMA_address (.code yMA_address cMA_address 2 (some .long) :: zs_tb) (zs_rm 0 0) (zs_Pc zs_nl g zs_ly zs_N A [.int l0, .int l1] st) (zs_Ql g zs_ly zs_N A K) 0 0 A := by
  refine zs_met (cc := cMA_address) (maxL := 2) (ret := (some .long)) (by decide) (Nat.le_of_ble_eq_true rfl) (fun p e s m below meth c hM => ?_)
  have hM : zs_M p c cMA_address 2 s m meth [.int l0, .int l1].toArray "ThriftyStores$Machine" (some .long) g := hM
  obtain ⟨hx, hb, hml, hr, hlk, hts, hown, hK⟩ := id hM
  intro ls H locs hl hP hS
  have hl : lv_has ls 2 [(0, .int l0), (1, .int l1)] := hl
  unfold zf_MA_address at h
  refine lv_iload_n hx hb dMA_address_0 rfl (lv_at hl 0 rfl) ?_
  refine lv_iconst (v := 1) hx hb dMA_address_1 (by decide) ?_
  refine lv_iadd hx hb dMA_address_2 ?_
  refine lv_i2l hx hb dMA_address_3 rfl ?_
  refine lv_bipush (v := 32) hx hb dMA_address_4 (by decide) ?_
  refine lv_lshl hx hb dMA_address_6 rfl ?_
  refine lv_iload_n hx hb dMA_address_7 rfl (lv_at hl 1 rfl) ?_
  refine lv_i2l hx hb dMA_address_8 rfl ?_
  refine lv_lor hx hb dMA_address_9 ?_
  exact zr_lret hx hb hr hlk hP hS h dMA_address_10
set_option maxHeartbeats 4000000 in
set_option maxRecDepth 100000 in
theorem zc_MA_isAddress (l : Launch) (g : zs_G) (A : Nat → Prop) {l0 : Int64}  {st : zs_T} {K : Int32 → zs_T → Prop} (h : zf_MA_isAddress l0 st K) : Met l yMA_isAddress (.code yMA_isAddress cMA_isAddress 2 (some .boolean) :: zs_tb) (zs_rm 0 0) (zs_Pc zs_nl g zs_ly zs_N A [.long l0] st) (zs_Qi g zs_ly zs_N A K) 0 0 A := by
  refine zs_met (cc := cMA_isAddress) (maxL := 2) (ret := (some .boolean)) (by decide) (Nat.le_of_ble_eq_true rfl) (fun p e s m below meth c hM => ?_)
  have hM : zs_M p c cMA_isAddress 2 s m meth [.long l0].toArray "ThriftyStores$Machine" (some .boolean) g := hM
  obtain ⟨hx, hb, hml, hr, hlk, hts, hown, hK⟩ := id hM
  intro ls H locs hl hP hS
  have hl : lv_has ls 2 [(0, .long l0)] := hl
  unfold zf_MA_isAddress at h
  refine lv_lload_n hx hb dMA_isAddress_0 rfl (lv_at hl 0 rfl) ?_
  refine lv_bipush (v := 32) hx hb dMA_isAddress_1 (by decide) ?_
  refine lv_lushr hx hb dMA_isAddress_3 rfl ?_
  refine lv_lconst (v := 0) hx hb dMA_isAddress_4 (by decide) ?_
  refine W.lcmp hx hb dMA_isAddress_5 ?_
  refine lv_if_eq (tgt := 13) hx hb dMA_isAddress_6 rfl (fun hc => ?_) (fun hc => ?_)
  · have h := h.1 hc
    clear hc
    refine lv_iconst (v := 0) hx hb dMA_isAddress_13 (by decide) ?_
    exact zr_zret hx hb hr hlk hP hS rfl h dMA_isAddress_14
  · have h := h.2 hc
    clear hc
    refine lv_iconst (v := 1) hx hb dMA_isAddress_9 (by decide) ?_
    refine lv_goto (tgt := 14) hx hb dMA_isAddress_10 rfl ?_
    exact zr_zret hx hb hr hlk hP hS rfl h dMA_isAddress_14
set_option maxHeartbeats 4000000 in
set_option maxRecDepth 100000 in
theorem zc_MA_objectOf (l : Launch) (g : zs_G) (A : Nat → Prop) {l0 : Int64}  {st : zs_T} {K : Int32 → zs_T → Prop} (h : zf_MA_objectOf l0 st K) : Met l yMA_objectOf (.code yMA_objectOf cMA_objectOf 2 (some .int) :: zs_tb) (zs_rm 0 0) (zs_Pc zs_nl g zs_ly zs_N A [.long l0] st) (zs_Qi g zs_ly zs_N A K) 0 0 A := by
  refine zs_met (cc := cMA_objectOf) (maxL := 2) (ret := (some .int)) (by decide) (Nat.le_of_ble_eq_true rfl) (fun p e s m below meth c hM => ?_)
  have hM : zs_M p c cMA_objectOf 2 s m meth [.long l0].toArray "ThriftyStores$Machine" (some .int) g := hM
  obtain ⟨hx, hb, hml, hr, hlk, hts, hown, hK⟩ := id hM
  intro ls H locs hl hP hS
  have hl : lv_has ls 2 [(0, .long l0)] := hl
  unfold zf_MA_objectOf at h
  refine lv_lload_n hx hb dMA_objectOf_0 rfl (lv_at hl 0 rfl) ?_
  refine lv_bipush (v := 32) hx hb dMA_objectOf_1 (by decide) ?_
  refine lv_lushr hx hb dMA_objectOf_3 rfl ?_
  refine lv_l2i hx hb dMA_objectOf_4 rfl ?_
  refine lv_iconst (v := 1) hx hb dMA_objectOf_5 (by decide) ?_
  refine lv_isub hx hb dMA_objectOf_6 ?_
  exact zr_iret hx hb hr hlk hP hS h dMA_objectOf_7
set_option maxHeartbeats 4000000 in
set_option maxRecDepth 100000 in
theorem zc_MA_cellOf (l : Launch) (g : zs_G) (A : Nat → Prop) {l0 : Int64}  {st : zs_T} {K : Int32 → zs_T → Prop} (h : zf_MA_cellOf l0 st K) : Met l yMA_cellOf (.code yMA_cellOf cMA_cellOf 2 (some .int) :: zs_tb) (zs_rm 1 21) (zs_Pc zs_nl g zs_ly zs_N A [.long l0] st) (zs_Qi g zs_ly zs_N A K) 0 0 A := by
  refine zs_met (cc := cMA_cellOf) (maxL := 2) (ret := (some .int)) (by decide) (Nat.le_of_ble_eq_true rfl) (fun p e s m below meth c hM => ?_)
  have hM : zs_M p c cMA_cellOf 2 s m meth [.long l0].toArray "ThriftyStores$Machine" (some .int) g := hM
  obtain ⟨hx, hb, hml, hr, hlk, hts, hown, hK⟩ := id hM
  intro ls H locs hl hP hS
  have hl : lv_has ls 2 [(0, .long l0)] := hl
  unfold zf_MA_cellOf at h
  refine lv_lload_n hx hb dMA_cellOf_0 rfl (lv_at hl 0 rfl) ?_
  refine zr_calli (va_runS (As := [.long l0]) (rest := []) ⟨hx, hb, hml, hown, hts⟩ (zc_MA_objectOf l g A  h) (va_cwS 1 hts (zs_gS zq_673 zq_674 zq_7 zq_675) rfl rfl rfl ⟨by decide, by decide, by decide +kernel⟩ ⟨Nat.le_of_ble_eq_true rfl, Nat.le_of_ble_eq_true rfl⟩) (zs_preS zs_nwk hK hP) rfl rfl hl.1 rfl (lv_room (Nat.le_of_ble_eq_true rfl)) dMA_cellOf_1 ⟨Nat.le_refl _, Nat.le_refl _⟩) hS (fun r2 u1 H locs h hP hS => ?_)
  refine lv_bipush (v := 16) hx hb dMA_cellOf_4 (by decide) ?_
  refine lv_imul hx hb dMA_cellOf_6 ?_
  refine lv_lload_n hx hb dMA_cellOf_7 rfl (lv_at hl 0 rfl) ?_
  refine lv_l2i hx hb dMA_cellOf_8 rfl ?_
  refine lv_iadd hx hb dMA_cellOf_9 ?_
  exact zr_iret hx hb hr hlk hP hS h dMA_cellOf_10
set_option maxHeartbeats 4000000 in
set_option maxRecDepth 100000 in
theorem zc_MA_become (l : Launch) (g : zs_G) (A : Nat → Prop) {l1 : Int32} {l2 : Int64}  {st : zs_T} {K : Int32 → zs_T → Prop} (h : zf_MA_become l1 l2 st K) : Met l yMA_become (.code yMA_become cMA_become 4 (some .int) :: zs_tb) (zs_rm 0 0) (zs_Pc zs_nl g zs_ly zs_N A [.ref (g.2.1 629), .int l1, .long l2] st) (zs_Qi g zs_ly zs_N A K) 0 0 A := by
  refine zs_met (cc := cMA_become) (maxL := 4) (ret := (some .int)) (by decide) (Nat.le_of_ble_eq_true rfl) (fun p e s m below meth c hM => ?_)
  have hM : zs_M p c cMA_become 4 s m meth [.ref (g.2.1 629), .int l1, .long l2].toArray "ThriftyStores$Machine" (some .int) g := hM
  obtain ⟨hx, hb, hml, hr, hlk, hts, hown, hK⟩ := id hM
  intro ls H locs hl hP hS
  have hl : lv_has ls 4 [(0, .ref (g.2.1 629)), (1, .int l1), (2, .long l2)] := hl
  unfold zf_MA_become at h
  refine lv_aload_n hx hb dMA_become_0 rfl (lv_at hl 0 rfl) ?_
  refine zr_getr (b := 630) hx hb hts zi_MA hown hK.1 hP zl_629.1 zl_629.2 rfl 0 (by decide) rfl (hts _ zq_164) dMA_become_1 ?_
  refine lv_iload_n hx hb dMA_become_4 rfl (lv_at hl 1 rfl) ?_
  refine lv_lload_n hx hb dMA_become_5 rfl (lv_at hl 2 rfl) ?_
  obtain ⟨hi1, h⟩ := h
  refine zr_last hx hb hK.1 hP hS zl_630.1 zl_630.2 hi1 dMA_become_6 (fun H locs hP hS => ?_)
  obtain ⟨t2, ez⟩ : ∃ tz : zs_T, tz = zs_l st 630 l1.toNatClampNeg l2 := ⟨_, rfl⟩
  have h := h t2 ez
  have hP : zs_P g zs_ly zs_N A t2 H := by rw [ez]; exact hP
  clear ez
  refine lv_iconst (v := (-1)) hx hb dMA_become_7 (by decide) ?_
  exact zr_iret hx hb hr hlk hP hS h dMA_become_8
set_option maxHeartbeats 4000000 in
set_option maxRecDepth 100000 in
theorem zc_MA_goTo (l : Launch) (g : zs_G) (A : Nat → Prop) {l1 : Int32}  {st : zs_T} {K : Int32 → zs_T → Prop} (h : zf_MA_goTo l1 st K) : Met l yMA_goTo (.code yMA_goTo cMA_goTo 2 (some .int) :: zs_tb) (zs_rm 0 0) (zs_Pc zs_nl g zs_ly zs_N A [.ref (g.2.1 629), .int l1] st) (zs_Qi g zs_ly zs_N A K) 0 0 A := by
  refine zs_met (cc := cMA_goTo) (maxL := 2) (ret := (some .int)) (by decide) (Nat.le_of_ble_eq_true rfl) (fun p e s m below meth c hM => ?_)
  have hM : zs_M p c cMA_goTo 2 s m meth [.ref (g.2.1 629), .int l1].toArray "ThriftyStores$Machine" (some .int) g := hM
  obtain ⟨hx, hb, hml, hr, hlk, hts, hown, hK⟩ := id hM
  intro ls H locs hl hP hS
  have hl : lv_has ls 2 [(0, .ref (g.2.1 629)), (1, .int l1)] := hl
  unfold zf_MA_goTo at h
  refine lv_aload_n hx hb dMA_goTo_0 rfl (lv_at hl 0 rfl) ?_
  refine lv_iload_n hx hb dMA_goTo_1 rfl (lv_at hl 1 rfl) ?_
  refine zr_put hx hb hts zi_MA tyMA tyMA_ok nmMA hown hK.1 hP hS zl_629.1 zl_629.2 rfl 7 (by decide) rfl (hts _ zq_171) rfl rfl rfl dMA_goTo_2 (fun H locs hP hS => ?_)
  obtain ⟨t1, ez⟩ : ∃ tz : zs_T, tz = zs_i st 629 7 l1 := ⟨_, rfl⟩
  have h := h t1 ez
  have hP : zs_P g zs_ly zs_N A t1 H := by rw [ez]; exact hP
  clear ez
  refine lv_iconst (v := (-1)) hx hb dMA_goTo_5 (by decide) ?_
  exact zr_iret hx hb hr hlk hP hS h dMA_goTo_6
set_option maxHeartbeats 4000000 in
set_option maxRecDepth 100000 in
theorem zw_MA_reckon_128 (hM : zs_M p c cMA_reckon 7 s m meth args "ThriftyStores$Machine" (some .int) g)   {K : Int32 → zs_T → Prop}   (s0 : Int64) (s1 : Int32) (st : zs_T) (h : zf_MA_reckon_128 K s0 s1 st) : zs_Go p l e (zs_rm 1 23) s m args below meth c g A (MQ below (zs_Qi g zs_ly zs_N A K) args s 0 0 A) 7 128 [] [.long s0, .int s1, .ref (g.2.1 629)] st := by
  obtain ⟨hx, hb, hml, hr, hlk, hts, hown, hK⟩ := id hM
  intro ls H locs hl hP hS
  unfold zf_MA_reckon_128 at h
  refine zr_calli (va_runV (As := [.int s1, .long s0]) (rest := []) ⟨hx, hb, hml, hown, hts⟩ (zc_MA_become l g A  h) (cwV 2 hts (zs_gV zq_658 zq_660 zp_26 zq_7 zq_661) rfl rfl rfl ⟨rfl, by decide, by decide, by decide +kernel⟩ ⟨Nat.le_of_ble_eq_true rfl, Nat.le_of_ble_eq_true rfl⟩) (zs_preV zs_nwk hK hP zl_629.1 zl_629.2 rfl) rfl rfl hl.1 rfl (lv_room (Nat.le_of_ble_eq_true rfl)) dMA_reckon_128 ⟨Nat.le_refl _, Nat.le_refl _⟩) hS (fun r102 u101 H locs h hP hS => ?_)
  exact zr_iret hx hb hr hlk hP hS h dMA_reckon_131
set_option maxHeartbeats 4000000 in
set_option maxRecDepth 100000 in
theorem zc_MA_reckon (l : Launch) (g : zs_G) (A : Nat → Prop) {l1 : Int32} {l2 : Int32} {l3 : Int32} {l4 : Int32}  {st : zs_T} {K : Int32 → zs_T → Prop} (h : zf_MA_reckon l1 l2 l3 l4 st K) : Met l yMA_reckon (.code yMA_reckon cMA_reckon 7 (some .int) :: zs_tb) (zs_rm 1 23) (zs_Pc zs_nl g zs_ly zs_N A [.ref (g.2.1 629), .int l1, .int l2, .int l3, .int l4] st) (zs_Qi g zs_ly zs_N A K) 0 0 A := by
  refine zs_met (cc := cMA_reckon) (maxL := 7) (ret := (some .int)) (by decide) (Nat.le_of_ble_eq_true rfl) (fun p e s m below meth c hM => ?_)
  have hM : zs_M p c cMA_reckon 7 s m meth [.ref (g.2.1 629), .int l1, .int l2, .int l3, .int l4].toArray "ThriftyStores$Machine" (some .int) g := hM
  obtain ⟨hx, hb, hml, hr, hlk, hts, hown, hK⟩ := id hM
  intro ls H locs hl hP hS
  have hl : lv_has ls 7 [(0, .ref (g.2.1 629)), (1, .int l1), (2, .int l2), (3, .int l3), (4, .int l4)] := hl
  unfold zf_MA_reckon at h
  refine lv_aload_n hx hb dMA_reckon_0 rfl (lv_at hl 0 rfl) ?_
  refine zr_getr (b := 630) hx hb hts zi_MA hown hK.1 hP zl_629.1 zl_629.2 rfl 0 (by decide) rfl (hts _ zq_164) dMA_reckon_1 ?_
  refine lv_iload_n hx hb dMA_reckon_4 rfl (lv_at hl 3 rfl) ?_
  obtain ⟨hi1, h⟩ := h
  refine zr_lald hx hb hK.1 hP zl_630.1 zl_630.2 hi1 dMA_reckon_5 ?_
  refine zr_calli (va_runS (As := [.long (st.2 630 l3.toNatClampNeg)]) (rest := []) ⟨hx, hb, hml, hown, hts⟩ (zc_MA_isAddress l g A  h) (va_cwS 1 hts (zs_gS zq_666 zq_667 zq_7 zq_668) rfl rfl rfl ⟨by decide, by decide, by decide +kernel⟩ ⟨Nat.le_of_ble_eq_true rfl, Nat.le_of_ble_eq_true rfl⟩) (zs_preS zs_nwk hK hP) rfl rfl hl.1 rfl (lv_room (Nat.le_of_ble_eq_true rfl)) dMA_reckon_6 ⟨Nat.le_refl _, Nat.le_refl _⟩) hS (fun r3 u2 H locs h hP hS => ?_)
  refine lv_if_ne (tgt := 25) hx hb dMA_reckon_9 rfl (fun hc => ?_) (fun hc => ?_)
  · have h := h.1 hc
    clear hc
    refine lv_iconst (v := 1) hx hb dMA_reckon_25 (by decide) ?_
    exact zr_iret hx hb hr hlk hP hS h dMA_reckon_26
  · have h := h.2 hc
    clear hc
    refine lv_aload_n hx hb dMA_reckon_12 rfl (lv_at hl 0 rfl) ?_
    refine zr_getr (b := 630) hx hb hts zi_MA hown hK.1 hP zl_629.1 zl_629.2 rfl 0 (by decide) rfl (hts _ zq_164) dMA_reckon_13 ?_
    refine lv_iload hx hb dMA_reckon_16 (lv_at hl 4 rfl) ?_
    obtain ⟨hi4, h⟩ := h
    refine zr_lald hx hb hK.1 hP zl_630.1 zl_630.2 hi4 dMA_reckon_18 ?_
    refine zr_calli (va_runS (As := [.long (u2.2 630 l4.toNatClampNeg)]) (rest := []) ⟨hx, hb, hml, hown, hts⟩ (zc_MA_isAddress l g A  h) (va_cwS 1 hts (zs_gS zq_666 zq_667 zq_7 zq_668) rfl rfl rfl ⟨by decide, by decide, by decide +kernel⟩ ⟨Nat.le_of_ble_eq_true rfl, Nat.le_of_ble_eq_true rfl⟩) (zs_preS zs_nwk hK hP) rfl rfl hl.1 rfl (lv_room (Nat.le_of_ble_eq_true rfl)) dMA_reckon_19 ⟨Nat.le_refl _, Nat.le_refl _⟩) hS (fun r6 u5 H locs h hP hS => ?_)
    refine lv_if_eq (tgt := 27) hx hb dMA_reckon_22 rfl (fun hc => ?_) (fun hc => ?_)
    · have h := h.1 hc
      clear hc
      refine lv_aload_n hx hb dMA_reckon_27 rfl (lv_at hl 0 rfl) ?_
      refine zr_getr (b := 630) hx hb hts zi_MA hown hK.1 hP zl_629.1 zl_629.2 rfl 0 (by decide) rfl (hts _ zq_164) dMA_reckon_28 ?_
      refine lv_iload_n hx hb dMA_reckon_31 rfl (lv_at hl 3 rfl) ?_
      obtain ⟨hi7, h⟩ := h
      refine zr_lald hx hb hK.1 hP zl_630.1 zl_630.2 hi7 dMA_reckon_32 ?_
      refine lv_l2i hx hb dMA_reckon_33 rfl ?_
      refine lv_istore hx hb dMA_reckon_34 hl (by decide) rfl (fun ls hl => ?_)
      have hl : lv_has ls 7 [(5, .int ((u5.2 630 l3.toNatClampNeg).toInt32)), (0, .ref (g.2.1 629)), (1, .int l1), (2, .int l2), (3, .int l3), (4, .int l4)] := hl
      refine lv_aload_n hx hb dMA_reckon_36 rfl (lv_at hl 1 rfl) ?_
      refine zr_getr (b := 630) hx hb hts zi_MA hown hK.1 hP zl_629.1 zl_629.2 rfl 0 (by decide) rfl (hts _ zq_164) dMA_reckon_37 ?_
      refine lv_iload hx hb dMA_reckon_40 (lv_at hl 5 rfl) ?_
      obtain ⟨hi8, h⟩ := h
      refine zr_lald hx hb hK.1 hP zl_630.1 zl_630.2 hi8 dMA_reckon_42 ?_
      refine lv_l2i hx hb dMA_reckon_43 rfl ?_
      refine lv_istore hx hb dMA_reckon_44 hl (by decide) rfl (fun ls hl => ?_)
      have hl : lv_has ls 7 [(6, .int ((u5.2 630 l4.toNatClampNeg).toInt32)), (5, .int ((u5.2 630 l3.toNatClampNeg).toInt32)), (0, .ref (g.2.1 629)), (1, .int l1), (2, .int l2), (3, .int l3), (4, .int l4)] := hl
      refine lv_iload_n hx hb dMA_reckon_46 rfl (lv_at hl 3 rfl) ?_
      by_cases hc : l1 = 2
      · refine lv_tableIn (tgt := 72) (off := 25) hx hb dMA_reckon_47 (by rw [hc]; decide) (by rw [hc]; decide) (by rw [hc]; decide) rfl ?_
        have h := h.1 hc
        clear hc
        refine lv_aload_n hx hb dMA_reckon_72 rfl (lv_at hl 2 rfl) ?_
        refine lv_iload_n hx hb dMA_reckon_73 rfl (lv_at hl 4 rfl) ?_
        refine lv_iload hx hb dMA_reckon_74 (lv_at hl 1 rfl) ?_
        refine lv_iload hx hb dMA_reckon_76 (lv_at hl 0 rfl) ?_
        refine lv_iadd hx hb dMA_reckon_78 ?_
        refine zr_calll (va_runS (As := [.int (((u5.2 630 l3.toNatClampNeg).toInt32) + ((u5.2 630 l4.toNatClampNeg).toInt32))]) (rest := [.int l2, .ref (g.2.1 629)]) ⟨hx, hb, hml, hown, hts⟩ (zc_MA_number l g A  h) (va_cwS 1 hts (zs_gS zq_654 zq_655 zq_7 zq_656) rfl rfl rfl ⟨by decide, by decide, by decide +kernel⟩ ⟨Nat.le_of_ble_eq_true rfl, Nat.le_of_ble_eq_true rfl⟩) (zs_preS zs_nwk hK hP) rfl rfl hl.1 rfl (lv_room (Nat.le_of_ble_eq_true rfl)) dMA_reckon_79 ⟨Nat.le_refl _, Nat.le_refl _⟩) hS (fun r10 u9 H locs h hP hS => ?_)
        refine zr_calli (va_runV (As := [.int l2, .long r10]) (rest := []) ⟨hx, hb, hml, hown, hts⟩ (zc_MA_become l g A  h) (cwV 2 hts (zs_gV zq_658 zq_660 zp_26 zq_7 zq_661) rfl rfl rfl ⟨rfl, by decide, by decide, by decide +kernel⟩ ⟨Nat.le_of_ble_eq_true rfl, Nat.le_of_ble_eq_true rfl⟩) (zs_preV zs_nwk hK hP zl_629.1 zl_629.2 rfl) rfl rfl hl.1 rfl (lv_room (Nat.le_of_ble_eq_true rfl)) dMA_reckon_82 ⟨Nat.le_refl _, Nat.le_refl _⟩) hS (fun r12 u11 H locs h hP hS => ?_)
        exact zr_iret hx hb hr hlk hP hS h dMA_reckon_85
      · have h := h.2 hc
        have hn0 := hc
        clear hc
        by_cases hc : l1 = 3
        · refine lv_tableIn (tgt := 86) (off := 39) hx hb dMA_reckon_47 (by rw [hc]; decide) (by rw [hc]; decide) (by rw [hc]; decide) rfl ?_
          have h := h.1 hc
          clear hc
          refine lv_aload_n hx hb dMA_reckon_86 rfl (lv_at hl 2 rfl) ?_
          refine lv_iload_n hx hb dMA_reckon_87 rfl (lv_at hl 4 rfl) ?_
          refine lv_iload hx hb dMA_reckon_88 (lv_at hl 1 rfl) ?_
          refine lv_iload hx hb dMA_reckon_90 (lv_at hl 0 rfl) ?_
          refine lv_isub hx hb dMA_reckon_92 ?_
          refine zr_calll (va_runS (As := [.int (((u5.2 630 l3.toNatClampNeg).toInt32) - ((u5.2 630 l4.toNatClampNeg).toInt32))]) (rest := [.int l2, .ref (g.2.1 629)]) ⟨hx, hb, hml, hown, hts⟩ (zc_MA_number l g A  h) (va_cwS 1 hts (zs_gS zq_654 zq_655 zq_7 zq_656) rfl rfl rfl ⟨by decide, by decide, by decide +kernel⟩ ⟨Nat.le_of_ble_eq_true rfl, Nat.le_of_ble_eq_true rfl⟩) (zs_preS zs_nwk hK hP) rfl rfl hl.1 rfl (lv_room (Nat.le_of_ble_eq_true rfl)) dMA_reckon_93 ⟨Nat.le_refl _, Nat.le_refl _⟩) hS (fun r14 u13 H locs h hP hS => ?_)
          refine zr_calli (va_runV (As := [.int l2, .long r14]) (rest := []) ⟨hx, hb, hml, hown, hts⟩ (zc_MA_become l g A  h) (cwV 2 hts (zs_gV zq_658 zq_660 zp_26 zq_7 zq_661) rfl rfl rfl ⟨rfl, by decide, by decide, by decide +kernel⟩ ⟨Nat.le_of_ble_eq_true rfl, Nat.le_of_ble_eq_true rfl⟩) (zs_preV zs_nwk hK hP zl_629.1 zl_629.2 rfl) rfl rfl hl.1 rfl (lv_room (Nat.le_of_ble_eq_true rfl)) dMA_reckon_96 ⟨Nat.le_refl _, Nat.le_refl _⟩) hS (fun r16 u15 H locs h hP hS => ?_)
          exact zr_iret hx hb hr hlk hP hS h dMA_reckon_99
        · have h := h.2 hc
          have hn1 := hc
          clear hc
          by_cases hc : l1 = 4
          · refine lv_tableIn (tgt := 100) (off := 53) hx hb dMA_reckon_47 (by rw [hc]; decide) (by rw [hc]; decide) (by rw [hc]; decide) rfl ?_
            have h := h.1 hc
            clear hc
            refine lv_aload_n hx hb dMA_reckon_100 rfl (lv_at hl 2 rfl) ?_
            refine lv_iload_n hx hb dMA_reckon_101 rfl (lv_at hl 4 rfl) ?_
            refine lv_iload hx hb dMA_reckon_102 (lv_at hl 1 rfl) ?_
            refine lv_iload hx hb dMA_reckon_104 (lv_at hl 0 rfl) ?_
            refine lv_imul hx hb dMA_reckon_106 ?_
            refine zr_calll (va_runS (As := [.int (((u5.2 630 l3.toNatClampNeg).toInt32) * ((u5.2 630 l4.toNatClampNeg).toInt32))]) (rest := [.int l2, .ref (g.2.1 629)]) ⟨hx, hb, hml, hown, hts⟩ (zc_MA_number l g A  h) (va_cwS 1 hts (zs_gS zq_654 zq_655 zq_7 zq_656) rfl rfl rfl ⟨by decide, by decide, by decide +kernel⟩ ⟨Nat.le_of_ble_eq_true rfl, Nat.le_of_ble_eq_true rfl⟩) (zs_preS zs_nwk hK hP) rfl rfl hl.1 rfl (lv_room (Nat.le_of_ble_eq_true rfl)) dMA_reckon_107 ⟨Nat.le_refl _, Nat.le_refl _⟩) hS (fun r18 u17 H locs h hP hS => ?_)
            refine zr_calli (va_runV (As := [.int l2, .long r18]) (rest := []) ⟨hx, hb, hml, hown, hts⟩ (zc_MA_become l g A  h) (cwV 2 hts (zs_gV zq_658 zq_660 zp_26 zq_7 zq_661) rfl rfl rfl ⟨rfl, by decide, by decide, by decide +kernel⟩ ⟨Nat.le_of_ble_eq_true rfl, Nat.le_of_ble_eq_true rfl⟩) (zs_preV zs_nwk hK hP zl_629.1 zl_629.2 rfl) rfl rfl hl.1 rfl (lv_room (Nat.le_of_ble_eq_true rfl)) dMA_reckon_110 ⟨Nat.le_refl _, Nat.le_refl _⟩) hS (fun r20 u19 H locs h hP hS => ?_)
            exact zr_iret hx hb hr hlk hP hS h dMA_reckon_113
          · have h := h.2 hc
            have hn2 := hc
            clear hc
            refine lv_tableOut (tgt := 114) hx hb dMA_reckon_47 (by have q0 := lv_neT hn0 (a := 2) (by decide); have q1 := lv_neT hn1 (a := 3) (by decide); have q2 := lv_neT hn2 (a := 4) (by decide); omega) rfl ?_
            refine lv_aload_n hx hb dMA_reckon_114 rfl (lv_at hl 2 rfl) ?_
            refine lv_iload_n hx hb dMA_reckon_115 rfl (lv_at hl 4 rfl) ?_
            refine lv_iload hx hb dMA_reckon_116 (lv_at hl 1 rfl) ?_
            refine lv_iload hx hb dMA_reckon_118 (lv_at hl 0 rfl) ?_
            refine lv_icmp_ge (tgt := 127) hx hb dMA_reckon_120 rfl (fun hc => ?_) (fun hc => ?_)
            · have h := h.1 hc
              clear hc
              refine lv_lconst (v := 0) hx hb dMA_reckon_127 (by decide) ?_
              exact zw_MA_reckon_128 hM  0 l2 u5 h ls H locs (lv_sub hl [] rfl) hP hS
            · have h := h.2 hc
              clear hc
              refine lv_lconst (v := 1) hx hb dMA_reckon_123 (by decide) ?_
              refine lv_goto (tgt := 128) hx hb dMA_reckon_124 rfl ?_
              exact zw_MA_reckon_128 hM  1 l2 u5 h ls H locs (lv_sub hl [] rfl) hP hS
    · have h := h.2 hc
      clear hc
      refine lv_iconst (v := 1) hx hb dMA_reckon_25 (by decide) ?_
      exact zr_iret hx hb hr hlk hP hS h dMA_reckon_26
set_option maxHeartbeats 4000000 in
set_option maxRecDepth 100000 in
theorem zc_MA_shift (l : Launch) (g : zs_G) (A : Nat → Prop) {l1 : Int32} {l2 : Int32} {l3 : Int32}  {st : zs_T} {K : Int32 → zs_T → Prop} (h : zf_MA_shift l1 l2 l3 st K) : Met l yMA_shift (.code yMA_shift cMA_shift 8 (some .int) :: zs_tb) (zs_rm 1 23) (zs_Pc zs_nl g zs_ly zs_N A [.ref (g.2.1 629), .int l1, .int l2, .int l3] st) (zs_Qi g zs_ly zs_N A K) 0 0 A := by
  refine zs_met (cc := cMA_shift) (maxL := 8) (ret := (some .int)) (by decide) (Nat.le_of_ble_eq_true rfl) (fun p e s m below meth c hM => ?_)
  have hM : zs_M p c cMA_shift 8 s m meth [.ref (g.2.1 629), .int l1, .int l2, .int l3].toArray "ThriftyStores$Machine" (some .int) g := hM
  obtain ⟨hx, hb, hml, hr, hlk, hts, hown, hK⟩ := id hM
  intro ls H locs hl hP hS
  have hl : lv_has ls 8 [(0, .ref (g.2.1 629)), (1, .int l1), (2, .int l2), (3, .int l3)] := hl
  unfold zf_MA_shift at h
  refine lv_aload_n hx hb dMA_shift_0 rfl (lv_at hl 0 rfl) ?_
  refine zr_getr (b := 630) hx hb hts zi_MA hown hK.1 hP zl_629.1 zl_629.2 rfl 0 (by decide) rfl (hts _ zq_164) dMA_shift_1 ?_
  refine lv_iload_n hx hb dMA_shift_4 rfl (lv_at hl 2 rfl) ?_
  obtain ⟨hi1, h⟩ := h
  refine zr_lald hx hb hK.1 hP zl_630.1 zl_630.2 hi1 dMA_shift_5 ?_
  refine lv_lstore hx hb dMA_shift_6 hl (by decide) rfl (fun ls hl => ?_)
  have hl : lv_has ls 8 [(4, .long (st.2 630 l2.toNatClampNeg)), (0, .ref (g.2.1 629)), (1, .int l1), (2, .int l2), (3, .int l3)] := hl
  refine lv_lload hx hb dMA_shift_8 (lv_at hl 0 rfl) ?_
  refine zr_calli (va_runS (As := [.long (st.2 630 l2.toNatClampNeg)]) (rest := []) ⟨hx, hb, hml, hown, hts⟩ (zc_MA_isAddress l g A  h) (va_cwS 1 hts (zs_gS zq_666 zq_667 zq_7 zq_668) rfl rfl rfl ⟨by decide, by decide, by decide +kernel⟩ ⟨Nat.le_of_ble_eq_true rfl, Nat.le_of_ble_eq_true rfl⟩) (zs_preS zs_nwk hK hP) rfl rfl hl.1 rfl (lv_room (Nat.le_of_ble_eq_true rfl)) dMA_shift_10 ⟨Nat.le_refl _, Nat.le_refl _⟩) hS (fun r3 u2 H locs h hP hS => ?_)
  refine lv_if_eq (tgt := 28) hx hb dMA_shift_13 rfl (fun hc => ?_) (fun hc => ?_)
  · have h := h.1 hc
    clear hc
    refine lv_iconst (v := 1) hx hb dMA_shift_28 (by decide) ?_
    exact zr_iret hx hb hr hlk hP hS h dMA_shift_29
  · have h := h.2 hc
    clear hc
    refine lv_aload_n hx hb dMA_shift_16 rfl (lv_at hl 1 rfl) ?_
    refine zr_getr (b := 630) hx hb hts zi_MA hown hK.1 hP zl_629.1 zl_629.2 rfl 0 (by decide) rfl (hts _ zq_164) dMA_shift_17 ?_
    refine lv_iload_n hx hb dMA_shift_20 rfl (lv_at hl 4 rfl) ?_
    obtain ⟨hi4, h⟩ := h
    refine zr_lald hx hb hK.1 hP zl_630.1 zl_630.2 hi4 dMA_shift_21 ?_
    refine zr_calli (va_runS (As := [.long (u2.2 630 l3.toNatClampNeg)]) (rest := []) ⟨hx, hb, hml, hown, hts⟩ (zc_MA_isAddress l g A  h) (va_cwS 1 hts (zs_gS zq_666 zq_667 zq_7 zq_668) rfl rfl rfl ⟨by decide, by decide, by decide +kernel⟩ ⟨Nat.le_of_ble_eq_true rfl, Nat.le_of_ble_eq_true rfl⟩) (zs_preS zs_nwk hK hP) rfl rfl hl.1 rfl (lv_room (Nat.le_of_ble_eq_true rfl)) dMA_shift_22 ⟨Nat.le_refl _, Nat.le_refl _⟩) hS (fun r6 u5 H locs h hP hS => ?_)
    refine lv_if_eq (tgt := 30) hx hb dMA_shift_25 rfl (fun hc => ?_) (fun hc => ?_)
    · have h := h.1 hc
      clear hc
      refine lv_lload hx hb dMA_shift_30 (lv_at hl 0 rfl) ?_
      refine lv_l2i hx hb dMA_shift_32 rfl ?_
      refine lv_i2l hx hb dMA_shift_33 rfl ?_
      refine lv_aload_n hx hb dMA_shift_34 rfl (lv_at hl 1 rfl) ?_
      refine zr_getr (b := 630) hx hb hts zi_MA hown hK.1 hP zl_629.1 zl_629.2 rfl 0 (by decide) rfl (hts _ zq_164) dMA_shift_35 ?_
      refine lv_iload_n hx hb dMA_shift_38 rfl (lv_at hl 4 rfl) ?_
      obtain ⟨hi7, h⟩ := h
      refine zr_lald hx hb hK.1 hP zl_630.1 zl_630.2 hi7 dMA_shift_39 ?_
      refine lv_l2i hx hb dMA_shift_40 rfl ?_
      refine lv_i2l hx hb dMA_shift_41 rfl ?_
      refine lv_ladd hx hb dMA_shift_42 ?_
      refine lv_lstore hx hb dMA_shift_43 hl (by decide) rfl (fun ls hl => ?_)
      have hl : lv_has ls 8 [(6, .long ((((st.2 630 l2.toNatClampNeg).toInt32).toInt64) + (((u5.2 630 l3.toNatClampNeg).toInt32).toInt64))), (4, .long (st.2 630 l2.toNatClampNeg)), (0, .ref (g.2.1 629)), (1, .int l1), (2, .int l2), (3, .int l3)] := hl
      refine lv_lload hx hb dMA_shift_45 (lv_at hl 0 rfl) ?_
      refine lv_lconst (v := 0) hx hb dMA_shift_47 (by decide) ?_
      refine W.lcmp hx hb dMA_shift_48 ?_
      refine lv_if_lt (tgt := 69) hx hb dMA_shift_49 rfl (fun hc => ?_) (fun hc => ?_)
      · have h := h.1 hc
        clear hc
        refine lv_iconst (v := 1) hx hb dMA_shift_69 (by decide) ?_
        exact zr_iret hx hb hr hlk hP hS h dMA_shift_70
      · have h := h.2 hc
        clear hc
        refine lv_lload hx hb dMA_shift_52 (lv_at hl 0 rfl) ?_
        refine lv_aload_n hx hb dMA_shift_54 rfl (lv_at hl 2 rfl) ?_
        refine zr_getr (b := 632) hx hb hts zi_MA hown hK.1 hP zl_629.1 zl_629.2 rfl 2 (by decide) rfl (hts _ zq_166) dMA_shift_55 ?_
        refine lv_lload hx hb dMA_shift_58 (lv_at hl 1 rfl) ?_
        refine zr_calli (va_runS (As := [.long (st.2 630 l2.toNatClampNeg)]) (rest := [.ref (g.2.1 632), .long ((((st.2 630 l2.toNatClampNeg).toInt32).toInt64) + (((u5.2 630 l3.toNatClampNeg).toInt32).toInt64))]) ⟨hx, hb, hml, hown, hts⟩ (zc_MA_objectOf l g A  h) (va_cwS 1 hts (zs_gS zq_673 zq_674 zq_7 zq_675) rfl rfl rfl ⟨by decide, by decide, by decide +kernel⟩ ⟨Nat.le_of_ble_eq_true rfl, Nat.le_of_ble_eq_true rfl⟩) (zs_preS zs_nwk hK hP) rfl rfl hl.1 rfl (lv_room (Nat.le_of_ble_eq_true rfl)) dMA_shift_60 ⟨Nat.le_refl _, Nat.le_refl _⟩) hS (fun r9 u8 H locs h hP hS => ?_)
        obtain ⟨hi10, h⟩ := h
        refine zr_iald hx hb hK.1 hP zl_632.1 zl_632.2 hi10 dMA_shift_63 ?_
        refine lv_i2l hx hb dMA_shift_64 rfl ?_
        refine W.lcmp hx hb dMA_shift_65 ?_
        refine lv_if_lt (tgt := 71) hx hb dMA_shift_66 rfl (fun hc => ?_) (fun hc => ?_)
        · have h := h.1 hc
          clear hc
          refine lv_aload_n hx hb dMA_shift_71 rfl (lv_at hl 2 rfl) ?_
          refine lv_iload_n hx hb dMA_shift_72 rfl (lv_at hl 3 rfl) ?_
          refine lv_lload hx hb dMA_shift_73 (lv_at hl 1 rfl) ?_
          refine zr_calli (va_runS (As := [.long (st.2 630 l2.toNatClampNeg)]) (rest := [.int l1, .ref (g.2.1 629)]) ⟨hx, hb, hml, hown, hts⟩ (zc_MA_objectOf l g A  h) (va_cwS 1 hts (zs_gS zq_673 zq_674 zq_7 zq_675) rfl rfl rfl ⟨by decide, by decide, by decide +kernel⟩ ⟨Nat.le_of_ble_eq_true rfl, Nat.le_of_ble_eq_true rfl⟩) (zs_preS zs_nwk hK hP) rfl rfl hl.1 rfl (lv_room (Nat.le_of_ble_eq_true rfl)) dMA_shift_75 ⟨Nat.le_refl _, Nat.le_refl _⟩) hS (fun r12 u11 H locs h hP hS => ?_)
          refine lv_lload hx hb dMA_shift_78 (lv_at hl 0 rfl) ?_
          refine lv_l2i hx hb dMA_shift_80 rfl ?_
          refine zr_calll (va_runS (As := [.int r12, .int (((((st.2 630 l2.toNatClampNeg).toInt32).toInt64) + (((u5.2 630 l3.toNatClampNeg).toInt32).toInt64)).toInt32)]) (rest := [.int l1, .ref (g.2.1 629)]) ⟨hx, hb, hml, hown, hts⟩ (zc_MA_address l g A  h) (va_cwS 2 hts (zs_gS zq_676 zq_677 zq_7 zq_678) rfl rfl rfl ⟨by decide, by decide, by decide +kernel⟩ ⟨Nat.le_of_ble_eq_true rfl, Nat.le_of_ble_eq_true rfl⟩) (zs_preS zs_nwk hK hP) rfl rfl hl.1 rfl (lv_room (Nat.le_of_ble_eq_true rfl)) dMA_shift_81 ⟨Nat.le_refl _, Nat.le_refl _⟩) hS (fun r14 u13 H locs h hP hS => ?_)
          refine zr_calli (va_runV (As := [.int l1, .long r14]) (rest := []) ⟨hx, hb, hml, hown, hts⟩ (zc_MA_become l g A  h) (cwV 2 hts (zs_gV zq_658 zq_660 zp_26 zq_7 zq_661) rfl rfl rfl ⟨rfl, by decide, by decide, by decide +kernel⟩ ⟨Nat.le_of_ble_eq_true rfl, Nat.le_of_ble_eq_true rfl⟩) (zs_preV zs_nwk hK hP zl_629.1 zl_629.2 rfl) rfl rfl hl.1 rfl (lv_room (Nat.le_of_ble_eq_true rfl)) dMA_shift_84 ⟨Nat.le_refl _, Nat.le_refl _⟩) hS (fun r16 u15 H locs h hP hS => ?_)
          exact zr_iret hx hb hr hlk hP hS h dMA_shift_87
        · have h := h.2 hc
          clear hc
          refine lv_iconst (v := 1) hx hb dMA_shift_69 (by decide) ?_
          exact zr_iret hx hb hr hlk hP hS h dMA_shift_70
    · have h := h.2 hc
      clear hc
      refine lv_iconst (v := 1) hx hb dMA_shift_28 (by decide) ?_
      exact zr_iret hx hb hr hlk hP hS h dMA_shift_29
set_option maxHeartbeats 4000000 in
set_option maxRecDepth 100000 in
theorem zw_MA_make_91 (hM : zs_M p c cMA_make 6 s m meth args "ThriftyStores$Machine" (some .int) g)   {K : Int32 → zs_T → Prop}   (l1 : Int32) (l4 : Int32) (st : zs_T) (h : zf_MA_make_91 K l1 l4 st) : zs_Go p l e (zs_rm 1 23) s m args below meth c g A (MQ below (zs_Qi g zs_ly zs_N A K) args s 0 0 A) 6 91 [(0, .ref (g.2.1 629)), (1, .int l1), (4, .int l4)] [] st := by
  obtain ⟨hx, hb, hml, hr, hlk, hts, hown, hK⟩ := id hM
  intro ls H locs hl hP hS
  unfold zf_MA_make_91 at h
  refine lv_aload_n hx hb dMA_make_91 rfl (lv_at hl 0 rfl) ?_
  refine lv_iload_n hx hb dMA_make_92 rfl (lv_at hl 1 rfl) ?_
  refine lv_iload hx hb dMA_make_93 (lv_at hl 2 rfl) ?_
  refine lv_iconst (v := 0) hx hb dMA_make_95 (by decide) ?_
  refine zr_calll (va_runS (As := [.int l4, .int 0]) (rest := [.int l1, .ref (g.2.1 629)]) ⟨hx, hb, hml, hown, hts⟩ (zc_MA_address l g A  h) (va_cwS 2 hts (zs_gS zq_676 zq_677 zq_7 zq_678) rfl rfl rfl ⟨by decide, by decide, by decide +kernel⟩ ⟨Nat.le_of_ble_eq_true rfl, Nat.le_of_ble_eq_true rfl⟩) (zs_preS zs_nwk hK hP) rfl rfl hl.1 rfl (lv_room (Nat.le_of_ble_eq_true rfl)) dMA_make_96 ⟨Nat.le_refl _, Nat.le_refl _⟩) hS (fun r202 u201 H locs h hP hS => ?_)
  refine zr_calli (va_runV (As := [.int l1, .long r202]) (rest := []) ⟨hx, hb, hml, hown, hts⟩ (zc_MA_become l g A  h) (cwV 2 hts (zs_gV zq_658 zq_660 zp_26 zq_7 zq_661) rfl rfl rfl ⟨rfl, by decide, by decide, by decide +kernel⟩ ⟨Nat.le_of_ble_eq_true rfl, Nat.le_of_ble_eq_true rfl⟩) (zs_preV zs_nwk hK hP zl_629.1 zl_629.2 rfl) rfl rfl hl.1 rfl (lv_room (Nat.le_of_ble_eq_true rfl)) dMA_make_99 ⟨Nat.le_refl _, Nat.le_refl _⟩) hS (fun r204 u203 H locs h hP hS => ?_)
  exact zr_iret hx hb hr hlk hP hS h dMA_make_102
set_option maxHeartbeats 4000000 in
set_option maxRecDepth 100000 in
theorem zw_MA_make_39_s (hM : zs_M p c cMA_make 6 s m meth args "ThriftyStores$Machine" (some .int) g)   {K : Int32 → zs_T → Prop}  {B39 : Int32 → Int32 → Int32 → Int32 → Int32 → zs_T → Prop}  (hB39 : ∀ (l1 : Int32) (l2 : Int32) (l3 : Int32) (l4 : Int32) (l5 : Int32) (st : zs_T), B39 l1 l2 l3 l4 l5 st → zs_Go p l e (zs_rm 1 23) s m args below meth c g A (MQ below (zs_Qi g zs_ly zs_N A K) args s 0 0 A) 6 39 [(0, .ref (g.2.1 629)), (1, .int l1), (2, .int l2), (3, .int l3), (4, .int l4), (5, .int l5)] [] st) (l1 : Int32) (l2 : Int32) (l3 : Int32) (l4 : Int32) (l5 : Int32) (st : zs_T) (h : zf_MA_make_39_s K B39 l1 l2 l3 l4 l5 st) : zs_Go p l e (zs_rm 1 23) s m args below meth c g A (MQ below (zs_Qi g zs_ly zs_N A K) args s 0 0 A) 6 39 [(0, .ref (g.2.1 629)), (1, .int l1), (2, .int l2), (3, .int l3), (4, .int l4), (5, .int l5)] [] st := by
  obtain ⟨hx, hb, hml, hr, hlk, hts, hown, hK⟩ := id hM
  intro ls H locs hl hP hS
  unfold zf_MA_make_39_s at h
  refine lv_iload hx hb dMA_make_39 (lv_at hl 5 rfl) ?_
  refine lv_iload_n hx hb dMA_make_41 rfl (lv_at hl 2 rfl) ?_
  refine lv_icmp_ge (tgt := 65) hx hb dMA_make_42 rfl (fun hc => ?_) (fun hc => ?_)
  · have h := h.1 hc
    clear hc
    refine lv_iload_n hx hb dMA_make_65 rfl (lv_at hl 3 rfl) ?_
    refine lv_iconst (v := 1) hx hb dMA_make_66 (by decide) ?_
    refine lv_icmp_ne (tgt := 91) hx hb dMA_make_67 rfl (fun hc => ?_) (fun hc => ?_)
    · have h := h.1 hc
      clear hc
      exact zw_MA_make_91 hM  l1 l4 st h ls H locs (lv_sub hl [0, 1, 4] rfl) hP hS
    · have h := h.2 hc
      clear hc
      refine lv_aload_n hx hb dMA_make_70 rfl (lv_at hl 0 rfl) ?_
      refine zr_getr (b := 633) hx hb hts zi_MA hown hK.1 hP zl_629.1 zl_629.2 rfl 3 (by decide) rfl (hts _ zq_167) dMA_make_71 ?_
      refine lv_aload_n hx hb dMA_make_74 rfl (lv_at hl 0 rfl) ?_
      refine zr_geti hx hb hts zi_MA hown hK.1 hP zl_629.1 zl_629.2 rfl 5 (by decide) rfl (hts _ zq_169) dMA_make_75 ?_
      refine lv_iload hx hb dMA_make_78 (lv_at hl 4 rfl) ?_
      obtain ⟨hi101, h⟩ := h
      refine zr_iast hx hb hK.1 hP hS zl_633.1 zl_633.2 hi101 dMA_make_80 (fun H locs hP hS => ?_)
      obtain ⟨t102, ez⟩ : ∃ tz : zs_T, tz = zs_i st 633 (st.1 629 5).toNatClampNeg l4 := ⟨_, rfl⟩
      have h := h t102 ez
      have hP : zs_P g zs_ly zs_N A t102 H := by rw [ez]; exact hP
      clear ez
      refine lv_aload_n hx hb dMA_make_81 rfl (lv_at hl 0 rfl) ?_
      refine lv_dup hx hb dMA_make_82 rfl ?_
      refine zr_geti hx hb hts zi_MA hown hK.1 hP zl_629.1 zl_629.2 rfl 5 (by decide) rfl (hts _ zq_169) dMA_make_83 ?_
      refine lv_iconst (v := 1) hx hb dMA_make_86 (by decide) ?_
      refine lv_iadd hx hb dMA_make_87 ?_
      refine zr_put hx hb hts zi_MA tyMA tyMA_ok nmMA hown hK.1 hP hS zl_629.1 zl_629.2 rfl 5 (by decide) rfl (hts _ zq_169) rfl rfl rfl dMA_make_88 (fun H locs hP hS => ?_)
      obtain ⟨t103, ez⟩ : ∃ tz : zs_T, tz = zs_i t102 629 5 ((t102.1 629 5) + 1) := ⟨_, rfl⟩
      have h := h t103 ez
      have hP : zs_P g zs_ly zs_N A t103 H := by rw [ez]; exact hP
      clear ez
      exact zw_MA_make_91 hM  l1 l4 t103 h ls H locs (lv_sub hl [0, 1, 4] rfl) hP hS
  · have h := h.2 hc
    clear hc
    refine lv_aload_n hx hb dMA_make_45 rfl (lv_at hl 0 rfl) ?_
    refine zr_getr (b := 631) hx hb hts zi_MA hown hK.1 hP zl_629.1 zl_629.2 rfl 1 (by decide) rfl (hts _ zq_165) dMA_make_46 ?_
    refine lv_iload hx hb dMA_make_49 (lv_at hl 4 rfl) ?_
    refine lv_bipush (v := 16) hx hb dMA_make_51 (by decide) ?_
    refine lv_imul hx hb dMA_make_53 ?_
    refine lv_iload hx hb dMA_make_54 (lv_at hl 5 rfl) ?_
    refine lv_iadd hx hb dMA_make_56 ?_
    refine lv_lconst (v := 0) hx hb dMA_make_57 (by decide) ?_
    obtain ⟨hi104, h⟩ := h
    refine zr_last hx hb hK.1 hP hS zl_631.1 zl_631.2 hi104 dMA_make_58 (fun H locs hP hS => ?_)
    obtain ⟨t105, ez⟩ : ∃ tz : zs_T, tz = zs_l st 631 ((l4 * 16) + l5).toNatClampNeg 0 := ⟨_, rfl⟩
    have h := h t105 ez
    have hP : zs_P g zs_ly zs_N A t105 H := by rw [ez]; exact hP
    clear ez
    refine lv_iinc (k := 5) (v := l5 + 1) hx hb dMA_make_59 hl rfl (by rw [show Int32.ofInt (1) = 1 from by decide]) (by decide) rfl (fun ls hl => ?_)
    have hl : lv_has ls 6 [(5, .int (l5 + 1)), (0, .ref (g.2.1 629)), (1, .int l1), (2, .int l2), (3, .int l3), (4, .int l4)] := hl
    refine lv_goto (tgt := 39) hx hb dMA_make_62 rfl ?_
    exact hB39 l1 l2 l3 l4 (l5 + 1) t105 h ls H locs (lv_sub hl [1, 2, 3, 4, 5, 0] rfl) hP hS
theorem zw_MA_make_39 (hM : zs_M p c cMA_make 6 s m meth args "ThriftyStores$Machine" (some .int) g)   {K : Int32 → zs_T → Prop}   : ∀ (n : Nat) (l1 : Int32) (l2 : Int32) (l3 : Int32) (l4 : Int32) (l5 : Int32) (st : zs_T), zf_MA_make_39 K n l1 l2 l3 l4 l5 st → zs_Go p l e (zs_rm 1 23) s m args below meth c g A (MQ below (zs_Qi g zs_ly zs_N A K) args s 0 0 A) 6 39 [(0, .ref (g.2.1 629)), (1, .int l1), (2, .int l2), (3, .int l3), (4, .int l4), (5, .int l5)] [] st := by
  intro n
  induction n with
  | zero => intro l1 l2 l3 l4 l5 st h; exact False.elim h
  | succ n ih => intro l1 l2 l3 l4 l5 st h; exact zw_MA_make_39_s hM  ih l1 l2 l3 l4 l5 st h
set_option maxHeartbeats 4000000 in
set_option maxRecDepth 100000 in
theorem zc_MA_make (l : Launch) (g : zs_G) (A : Nat → Prop) {l1 : Int32} {l2 : Int32} {l3 : Int32}  {st : zs_T} {K : Int32 → zs_T → Prop} (h : zf_MA_make l1 l2 l3 st K) : Met l yMA_make (.code yMA_make cMA_make 6 (some .int) :: zs_tb) (zs_rm 1 23) (zs_Pc zs_nl g zs_ly zs_N A [.ref (g.2.1 629), .int l1, .int l2, .int l3] st) (zs_Qi g zs_ly zs_N A K) 0 0 A := by
  refine zs_met (cc := cMA_make) (maxL := 6) (ret := (some .int)) (by decide) (Nat.le_of_ble_eq_true rfl) (fun p e s m below meth c hM => ?_)
  have hM : zs_M p c cMA_make 6 s m meth [.ref (g.2.1 629), .int l1, .int l2, .int l3].toArray "ThriftyStores$Machine" (some .int) g := hM
  obtain ⟨hx, hb, hml, hr, hlk, hts, hown, hK⟩ := id hM
  intro ls H locs hl hP hS
  have hl : lv_has ls 6 [(0, .ref (g.2.1 629)), (1, .int l1), (2, .int l2), (3, .int l3)] := hl
  unfold zf_MA_make at h
  refine lv_aload_n hx hb dMA_make_0 rfl (lv_at hl 0 rfl) ?_
  refine zr_geti hx hb hts zi_MA hown hK.1 hP zl_629.1 zl_629.2 rfl 4 (by decide) rfl (hts _ zq_168) dMA_make_1 ?_
  refine lv_sipush (v := 300) hx hb dMA_make_4 (by decide) ?_
  refine lv_icmp_ne (tgt := 12) hx hb dMA_make_7 rfl (fun hc => ?_) (fun hc => ?_)
  · have h := h.1 hc
    clear hc
    refine lv_aload_n hx hb dMA_make_12 rfl (lv_at hl 0 rfl) ?_
    refine zr_geti hx hb hts zi_MA hown hK.1 hP zl_629.1 zl_629.2 rfl 4 (by decide) rfl (hts _ zq_168) dMA_make_13 ?_
    refine lv_istore hx hb dMA_make_16 hl (by decide) rfl (fun ls hl => ?_)
    have hl : lv_has ls 6 [(4, .int (st.1 629 4)), (0, .ref (g.2.1 629)), (1, .int l1), (2, .int l2), (3, .int l3)] := hl
    refine lv_aload_n hx hb dMA_make_18 rfl (lv_at hl 1 rfl) ?_
    refine lv_dup hx hb dMA_make_19 rfl ?_
    refine zr_geti hx hb hts zi_MA hown hK.1 hP zl_629.1 zl_629.2 rfl 4 (by decide) rfl (hts _ zq_168) dMA_make_20 ?_
    refine lv_iconst (v := 1) hx hb dMA_make_23 (by decide) ?_
    refine lv_iadd hx hb dMA_make_24 ?_
    refine zr_put hx hb hts zi_MA tyMA tyMA_ok nmMA hown hK.1 hP hS zl_629.1 zl_629.2 rfl 4 (by decide) rfl (hts _ zq_168) rfl rfl rfl dMA_make_25 (fun H locs hP hS => ?_)
    obtain ⟨t1, ez⟩ : ∃ tz : zs_T, tz = zs_i st 629 4 ((st.1 629 4) + 1) := ⟨_, rfl⟩
    have h := h t1 ez
    have hP : zs_P g zs_ly zs_N A t1 H := by rw [ez]; exact hP
    clear ez
    refine lv_aload_n hx hb dMA_make_28 rfl (lv_at hl 1 rfl) ?_
    refine zr_getr (b := 632) hx hb hts zi_MA hown hK.1 hP zl_629.1 zl_629.2 rfl 2 (by decide) rfl (hts _ zq_166) dMA_make_29 ?_
    refine lv_iload hx hb dMA_make_32 (lv_at hl 0 rfl) ?_
    refine lv_iload_n hx hb dMA_make_34 rfl (lv_at hl 3 rfl) ?_
    obtain ⟨hi2, h⟩ := h
    refine zr_iast hx hb hK.1 hP hS zl_632.1 zl_632.2 hi2 dMA_make_35 (fun H locs hP hS => ?_)
    obtain ⟨t3, ez⟩ : ∃ tz : zs_T, tz = zs_i t1 632 (st.1 629 4).toNatClampNeg l2 := ⟨_, rfl⟩
    have h := h t3 ez
    have hP : zs_P g zs_ly zs_N A t3 H := by rw [ez]; exact hP
    clear ez
    refine lv_iconst (v := 0) hx hb dMA_make_36 (by decide) ?_
    refine lv_istore hx hb dMA_make_37 hl (by decide) rfl (fun ls hl => ?_)
    have hl : lv_has ls 6 [(5, .int 0), (4, .int (st.1 629 4)), (0, .ref (g.2.1 629)), (1, .int l1), (2, .int l2), (3, .int l3)] := hl
    obtain ⟨n, h⟩ := h
    exact zw_MA_make_39 hM  n l1 l2 l3 (st.1 629 4) 0 t3 h ls H locs (lv_sub hl [2, 3, 4, 5, 1, 0] rfl) hP hS
  · have h := h.2 hc
    clear hc
    refine lv_iconst (v := 3) hx hb dMA_make_10 (by decide) ?_
    exact zr_iret hx hb hr hlk hP hS h dMA_make_11
set_option maxHeartbeats 4000000 in
set_option maxRecDepth 100000 in
theorem zc_MA_store (l : Launch) (g : zs_G) (A : Nat → Prop) {l1 : Int32} {l2 : Int32}  {st : zs_T} {K : Int32 → zs_T → Prop} (h : zf_MA_store l1 l2 st K) : Met l yMA_store (.code yMA_store cMA_store 3 (some .int) :: zs_tb) (zs_rm 2 42) (zs_Pc zs_nl g zs_ly zs_N A [.ref (g.2.1 629), .int l1, .int l2] st) (zs_Qi g zs_ly zs_N A K) 0 0 A := by
  refine zs_met (cc := cMA_store) (maxL := 3) (ret := (some .int)) (by decide) (Nat.le_of_ble_eq_true rfl) (fun p e s m below meth c hM => ?_)
  have hM : zs_M p c cMA_store 3 s m meth [.ref (g.2.1 629), .int l1, .int l2].toArray "ThriftyStores$Machine" (some .int) g := hM
  obtain ⟨hx, hb, hml, hr, hlk, hts, hown, hK⟩ := id hM
  intro ls H locs hl hP hS
  have hl : lv_has ls 3 [(0, .ref (g.2.1 629)), (1, .int l1), (2, .int l2)] := hl
  unfold zf_MA_store at h
  refine lv_aload_n hx hb dMA_store_0 rfl (lv_at hl 0 rfl) ?_
  refine zr_getr (b := 630) hx hb hts zi_MA hown hK.1 hP zl_629.1 zl_629.2 rfl 0 (by decide) rfl (hts _ zq_164) dMA_store_1 ?_
  refine lv_iload_n hx hb dMA_store_4 rfl (lv_at hl 1 rfl) ?_
  obtain ⟨hi1, h⟩ := h
  refine zr_lald hx hb hK.1 hP zl_630.1 zl_630.2 hi1 dMA_store_5 ?_
  refine zr_calli (va_runS (As := [.long (st.2 630 l1.toNatClampNeg)]) (rest := []) ⟨hx, hb, hml, hown, hts⟩ (zc_MA_isAddress l g A  h) (va_cwS 1 hts (zs_gS zq_666 zq_667 zq_7 zq_668) rfl rfl rfl ⟨by decide, by decide, by decide +kernel⟩ ⟨Nat.le_of_ble_eq_true rfl, Nat.le_of_ble_eq_true rfl⟩) (zs_preS zs_nwk hK hP) rfl rfl hl.1 rfl (lv_room (Nat.le_of_ble_eq_true rfl)) dMA_store_6 ⟨Nat.le_refl _, Nat.le_refl _⟩) hS (fun r3 u2 H locs h hP hS => ?_)
  refine lv_if_ne (tgt := 14) hx hb dMA_store_9 rfl (fun hc => ?_) (fun hc => ?_)
  · have h := h.1 hc
    clear hc
    refine lv_aload_n hx hb dMA_store_14 rfl (lv_at hl 0 rfl) ?_
    refine zr_getr (b := 631) hx hb hts zi_MA hown hK.1 hP zl_629.1 zl_629.2 rfl 1 (by decide) rfl (hts _ zq_165) dMA_store_15 ?_
    refine lv_aload_n hx hb dMA_store_18 rfl (lv_at hl 0 rfl) ?_
    refine zr_getr (b := 630) hx hb hts zi_MA hown hK.1 hP zl_629.1 zl_629.2 rfl 0 (by decide) rfl (hts _ zq_164) dMA_store_19 ?_
    refine lv_iload_n hx hb dMA_store_22 rfl (lv_at hl 1 rfl) ?_
    obtain ⟨hi4, h⟩ := h
    refine zr_lald hx hb hK.1 hP zl_630.1 zl_630.2 hi4 dMA_store_23 ?_
    refine zr_calli (va_runS (As := [.long (u2.2 630 l1.toNatClampNeg)]) (rest := [.ref (g.2.1 631)]) ⟨hx, hb, hml, hown, hts⟩ (zc_MA_cellOf l g A  h) (va_cwS 1 hts (zs_gS zq_683 zq_684 zq_7 zq_685) rfl rfl rfl ⟨by decide, by decide, by decide +kernel⟩ ⟨Nat.le_of_ble_eq_true rfl, Nat.le_of_ble_eq_true rfl⟩) (zs_preS zs_nwk hK hP) rfl rfl hl.1 rfl (lv_room (Nat.le_of_ble_eq_true rfl)) dMA_store_24 ⟨Nat.le_refl _, Nat.le_refl _⟩) hS (fun r6 u5 H locs h hP hS => ?_)
    refine lv_aload_n hx hb dMA_store_27 rfl (lv_at hl 0 rfl) ?_
    refine zr_getr (b := 630) hx hb hts zi_MA hown hK.1 hP zl_629.1 zl_629.2 rfl 0 (by decide) rfl (hts _ zq_164) dMA_store_28 ?_
    refine lv_iload_n hx hb dMA_store_31 rfl (lv_at hl 2 rfl) ?_
    obtain ⟨hi7, h⟩ := h
    refine zr_lald hx hb hK.1 hP zl_630.1 zl_630.2 hi7 dMA_store_32 ?_
    obtain ⟨hi8, h⟩ := h
    refine zr_last hx hb hK.1 hP hS zl_631.1 zl_631.2 hi8 dMA_store_33 (fun H locs hP hS => ?_)
    obtain ⟨t9, ez⟩ : ∃ tz : zs_T, tz = zs_l u5 631 r6.toNatClampNeg (u5.2 630 l2.toNatClampNeg) := ⟨_, rfl⟩
    have h := h t9 ez
    have hP : zs_P g zs_ly zs_N A t9 H := by rw [ez]; exact hP
    clear ez
    refine lv_iconst (v := (-1)) hx hb dMA_store_34 (by decide) ?_
    exact zr_iret hx hb hr hlk hP hS h dMA_store_35
  · have h := h.2 hc
    clear hc
    refine lv_iconst (v := 1) hx hb dMA_store_12 (by decide) ?_
    exact zr_iret hx hb hr hlk hP hS h dMA_store_13
set_option maxHeartbeats 4000000 in
set_option maxRecDepth 100000 in
theorem zc_MA_tell (l : Launch) (g : zs_G) (A : Nat → Prop) {l1 : Int32}  {st : zs_T} {K : Int32 → zs_T → Prop} (h : zf_MA_tell l1 st K) : Met l yMA_tell (.code yMA_tell cMA_tell 2 (some .int) :: zs_tb) (zs_rm 1 21) (zs_Pc zs_nl g zs_ly zs_N A [.ref (g.2.1 629), .int l1] st) (zs_Qi g zs_ly zs_N A K) 0 0 A := by
  refine zs_met (cc := cMA_tell) (maxL := 2) (ret := (some .int)) (by decide) (Nat.le_of_ble_eq_true rfl) (fun p e s m below meth c hM => ?_)
  have hM : zs_M p c cMA_tell 2 s m meth [.ref (g.2.1 629), .int l1].toArray "ThriftyStores$Machine" (some .int) g := hM
  obtain ⟨hx, hb, hml, hr, hlk, hts, hown, hK⟩ := id hM
  intro ls H locs hl hP hS
  have hl : lv_has ls 2 [(0, .ref (g.2.1 629)), (1, .int l1)] := hl
  unfold zf_MA_tell at h
  refine lv_aload_n hx hb dMA_tell_0 rfl (lv_at hl 0 rfl) ?_
  refine zr_getr (b := 630) hx hb hts zi_MA hown hK.1 hP zl_629.1 zl_629.2 rfl 0 (by decide) rfl (hts _ zq_164) dMA_tell_1 ?_
  refine lv_iload_n hx hb dMA_tell_4 rfl (lv_at hl 1 rfl) ?_
  obtain ⟨hi1, h⟩ := h
  refine zr_lald hx hb hK.1 hP zl_630.1 zl_630.2 hi1 dMA_tell_5 ?_
  refine zr_calli (va_runS (As := [.long (st.2 630 l1.toNatClampNeg)]) (rest := []) ⟨hx, hb, hml, hown, hts⟩ (zc_MA_isAddress l g A  h) (va_cwS 1 hts (zs_gS zq_666 zq_667 zq_7 zq_668) rfl rfl rfl ⟨by decide, by decide, by decide +kernel⟩ ⟨Nat.le_of_ble_eq_true rfl, Nat.le_of_ble_eq_true rfl⟩) (zs_preS zs_nwk hK hP) rfl rfl hl.1 rfl (lv_room (Nat.le_of_ble_eq_true rfl)) dMA_tell_6 ⟨Nat.le_refl _, Nat.le_refl _⟩) hS (fun r3 u2 H locs h hP hS => ?_)
  refine lv_if_eq (tgt := 14) hx hb dMA_tell_9 rfl (fun hc => ?_) (fun hc => ?_)
  · have h := h.1 hc
    clear hc
    refine lv_aload_n hx hb dMA_tell_14 rfl (lv_at hl 0 rfl) ?_
    refine zr_geti hx hb hts zi_MA hown hK.1 hP zl_629.1 zl_629.2 rfl 9 (by decide) rfl (hts _ zq_174) dMA_tell_15 ?_
    refine lv_sipush (v := 200) hx hb dMA_tell_18 (by decide) ?_
    refine lv_icmp_ne (tgt := 26) hx hb dMA_tell_21 rfl (fun hc => ?_) (fun hc => ?_)
    · have h := h.1 hc
      clear hc
      refine lv_aload_n hx hb dMA_tell_26 rfl (lv_at hl 0 rfl) ?_
      refine zr_getr (b := 634) hx hb hts zi_MA hown hK.1 hP zl_629.1 zl_629.2 rfl 8 (by decide) rfl (hts _ zq_172) dMA_tell_27 ?_
      refine lv_aload_n hx hb dMA_tell_30 rfl (lv_at hl 0 rfl) ?_
      refine zr_geti hx hb hts zi_MA hown hK.1 hP zl_629.1 zl_629.2 rfl 9 (by decide) rfl (hts _ zq_174) dMA_tell_31 ?_
      refine lv_aload_n hx hb dMA_tell_34 rfl (lv_at hl 0 rfl) ?_
      refine zr_getr (b := 630) hx hb hts zi_MA hown hK.1 hP zl_629.1 zl_629.2 rfl 0 (by decide) rfl (hts _ zq_164) dMA_tell_35 ?_
      refine lv_iload_n hx hb dMA_tell_38 rfl (lv_at hl 1 rfl) ?_
      obtain ⟨hi4, h⟩ := h
      refine zr_lald hx hb hK.1 hP zl_630.1 zl_630.2 hi4 dMA_tell_39 ?_
      refine lv_l2i hx hb dMA_tell_40 rfl ?_
      obtain ⟨hi5, h⟩ := h
      refine zr_iast hx hb hK.1 hP hS zl_634.1 zl_634.2 hi5 dMA_tell_41 (fun H locs hP hS => ?_)
      obtain ⟨t6, ez⟩ : ∃ tz : zs_T, tz = zs_i u2 634 (u2.1 629 9).toNatClampNeg ((u2.2 630 l1.toNatClampNeg).toInt32) := ⟨_, rfl⟩
      have h := h t6 ez
      have hP : zs_P g zs_ly zs_N A t6 H := by rw [ez]; exact hP
      clear ez
      refine lv_aload_n hx hb dMA_tell_42 rfl (lv_at hl 0 rfl) ?_
      refine lv_dup hx hb dMA_tell_43 rfl ?_
      refine zr_geti hx hb hts zi_MA hown hK.1 hP zl_629.1 zl_629.2 rfl 9 (by decide) rfl (hts _ zq_174) dMA_tell_44 ?_
      refine lv_iconst (v := 1) hx hb dMA_tell_47 (by decide) ?_
      refine lv_iadd hx hb dMA_tell_48 ?_
      refine zr_put hx hb hts zi_MA tyMA tyMA_ok nmMA hown hK.1 hP hS zl_629.1 zl_629.2 rfl 9 (by decide) rfl (hts _ zq_174) rfl rfl rfl dMA_tell_49 (fun H locs hP hS => ?_)
      obtain ⟨t7, ez⟩ : ∃ tz : zs_T, tz = zs_i t6 629 9 ((t6.1 629 9) + 1) := ⟨_, rfl⟩
      have h := h t7 ez
      have hP : zs_P g zs_ly zs_N A t7 H := by rw [ez]; exact hP
      clear ez
      refine lv_iconst (v := (-1)) hx hb dMA_tell_52 (by decide) ?_
      exact zr_iret hx hb hr hlk hP hS h dMA_tell_53
    · have h := h.2 hc
      clear hc
      refine lv_iconst (v := 3) hx hb dMA_tell_24 (by decide) ?_
      exact zr_iret hx hb hr hlk hP hS h dMA_tell_25
  · have h := h.2 hc
    clear hc
    refine lv_iconst (v := 1) hx hb dMA_tell_12 (by decide) ?_
    exact zr_iret hx hb hr hlk hP hS h dMA_tell_13
set_option maxHeartbeats 4000000 in
set_option maxRecDepth 100000 in
theorem zc_MA_decide (l : Launch) (g : zs_G) (A : Nat → Prop) {l1 : Int32} {l2 : Int32}  {st : zs_T} {K : Int32 → zs_T → Prop} (h : zf_MA_decide l1 l2 st K) : Met l yMA_decide (.code yMA_decide cMA_decide 3 (some .int) :: zs_tb) (zs_rm 1 21) (zs_Pc zs_nl g zs_ly zs_N A [.ref (g.2.1 629), .int l1, .int l2] st) (zs_Qi g zs_ly zs_N A K) 0 0 A := by
  refine zs_met (cc := cMA_decide) (maxL := 3) (ret := (some .int)) (by decide) (Nat.le_of_ble_eq_true rfl) (fun p e s m below meth c hM => ?_)
  have hM : zs_M p c cMA_decide 3 s m meth [.ref (g.2.1 629), .int l1, .int l2].toArray "ThriftyStores$Machine" (some .int) g := hM
  obtain ⟨hx, hb, hml, hr, hlk, hts, hown, hK⟩ := id hM
  intro ls H locs hl hP hS
  have hl : lv_has ls 3 [(0, .ref (g.2.1 629)), (1, .int l1), (2, .int l2)] := hl
  unfold zf_MA_decide at h
  refine lv_aload_n hx hb dMA_decide_0 rfl (lv_at hl 0 rfl) ?_
  refine zr_getr (b := 630) hx hb hts zi_MA hown hK.1 hP zl_629.1 zl_629.2 rfl 0 (by decide) rfl (hts _ zq_164) dMA_decide_1 ?_
  refine lv_iload_n hx hb dMA_decide_4 rfl (lv_at hl 1 rfl) ?_
  obtain ⟨hi1, h⟩ := h
  refine zr_lald hx hb hK.1 hP zl_630.1 zl_630.2 hi1 dMA_decide_5 ?_
  refine zr_calli (va_runS (As := [.long (st.2 630 l1.toNatClampNeg)]) (rest := []) ⟨hx, hb, hml, hown, hts⟩ (zc_MA_isAddress l g A  h) (va_cwS 1 hts (zs_gS zq_666 zq_667 zq_7 zq_668) rfl rfl rfl ⟨by decide, by decide, by decide +kernel⟩ ⟨Nat.le_of_ble_eq_true rfl, Nat.le_of_ble_eq_true rfl⟩) (zs_preS zs_nwk hK hP) rfl rfl hl.1 rfl (lv_room (Nat.le_of_ble_eq_true rfl)) dMA_decide_6 ⟨Nat.le_refl _, Nat.le_refl _⟩) hS (fun r3 u2 H locs h hP hS => ?_)
  refine lv_if_eq (tgt := 14) hx hb dMA_decide_9 rfl (fun hc => ?_) (fun hc => ?_)
  · have h := h.1 hc
    clear hc
    refine lv_aload_n hx hb dMA_decide_14 rfl (lv_at hl 0 rfl) ?_
    refine zr_getr (b := 630) hx hb hts zi_MA hown hK.1 hP zl_629.1 zl_629.2 rfl 0 (by decide) rfl (hts _ zq_164) dMA_decide_15 ?_
    refine lv_iload_n hx hb dMA_decide_18 rfl (lv_at hl 1 rfl) ?_
    obtain ⟨hi4, h⟩ := h
    refine zr_lald hx hb hK.1 hP zl_630.1 zl_630.2 hi4 dMA_decide_19 ?_
    refine lv_lconst (v := 0) hx hb dMA_decide_20 (by decide) ?_
    refine W.lcmp hx hb dMA_decide_21 ?_
    refine lv_if_eq (tgt := 33) hx hb dMA_decide_22 rfl (fun hc => ?_) (fun hc => ?_)
    · have h := h.1 hc
      clear hc
      refine lv_iconst (v := (-1)) hx hb dMA_decide_33 (by decide) ?_
      exact zr_iret hx hb hr hlk hP hS h dMA_decide_34
    · have h := h.2 hc
      clear hc
      refine lv_aload_n hx hb dMA_decide_25 rfl (lv_at hl 0 rfl) ?_
      refine lv_iload_n hx hb dMA_decide_26 rfl (lv_at hl 2 rfl) ?_
      refine zr_calli (va_runV (As := [.int l2]) (rest := []) ⟨hx, hb, hml, hown, hts⟩ (zc_MA_goTo l g A  h) (cwV 1 hts (zs_gV zq_694 zq_696 zp_32 zq_7 zq_697) rfl rfl rfl ⟨rfl, by decide, by decide, by decide +kernel⟩ ⟨Nat.le_of_ble_eq_true rfl, Nat.le_of_ble_eq_true rfl⟩) (zs_preV zs_nwk hK hP zl_629.1 zl_629.2 rfl) rfl rfl hl.1 rfl (lv_room (Nat.le_of_ble_eq_true rfl)) dMA_decide_27 ⟨Nat.le_refl _, Nat.le_refl _⟩) hS (fun r6 u5 H locs h hP hS => ?_)
      refine lv_goto (tgt := 34) hx hb dMA_decide_30 rfl ?_
      exact zr_iret hx hb hr hlk hP hS h dMA_decide_34
  · have h := h.2 hc
    clear hc
    refine lv_iconst (v := 1) hx hb dMA_decide_12 (by decide) ?_
    exact zr_iret hx hb hr hlk hP hS h dMA_decide_13
set_option maxHeartbeats 4000000 in
set_option maxRecDepth 100000 in
theorem zw_MA_step_138 (hM : zs_M p c cMA_step 7 s m meth args "ThriftyStores$Machine" (some .int) g) {d1 : Nat} (hd1 : zs_Pr d1) {K : Int32 → zs_T → Prop}   (l3 : Int32) (l4 : Int32) (l5 : Int32) (l6 : Int32) (st : zs_T) (h : zf_MA_step_138 d1 K l3 l4 l5 l6 st) : zs_Go p l e (zs_rm 3 64) s m args below meth c g A (MQ below (zs_Qi g zs_ly zs_N A K) args s 0 0 A) 7 138 [(0, .ref (g.2.1 629)), (3, .int l3), (4, .int l4), (5, .int l5), (6, .int l6)] [] st := by
  obtain ⟨hx, hb, hml, hr, hlk, hts, hown, hK⟩ := id hM
  intro ls H locs hl hP hS
  unfold zf_MA_step_138 at h
  refine lv_aload_n hx hb dMA_step_138 rfl (lv_at hl 0 rfl) ?_
  refine lv_iload_n hx hb dMA_step_139 rfl (lv_at hl 1 rfl) ?_
  refine lv_iload hx hb dMA_step_140 (lv_at hl 2 rfl) ?_
  refine lv_iload hx hb dMA_step_142 (lv_at hl 3 rfl) ?_
  refine lv_iload hx hb dMA_step_144 (lv_at hl 4 rfl) ?_
  refine zr_calli (va_runV (As := [.int l3, .int l4, .int l5, .int l6]) (rest := []) ⟨hx, hb, hml, hown, hts⟩ (zc_MA_reckon l g A  h) (cwV 4 hts (zs_gV zq_662 zq_664 zp_27 zq_7 zq_665) rfl rfl rfl ⟨rfl, by decide, by decide, by decide +kernel⟩ ⟨Nat.le_of_ble_eq_true rfl, Nat.le_of_ble_eq_true rfl⟩) (zs_preV zs_nwk hK hP zl_629.1 zl_629.2 rfl) rfl rfl hl.1 rfl (lv_room (Nat.le_of_ble_eq_true rfl)) dMA_step_146 ⟨Nat.le_refl _, Nat.le_refl _⟩) hS (fun r102 u101 H locs h hP hS => ?_)
  exact zr_iret hx hb hr hlk hP hS h dMA_step_149
set_option maxHeartbeats 4000000 in
set_option maxRecDepth 100000 in
theorem zw_MA_step_176 (hM : zs_M p c cMA_step 7 s m meth args "ThriftyStores$Machine" (some .int) g) {d1 : Nat} (hd1 : zs_Pr d1) {K : Int32 → zs_T → Prop}   (s0 : Int64) (s1 : Int32) (st : zs_T) (h : zf_MA_step_176 d1 K s0 s1 st) : zs_Go p l e (zs_rm 3 64) s m args below meth c g A (MQ below (zs_Qi g zs_ly zs_N A K) args s 0 0 A) 7 176 [] [.long s0, .int s1, .ref (g.2.1 629)] st := by
  obtain ⟨hx, hb, hml, hr, hlk, hts, hown, hK⟩ := id hM
  intro ls H locs hl hP hS
  unfold zf_MA_step_176 at h
  refine zr_calli (va_runV (As := [.int s1, .long s0]) (rest := []) ⟨hx, hb, hml, hown, hts⟩ (zc_MA_become l g A  h) (cwV 2 hts (zs_gV zq_658 zq_660 zp_26 zq_7 zq_661) rfl rfl rfl ⟨rfl, by decide, by decide, by decide +kernel⟩ ⟨Nat.le_of_ble_eq_true rfl, Nat.le_of_ble_eq_true rfl⟩) (zs_preV zs_nwk hK hP zl_629.1 zl_629.2 rfl) rfl rfl hl.1 rfl (lv_room (Nat.le_of_ble_eq_true rfl)) dMA_step_176 ⟨Nat.le_refl _, Nat.le_refl _⟩) hS (fun r202 u201 H locs h hP hS => ?_)
  exact zr_iret hx hb hr hlk hP hS h dMA_step_179
set_option maxHeartbeats 4000000 in
set_option maxRecDepth 100000 in
theorem zc_MA_step (l : Launch) (g : zs_G) (A : Nat → Prop) {d1 : Nat} {l2 : Int32} (hd1 : zs_Pr d1) {st : zs_T} {K : Int32 → zs_T → Prop} (h : zf_MA_step d1 l2 st K) : Met l yMA_step (.code yMA_step cMA_step 7 (some .int) :: zs_tb) (zs_rm 3 64) (zs_Pc zs_nl g zs_ly zs_N A [.ref (g.2.1 629), .ref (g.2.1 d1), .int l2] st) (zs_Qi g zs_ly zs_N A K) 0 0 A := by
  refine zs_met (cc := cMA_step) (maxL := 7) (ret := (some .int)) (by decide) (Nat.le_of_ble_eq_true rfl) (fun p e s m below meth c hM => ?_)
  have hM : zs_M p c cMA_step 7 s m meth [.ref (g.2.1 629), .ref (g.2.1 d1), .int l2].toArray "ThriftyStores$Machine" (some .int) g := hM
  obtain ⟨hx, hb, hml, hr, hlk, hts, hown, hK⟩ := id hM
  intro ls H locs hl hP hS
  have hl : lv_has ls 7 [(0, .ref (g.2.1 629)), (1, .ref (g.2.1 d1)), (2, .int l2)] := hl
  unfold zf_MA_step at h
  refine lv_aload_n hx hb dMA_step_0 rfl (lv_at hl 1 rfl) ?_
  refine zr_getr (b := d1 + 1) hx hb hts zi_PR hown hK.1 hP hd1.1.1 hd1.1.2 rfl 0 (by decide) rfl (hts _ zq_37) dMA_step_1 ?_
  refine lv_iload_n hx hb dMA_step_4 rfl (lv_at hl 2 rfl) ?_
  obtain ⟨hi1, h⟩ := h
  refine zr_iald hx hb hK.1 hP hd1.2.1.1 hd1.2.1.2 hi1 dMA_step_5 ?_
  refine lv_istore_n hx hb dMA_step_6 rfl hl (by decide) rfl (fun ls hl => ?_)
  have hl : lv_has ls 7 [(3, .int (st.1 (d1 + 1) l2.toNatClampNeg)), (0, .ref (g.2.1 629)), (1, .ref (g.2.1 d1)), (2, .int l2)] := hl
  refine lv_aload_n hx hb dMA_step_7 rfl (lv_at hl 2 rfl) ?_
  refine zr_getr (b := d1 + 2) hx hb hts zi_PR hown hK.1 hP hd1.1.1 hd1.1.2 rfl 1 (by decide) rfl (hts _ zq_43) dMA_step_8 ?_
  refine lv_iload_n hx hb dMA_step_11 rfl (lv_at hl 3 rfl) ?_
  obtain ⟨hi2, h⟩ := h
  refine zr_iald hx hb hK.1 hP hd1.2.2.1.1 hd1.2.2.1.2 hi2 dMA_step_12 ?_
  refine lv_istore hx hb dMA_step_13 hl (by decide) rfl (fun ls hl => ?_)
  have hl : lv_has ls 7 [(4, .int (st.1 (d1 + 2) l2.toNatClampNeg)), (3, .int (st.1 (d1 + 1) l2.toNatClampNeg)), (0, .ref (g.2.1 629)), (1, .ref (g.2.1 d1)), (2, .int l2)] := hl
  refine lv_aload_n hx hb dMA_step_15 rfl (lv_at hl 3 rfl) ?_
  refine zr_getr (b := d1 + 3) hx hb hts zi_PR hown hK.1 hP hd1.1.1 hd1.1.2 rfl 2 (by decide) rfl (hts _ zq_49) dMA_step_16 ?_
  refine lv_iload_n hx hb dMA_step_19 rfl (lv_at hl 4 rfl) ?_
  obtain ⟨hi3, h⟩ := h
  refine zr_iald hx hb hK.1 hP hd1.2.2.2.1.1 hd1.2.2.2.1.2 hi3 dMA_step_20 ?_
  refine lv_istore hx hb dMA_step_21 hl (by decide) rfl (fun ls hl => ?_)
  have hl : lv_has ls 7 [(5, .int (st.1 (d1 + 3) l2.toNatClampNeg)), (4, .int (st.1 (d1 + 2) l2.toNatClampNeg)), (3, .int (st.1 (d1 + 1) l2.toNatClampNeg)), (0, .ref (g.2.1 629)), (1, .ref (g.2.1 d1)), (2, .int l2)] := hl
  refine lv_aload_n hx hb dMA_step_23 rfl (lv_at hl 4 rfl) ?_
  refine zr_getr (b := d1 + 4) hx hb hts zi_PR hown hK.1 hP hd1.1.1 hd1.1.2 rfl 3 (by decide) rfl (hts _ zq_52) dMA_step_24 ?_
  refine lv_iload_n hx hb dMA_step_27 rfl (lv_at hl 5 rfl) ?_
  obtain ⟨hi4, h⟩ := h
  refine zr_iald hx hb hK.1 hP hd1.2.2.2.2.1 hd1.2.2.2.2.2 hi4 dMA_step_28 ?_
  refine lv_istore hx hb dMA_step_29 hl (by decide) rfl (fun ls hl => ?_)
  have hl : lv_has ls 7 [(6, .int (st.1 (d1 + 4) l2.toNatClampNeg)), (5, .int (st.1 (d1 + 3) l2.toNatClampNeg)), (4, .int (st.1 (d1 + 2) l2.toNatClampNeg)), (3, .int (st.1 (d1 + 1) l2.toNatClampNeg)), (0, .ref (g.2.1 629)), (1, .ref (g.2.1 d1)), (2, .int l2)] := hl
  refine lv_aload_n hx hb dMA_step_31 rfl (lv_at hl 4 rfl) ?_
  refine lv_iload_n hx hb dMA_step_32 rfl (lv_at hl 6 rfl) ?_
  refine lv_iconst (v := 1) hx hb dMA_step_33 (by decide) ?_
  refine lv_iadd hx hb dMA_step_34 ?_
  refine zr_put hx hb hts zi_MA tyMA tyMA_ok nmMA hown hK.1 hP hS zl_629.1 zl_629.2 rfl 7 (by decide) rfl (hts _ zq_171) rfl rfl rfl dMA_step_35 (fun H locs hP hS => ?_)
  obtain ⟨t5, ez⟩ : ∃ tz : zs_T, tz = zs_i st 629 7 (l2 + 1) := ⟨_, rfl⟩
  have h := h t5 ez
  have hP : zs_P g zs_ly zs_N A t5 H := by rw [ez]; exact hP
  clear ez
  refine lv_iload_n hx hb dMA_step_38 rfl (lv_at hl 3 rfl) ?_
  by_cases hc : (st.1 (d1 + 1) l2.toNatClampNeg) = 0
  · refine lv_tableIn (tgt := 112) (off := 73) hx hb dMA_step_39 (by rw [hc]; decide) (by rw [hc]; decide) (by rw [hc]; decide) rfl ?_
    have h := h.1 hc
    clear hc
    refine lv_aload_n hx hb dMA_step_112 rfl (lv_at hl 4 rfl) ?_
    refine lv_iload hx hb dMA_step_113 (lv_at hl 2 rfl) ?_
    refine lv_iload hx hb dMA_step_115 (lv_at hl 1 rfl) ?_
    refine zr_calll (va_runS (As := [.int (st.1 (d1 + 3) l2.toNatClampNeg)]) (rest := [.int (st.1 (d1 + 2) l2.toNatClampNeg), .ref (g.2.1 629)]) ⟨hx, hb, hml, hown, hts⟩ (zc_MA_number l g A  h) (va_cwS 1 hts (zs_gS zq_654 zq_655 zq_7 zq_656) rfl rfl rfl ⟨by decide, by decide, by decide +kernel⟩ ⟨Nat.le_of_ble_eq_true rfl, Nat.le_of_ble_eq_true rfl⟩) (zs_preS zs_nwk hK hP) rfl rfl hl.1 rfl (lv_room (Nat.le_of_ble_eq_true rfl)) dMA_step_117 ⟨Nat.le_refl _, Nat.le_refl _⟩) hS (fun r7 u6 H locs h hP hS => ?_)
    refine zr_calli (va_runV (As := [.int (st.1 (d1 + 2) l2.toNatClampNeg), .long r7]) (rest := []) ⟨hx, hb, hml, hown, hts⟩ (zc_MA_become l g A  h) (cwV 2 hts (zs_gV zq_658 zq_660 zp_26 zq_7 zq_661) rfl rfl rfl ⟨rfl, by decide, by decide, by decide +kernel⟩ ⟨Nat.le_of_ble_eq_true rfl, Nat.le_of_ble_eq_true rfl⟩) (zs_preV zs_nwk hK hP zl_629.1 zl_629.2 rfl) rfl rfl hl.1 rfl (lv_room (Nat.le_of_ble_eq_true rfl)) dMA_step_120 ⟨Nat.le_refl _, Nat.le_refl _⟩) hS (fun r9 u8 H locs h hP hS => ?_)
    exact zr_iret hx hb hr hlk hP hS h dMA_step_123
  · have h := h.2 hc
    have hn0 := hc
    clear hc
    by_cases hc : (st.1 (d1 + 1) l2.toNatClampNeg) = 1
    · refine lv_tableIn (tgt := 124) (off := 85) hx hb dMA_step_39 (by rw [hc]; decide) (by rw [hc]; decide) (by rw [hc]; decide) rfl ?_
      have h := h.1 hc
      clear hc
      refine lv_aload_n hx hb dMA_step_124 rfl (lv_at hl 4 rfl) ?_
      refine lv_iload hx hb dMA_step_125 (lv_at hl 2 rfl) ?_
      refine lv_aload_n hx hb dMA_step_127 rfl (lv_at hl 4 rfl) ?_
      refine zr_getr (b := 630) hx hb hts zi_MA hown hK.1 hP zl_629.1 zl_629.2 rfl 0 (by decide) rfl (hts _ zq_164) dMA_step_128 ?_
      refine lv_iload hx hb dMA_step_131 (lv_at hl 1 rfl) ?_
      obtain ⟨hi10, h⟩ := h
      refine zr_lald hx hb hK.1 hP zl_630.1 zl_630.2 hi10 dMA_step_133 ?_
      refine zr_calli (va_runV (As := [.int (st.1 (d1 + 2) l2.toNatClampNeg), .long (t5.2 630 (st.1 (d1 + 3) l2.toNatClampNeg).toNatClampNeg)]) (rest := []) ⟨hx, hb, hml, hown, hts⟩ (zc_MA_become l g A  h) (cwV 2 hts (zs_gV zq_658 zq_660 zp_26 zq_7 zq_661) rfl rfl rfl ⟨rfl, by decide, by decide, by decide +kernel⟩ ⟨Nat.le_of_ble_eq_true rfl, Nat.le_of_ble_eq_true rfl⟩) (zs_preV zs_nwk hK hP zl_629.1 zl_629.2 rfl) rfl rfl hl.1 rfl (lv_room (Nat.le_of_ble_eq_true rfl)) dMA_step_134 ⟨Nat.le_refl _, Nat.le_refl _⟩) hS (fun r12 u11 H locs h hP hS => ?_)
      exact zr_iret hx hb hr hlk hP hS h dMA_step_137
    · have h := h.2 hc
      have hn1 := hc
      clear hc
      by_cases hc : (st.1 (d1 + 1) l2.toNatClampNeg) = 2
      · refine lv_tableIn (tgt := 138) (off := 99) hx hb dMA_step_39 (by rw [hc]; decide) (by rw [hc]; decide) (by rw [hc]; decide) rfl ?_
        have h := h.1 hc
        clear hc
        exact zw_MA_step_138 hM hd1 (st.1 (d1 + 1) l2.toNatClampNeg) (st.1 (d1 + 2) l2.toNatClampNeg) (st.1 (d1 + 3) l2.toNatClampNeg) (st.1 (d1 + 4) l2.toNatClampNeg) t5 h ls H locs (lv_sub hl [4, 3, 2, 1, 0] rfl) hP hS
      · have h := h.2 hc
        have hn2 := hc
        clear hc
        by_cases hc : (st.1 (d1 + 1) l2.toNatClampNeg) = 3
        · refine lv_tableIn (tgt := 138) (off := 99) hx hb dMA_step_39 (by rw [hc]; decide) (by rw [hc]; decide) (by rw [hc]; decide) rfl ?_
          have h := h.1 hc
          clear hc
          exact zw_MA_step_138 hM hd1 (st.1 (d1 + 1) l2.toNatClampNeg) (st.1 (d1 + 2) l2.toNatClampNeg) (st.1 (d1 + 3) l2.toNatClampNeg) (st.1 (d1 + 4) l2.toNatClampNeg) t5 h ls H locs (lv_sub hl [4, 3, 2, 1, 0] rfl) hP hS
        · have h := h.2 hc
          have hn3 := hc
          clear hc
          by_cases hc : (st.1 (d1 + 1) l2.toNatClampNeg) = 4
          · refine lv_tableIn (tgt := 138) (off := 99) hx hb dMA_step_39 (by rw [hc]; decide) (by rw [hc]; decide) (by rw [hc]; decide) rfl ?_
            have h := h.1 hc
            clear hc
            exact zw_MA_step_138 hM hd1 (st.1 (d1 + 1) l2.toNatClampNeg) (st.1 (d1 + 2) l2.toNatClampNeg) (st.1 (d1 + 3) l2.toNatClampNeg) (st.1 (d1 + 4) l2.toNatClampNeg) t5 h ls H locs (lv_sub hl [4, 3, 2, 1, 0] rfl) hP hS
          · have h := h.2 hc
            have hn4 := hc
            clear hc
            by_cases hc : (st.1 (d1 + 1) l2.toNatClampNeg) = 5
            · refine lv_tableIn (tgt := 138) (off := 99) hx hb dMA_step_39 (by rw [hc]; decide) (by rw [hc]; decide) (by rw [hc]; decide) rfl ?_
              have h := h.1 hc
              clear hc
              exact zw_MA_step_138 hM hd1 (st.1 (d1 + 1) l2.toNatClampNeg) (st.1 (d1 + 2) l2.toNatClampNeg) (st.1 (d1 + 3) l2.toNatClampNeg) (st.1 (d1 + 4) l2.toNatClampNeg) t5 h ls H locs (lv_sub hl [4, 3, 2, 1, 0] rfl) hP hS
            · have h := h.2 hc
              have hn5 := hc
              clear hc
              by_cases hc : (st.1 (d1 + 1) l2.toNatClampNeg) = 6
              · refine lv_tableIn (tgt := 150) (off := 111) hx hb dMA_step_39 (by rw [hc]; decide) (by rw [hc]; decide) (by rw [hc]; decide) rfl ?_
                have h := h.1 hc
                clear hc
                refine lv_aload_n hx hb dMA_step_150 rfl (lv_at hl 4 rfl) ?_
                refine lv_iload hx hb dMA_step_151 (lv_at hl 2 rfl) ?_
                refine lv_aload_n hx hb dMA_step_153 rfl (lv_at hl 4 rfl) ?_
                refine zr_getr (b := 630) hx hb hts zi_MA hown hK.1 hP zl_629.1 zl_629.2 rfl 0 (by decide) rfl (hts _ zq_164) dMA_step_154 ?_
                refine lv_iload hx hb dMA_step_157 (lv_at hl 1 rfl) ?_
                obtain ⟨hi13, h⟩ := h
                refine zr_lald hx hb hK.1 hP zl_630.1 zl_630.2 hi13 dMA_step_159 ?_
                refine lv_aload_n hx hb dMA_step_160 rfl (lv_at hl 4 rfl) ?_
                refine zr_getr (b := 630) hx hb hts zi_MA hown hK.1 hP zl_629.1 zl_629.2 rfl 0 (by decide) rfl (hts _ zq_164) dMA_step_161 ?_
                refine lv_iload hx hb dMA_step_164 (lv_at hl 0 rfl) ?_
                obtain ⟨hi14, h⟩ := h
                refine zr_lald hx hb hK.1 hP zl_630.1 zl_630.2 hi14 dMA_step_166 ?_
                refine W.lcmp hx hb dMA_step_167 ?_
                refine lv_if_ne (tgt := 175) hx hb dMA_step_168 rfl (fun hc => ?_) (fun hc => ?_)
                · have h := h.1 hc
                  clear hc
                  refine lv_lconst (v := 0) hx hb dMA_step_175 (by decide) ?_
                  exact zw_MA_step_176 hM hd1 0 (st.1 (d1 + 2) l2.toNatClampNeg) t5 h ls H locs (lv_sub hl [] rfl) hP hS
                · have h := h.2 hc
                  clear hc
                  refine lv_lconst (v := 1) hx hb dMA_step_171 (by decide) ?_
                  refine lv_goto (tgt := 176) hx hb dMA_step_172 rfl ?_
                  exact zw_MA_step_176 hM hd1 1 (st.1 (d1 + 2) l2.toNatClampNeg) t5 h ls H locs (lv_sub hl [] rfl) hP hS
              · have h := h.2 hc
                have hn6 := hc
                clear hc
                by_cases hc : (st.1 (d1 + 1) l2.toNatClampNeg) = 7
                · refine lv_tableIn (tgt := 180) (off := 141) hx hb dMA_step_39 (by rw [hc]; decide) (by rw [hc]; decide) (by rw [hc]; decide) rfl ?_
                  have h := h.1 hc
                  clear hc
                  refine lv_aload_n hx hb dMA_step_180 rfl (lv_at hl 4 rfl) ?_
                  refine lv_iload hx hb dMA_step_181 (lv_at hl 2 rfl) ?_
                  refine lv_iload hx hb dMA_step_183 (lv_at hl 1 rfl) ?_
                  refine lv_iload hx hb dMA_step_185 (lv_at hl 0 rfl) ?_
                  refine zr_calli (va_runV (As := [.int (st.1 (d1 + 2) l2.toNatClampNeg), .int (st.1 (d1 + 3) l2.toNatClampNeg), .int (st.1 (d1 + 4) l2.toNatClampNeg)]) (rest := []) ⟨hx, hb, hml, hown, hts⟩ (zc_MA_shift l g A  h) (cwV 3 hts (zs_gV zq_669 zq_671 zp_28 zq_7 zq_672) rfl rfl rfl ⟨rfl, by decide, by decide, by decide +kernel⟩ ⟨Nat.le_of_ble_eq_true rfl, Nat.le_of_ble_eq_true rfl⟩) (zs_preV zs_nwk hK hP zl_629.1 zl_629.2 rfl) rfl rfl hl.1 rfl (lv_room (Nat.le_of_ble_eq_true rfl)) dMA_step_187 ⟨Nat.le_refl _, Nat.le_refl _⟩) hS (fun r16 u15 H locs h hP hS => ?_)
                  exact zr_iret hx hb hr hlk hP hS h dMA_step_190
                · have h := h.2 hc
                  have hn7 := hc
                  clear hc
                  by_cases hc : (st.1 (d1 + 1) l2.toNatClampNeg) = 8
                  · refine lv_tableIn (tgt := 191) (off := 152) hx hb dMA_step_39 (by rw [hc]; decide) (by rw [hc]; decide) (by rw [hc]; decide) rfl ?_
                    have h := h.1 hc
                    clear hc
                    refine lv_aload_n hx hb dMA_step_191 rfl (lv_at hl 4 rfl) ?_
                    refine lv_iload hx hb dMA_step_192 (lv_at hl 2 rfl) ?_
                    refine lv_iload hx hb dMA_step_194 (lv_at hl 1 rfl) ?_
                    refine lv_iload hx hb dMA_step_196 (lv_at hl 0 rfl) ?_
                    refine zr_calli (va_runV (As := [.int (st.1 (d1 + 2) l2.toNatClampNeg), .int (st.1 (d1 + 3) l2.toNatClampNeg), .int (st.1 (d1 + 4) l2.toNatClampNeg)]) (rest := []) ⟨hx, hb, hml, hown, hts⟩ (zc_MA_make l g A  h) (cwV 3 hts (zs_gV zq_679 zq_681 zp_29 zq_7 zq_682) rfl rfl rfl ⟨rfl, by decide, by decide, by decide +kernel⟩ ⟨Nat.le_of_ble_eq_true rfl, Nat.le_of_ble_eq_true rfl⟩) (zs_preV zs_nwk hK hP zl_629.1 zl_629.2 rfl) rfl rfl hl.1 rfl (lv_room (Nat.le_of_ble_eq_true rfl)) dMA_step_198 ⟨Nat.le_refl _, Nat.le_refl _⟩) hS (fun r18 u17 H locs h hP hS => ?_)
                    exact zr_iret hx hb hr hlk hP hS h dMA_step_201
                  · have h := h.2 hc
                    have hn8 := hc
                    clear hc
                    by_cases hc : (st.1 (d1 + 1) l2.toNatClampNeg) = 9
                    · refine lv_tableIn (tgt := 202) (off := 163) hx hb dMA_step_39 (by rw [hc]; decide) (by rw [hc]; decide) (by rw [hc]; decide) rfl ?_
                      have h := h.1 hc
                      clear hc
                      refine lv_aload_n hx hb dMA_step_202 rfl (lv_at hl 4 rfl) ?_
                      refine zr_getr (b := 630) hx hb hts zi_MA hown hK.1 hP zl_629.1 zl_629.2 rfl 0 (by decide) rfl (hts _ zq_164) dMA_step_203 ?_
                      refine lv_iload hx hb dMA_step_206 (lv_at hl 1 rfl) ?_
                      obtain ⟨hi19, h⟩ := h
                      refine zr_lald hx hb hK.1 hP zl_630.1 zl_630.2 hi19 dMA_step_208 ?_
                      refine zr_calli (va_runS (As := [.long (t5.2 630 (st.1 (d1 + 3) l2.toNatClampNeg).toNatClampNeg)]) (rest := []) ⟨hx, hb, hml, hown, hts⟩ (zc_MA_isAddress l g A  h) (va_cwS 1 hts (zs_gS zq_666 zq_667 zq_7 zq_668) rfl rfl rfl ⟨by decide, by decide, by decide +kernel⟩ ⟨Nat.le_of_ble_eq_true rfl, Nat.le_of_ble_eq_true rfl⟩) (zs_preS zs_nwk hK hP) rfl rfl hl.1 rfl (lv_room (Nat.le_of_ble_eq_true rfl)) dMA_step_209 ⟨Nat.le_refl _, Nat.le_refl _⟩) hS (fun r21 u20 H locs h hP hS => ?_)
                      refine lv_if_eq (tgt := 239) hx hb dMA_step_212 rfl (fun hc => ?_) (fun hc => ?_)
                      · have h := h.1 hc
                        clear hc
                        refine lv_iconst (v := 1) hx hb dMA_step_239 (by decide) ?_
                        exact zr_iret hx hb hr hlk hP hS h dMA_step_240
                      · have h := h.2 hc
                        clear hc
                        refine lv_aload_n hx hb dMA_step_215 rfl (lv_at hl 4 rfl) ?_
                        refine lv_iload hx hb dMA_step_216 (lv_at hl 2 rfl) ?_
                        refine lv_aload_n hx hb dMA_step_218 rfl (lv_at hl 4 rfl) ?_
                        refine zr_getr (b := 631) hx hb hts zi_MA hown hK.1 hP zl_629.1 zl_629.2 rfl 1 (by decide) rfl (hts _ zq_165) dMA_step_219 ?_
                        refine lv_aload_n hx hb dMA_step_222 rfl (lv_at hl 4 rfl) ?_
                        refine zr_getr (b := 630) hx hb hts zi_MA hown hK.1 hP zl_629.1 zl_629.2 rfl 0 (by decide) rfl (hts _ zq_164) dMA_step_223 ?_
                        refine lv_iload hx hb dMA_step_226 (lv_at hl 1 rfl) ?_
                        obtain ⟨hi22, h⟩ := h
                        refine zr_lald hx hb hK.1 hP zl_630.1 zl_630.2 hi22 dMA_step_228 ?_
                        refine zr_calli (va_runS (As := [.long (u20.2 630 (st.1 (d1 + 3) l2.toNatClampNeg).toNatClampNeg)]) (rest := [.ref (g.2.1 631), .int (st.1 (d1 + 2) l2.toNatClampNeg), .ref (g.2.1 629)]) ⟨hx, hb, hml, hown, hts⟩ (zc_MA_cellOf l g A  h) (va_cwS 1 hts (zs_gS zq_683 zq_684 zq_7 zq_685) rfl rfl rfl ⟨by decide, by decide, by decide +kernel⟩ ⟨Nat.le_of_ble_eq_true rfl, Nat.le_of_ble_eq_true rfl⟩) (zs_preS zs_nwk hK hP) rfl rfl hl.1 rfl (lv_room (Nat.le_of_ble_eq_true rfl)) dMA_step_229 ⟨Nat.le_refl _, Nat.le_refl _⟩) hS (fun r24 u23 H locs h hP hS => ?_)
                        obtain ⟨hi25, h⟩ := h
                        refine zr_lald hx hb hK.1 hP zl_631.1 zl_631.2 hi25 dMA_step_232 ?_
                        refine zr_calli (va_runV (As := [.int (st.1 (d1 + 2) l2.toNatClampNeg), .long (u23.2 631 r24.toNatClampNeg)]) (rest := []) ⟨hx, hb, hml, hown, hts⟩ (zc_MA_become l g A  h) (cwV 2 hts (zs_gV zq_658 zq_660 zp_26 zq_7 zq_661) rfl rfl rfl ⟨rfl, by decide, by decide, by decide +kernel⟩ ⟨Nat.le_of_ble_eq_true rfl, Nat.le_of_ble_eq_true rfl⟩) (zs_preV zs_nwk hK hP zl_629.1 zl_629.2 rfl) rfl rfl hl.1 rfl (lv_room (Nat.le_of_ble_eq_true rfl)) dMA_step_233 ⟨Nat.le_refl _, Nat.le_refl _⟩) hS (fun r27 u26 H locs h hP hS => ?_)
                        refine lv_goto (tgt := 240) hx hb dMA_step_236 rfl ?_
                        exact zr_iret hx hb hr hlk hP hS h dMA_step_240
                    · have h := h.2 hc
                      have hn9 := hc
                      clear hc
                      by_cases hc : (st.1 (d1 + 1) l2.toNatClampNeg) = 10
                      · refine lv_tableIn (tgt := 241) (off := 202) hx hb dMA_step_39 (by rw [hc]; decide) (by rw [hc]; decide) (by rw [hc]; decide) rfl ?_
                        have h := h.1 hc
                        clear hc
                        refine lv_aload_n hx hb dMA_step_241 rfl (lv_at hl 4 rfl) ?_
                        refine lv_iload hx hb dMA_step_242 (lv_at hl 2 rfl) ?_
                        refine lv_iload hx hb dMA_step_244 (lv_at hl 1 rfl) ?_
                        refine zr_calli (va_runV (As := [.int (st.1 (d1 + 2) l2.toNatClampNeg), .int (st.1 (d1 + 3) l2.toNatClampNeg)]) (rest := []) ⟨hx, hb, hml, hown, hts⟩ (zc_MA_store l g A  h) (cwV 2 hts (zs_gV zq_686 zq_688 zp_30 zq_7 zq_689) rfl rfl rfl ⟨rfl, by decide, by decide, by decide +kernel⟩ ⟨Nat.le_of_ble_eq_true rfl, Nat.le_of_ble_eq_true rfl⟩) (zs_preV zs_nwk hK hP zl_629.1 zl_629.2 rfl) rfl rfl hl.1 rfl (lv_room (Nat.le_of_ble_eq_true rfl)) dMA_step_246 ⟨Nat.le_refl _, Nat.le_refl _⟩) hS (fun r29 u28 H locs h hP hS => ?_)
                        exact zr_iret hx hb hr hlk hP hS h dMA_step_249
                      · have h := h.2 hc
                        have hn10 := hc
                        clear hc
                        by_cases hc : (st.1 (d1 + 1) l2.toNatClampNeg) = 11
                        · refine lv_tableIn (tgt := 250) (off := 211) hx hb dMA_step_39 (by rw [hc]; decide) (by rw [hc]; decide) (by rw [hc]; decide) rfl ?_
                          have h := h.1 hc
                          clear hc
                          refine lv_aload_n hx hb dMA_step_250 rfl (lv_at hl 4 rfl) ?_
                          refine lv_iload hx hb dMA_step_251 (lv_at hl 2 rfl) ?_
                          refine zr_calli (va_runV (As := [.int (st.1 (d1 + 2) l2.toNatClampNeg)]) (rest := []) ⟨hx, hb, hml, hown, hts⟩ (zc_MA_tell l g A  h) (cwV 1 hts (zs_gV zq_690 zq_692 zp_31 zq_7 zq_693) rfl rfl rfl ⟨rfl, by decide, by decide, by decide +kernel⟩ ⟨Nat.le_of_ble_eq_true rfl, Nat.le_of_ble_eq_true rfl⟩) (zs_preV zs_nwk hK hP zl_629.1 zl_629.2 rfl) rfl rfl hl.1 rfl (lv_room (Nat.le_of_ble_eq_true rfl)) dMA_step_253 ⟨Nat.le_refl _, Nat.le_refl _⟩) hS (fun r31 u30 H locs h hP hS => ?_)
                          exact zr_iret hx hb hr hlk hP hS h dMA_step_256
                        · have h := h.2 hc
                          have hn11 := hc
                          clear hc
                          by_cases hc : (st.1 (d1 + 1) l2.toNatClampNeg) = 12
                          · refine lv_tableIn (tgt := 257) (off := 218) hx hb dMA_step_39 (by rw [hc]; decide) (by rw [hc]; decide) (by rw [hc]; decide) rfl ?_
                            have h := h.1 hc
                            clear hc
                            refine lv_aload_n hx hb dMA_step_257 rfl (lv_at hl 4 rfl) ?_
                            refine lv_iload hx hb dMA_step_258 (lv_at hl 2 rfl) ?_
                            refine zr_calli (va_runV (As := [.int (st.1 (d1 + 2) l2.toNatClampNeg)]) (rest := []) ⟨hx, hb, hml, hown, hts⟩ (zc_MA_goTo l g A  h) (cwV 1 hts (zs_gV zq_694 zq_696 zp_32 zq_7 zq_697) rfl rfl rfl ⟨rfl, by decide, by decide, by decide +kernel⟩ ⟨Nat.le_of_ble_eq_true rfl, Nat.le_of_ble_eq_true rfl⟩) (zs_preV zs_nwk hK hP zl_629.1 zl_629.2 rfl) rfl rfl hl.1 rfl (lv_room (Nat.le_of_ble_eq_true rfl)) dMA_step_260 ⟨Nat.le_refl _, Nat.le_refl _⟩) hS (fun r33 u32 H locs h hP hS => ?_)
                            exact zr_iret hx hb hr hlk hP hS h dMA_step_263
                          · have h := h.2 hc
                            have hn12 := hc
                            clear hc
                            by_cases hc : (st.1 (d1 + 1) l2.toNatClampNeg) = 13
                            · refine lv_tableIn (tgt := 264) (off := 225) hx hb dMA_step_39 (by rw [hc]; decide) (by rw [hc]; decide) (by rw [hc]; decide) rfl ?_
                              have h := h.1 hc
                              clear hc
                              refine lv_aload_n hx hb dMA_step_264 rfl (lv_at hl 4 rfl) ?_
                              refine lv_iload hx hb dMA_step_265 (lv_at hl 2 rfl) ?_
                              refine lv_iload hx hb dMA_step_267 (lv_at hl 1 rfl) ?_
                              refine zr_calli (va_runV (As := [.int (st.1 (d1 + 2) l2.toNatClampNeg), .int (st.1 (d1 + 3) l2.toNatClampNeg)]) (rest := []) ⟨hx, hb, hml, hown, hts⟩ (zc_MA_decide l g A  h) (cwV 2 hts (zs_gV zq_698 zq_700 zp_33 zq_7 zq_701) rfl rfl rfl ⟨rfl, by decide, by decide, by decide +kernel⟩ ⟨Nat.le_of_ble_eq_true rfl, Nat.le_of_ble_eq_true rfl⟩) (zs_preV zs_nwk hK hP zl_629.1 zl_629.2 rfl) rfl rfl hl.1 rfl (lv_room (Nat.le_of_ble_eq_true rfl)) dMA_step_269 ⟨Nat.le_refl _, Nat.le_refl _⟩) hS (fun r35 u34 H locs h hP hS => ?_)
                              exact zr_iret hx hb hr hlk hP hS h dMA_step_272
                            · have h := h.2 hc
                              have hn13 := hc
                              clear hc
                              by_cases hc : (st.1 (d1 + 1) l2.toNatClampNeg) = 14
                              · refine lv_tableIn (tgt := 273) (off := 234) hx hb dMA_step_39 (by rw [hc]; decide) (by rw [hc]; decide) (by rw [hc]; decide) rfl ?_
                                have h := h.1 hc
                                clear hc
                                refine lv_iconst (v := 0) hx hb dMA_step_273 (by decide) ?_
                                exact zr_iret hx hb hr hlk hP hS h dMA_step_274
                              · have h := h.2 hc
                                have hn14 := hc
                                clear hc
                                refine lv_tableOut (tgt := 275) hx hb dMA_step_39 (by have q0 := lv_neT hn0 (a := 0) (by decide); have q1 := lv_neT hn1 (a := 1) (by decide); have q2 := lv_neT hn2 (a := 2) (by decide); have q3 := lv_neT hn3 (a := 3) (by decide); have q4 := lv_neT hn4 (a := 4) (by decide); have q5 := lv_neT hn5 (a := 5) (by decide); have q6 := lv_neT hn6 (a := 6) (by decide); have q7 := lv_neT hn7 (a := 7) (by decide); have q8 := lv_neT hn8 (a := 8) (by decide); have q9 := lv_neT hn9 (a := 9) (by decide); have q10 := lv_neT hn10 (a := 10) (by decide); have q11 := lv_neT hn11 (a := 11) (by decide); have q12 := lv_neT hn12 (a := 12) (by decide); have q13 := lv_neT hn13 (a := 13) (by decide); have q14 := lv_neT hn14 (a := 14) (by decide); omega) rfl ?_
                                refine lv_iconst (v := (-1)) hx hb dMA_step_275 (by decide) ?_
                                exact zr_iret hx hb hr hlk hP hS h dMA_step_276
set_option maxHeartbeats 4000000 in
set_option maxRecDepth 100000 in
theorem zw_MA_perform_91 (hM : zs_M p c cMA_perform 3 s m meth args "ThriftyStores$Machine" (some .int) g) {d1 : Nat} (hd1 : zs_Pr d1) {K : Int32 → zs_T → Prop}    (st : zs_T) (h : zf_MA_perform_91 d1 K  st) : zs_Go p l e (zs_rm 4 90) s m args below meth c g A (MQ below (zs_Qi g zs_ly zs_N A K) args s 0 0 A) 3 91 [(0, .ref (g.2.1 629)), (1, .ref (g.2.1 d1))] [] st := by
  obtain ⟨hx, hb, hml, hr, hlk, hts, hown, hK⟩ := id hM
  intro ls H locs hl hP hS
  unfold zf_MA_perform_91 at h
  refine lv_aload_n hx hb dMA_perform_91 rfl (lv_at hl 0 rfl) ?_
  refine zr_geti hx hb hts zi_MA hown hK.1 hP zl_629.1 zl_629.2 rfl 6 (by decide) rfl (hts _ zq_170) dMA_perform_92 ?_
  refine lv_iconst (v := (-1)) hx hb dMA_perform_95 (by decide) ?_
  refine lv_icmp_ne (tgt := 119) hx hb dMA_perform_96 rfl (fun hc => ?_) (fun hc => ?_)
  · have h := h.1 hc
    clear hc
    refine lv_aload_n hx hb dMA_perform_119 rfl (lv_at hl 0 rfl) ?_
    refine zr_geti hx hb hts zi_MA hown hK.1 hP zl_629.1 zl_629.2 rfl 6 (by decide) rfl (hts _ zq_170) dMA_perform_120 ?_
    exact zr_iret hx hb hr hlk hP hS h dMA_perform_123
  · have h := h.2 hc
    clear hc
    refine lv_aload_n hx hb dMA_perform_99 rfl (lv_at hl 0 rfl) ?_
    refine lv_aload_n hx hb dMA_perform_100 rfl (lv_at hl 0 rfl) ?_
    refine zr_geti hx hb hts zi_MA hown hK.1 hP zl_629.1 zl_629.2 rfl 7 (by decide) rfl (hts _ zq_171) dMA_perform_101 ?_
    refine lv_aload_n hx hb dMA_perform_104 rfl (lv_at hl 1 rfl) ?_
    refine zr_geti hx hb hts zi_PR hown hK.1 hP hd1.1.1 hd1.1.2 rfl 4 (by decide) rfl (hts _ zq_59) dMA_perform_105 ?_
    refine lv_icmp_ge (tgt := 115) hx hb dMA_perform_108 rfl (fun hc => ?_) (fun hc => ?_)
    · have h := h.1 hc
      clear hc
      refine lv_iconst (v := 0) hx hb dMA_perform_115 (by decide) ?_
      refine zr_put hx hb hts zi_MA tyMA tyMA_ok nmMA hown hK.1 hP hS zl_629.1 zl_629.2 rfl 6 (by decide) rfl (hts _ zq_170) rfl rfl rfl dMA_perform_116 (fun H locs hP hS => ?_)
      obtain ⟨t201, ez⟩ : ∃ tz : zs_T, tz = zs_i st 629 6 0 := ⟨_, rfl⟩
      have h := h t201 ez
      have hP : zs_P g zs_ly zs_N A t201 H := by rw [ez]; exact hP
      clear ez
      refine lv_aload_n hx hb dMA_perform_119 rfl (lv_at hl 0 rfl) ?_
      refine zr_geti hx hb hts zi_MA hown hK.1 hP zl_629.1 zl_629.2 rfl 6 (by decide) rfl (hts _ zq_170) dMA_perform_120 ?_
      exact zr_iret hx hb hr hlk hP hS h dMA_perform_123
    · have h := h.2 hc
      clear hc
      refine lv_iconst (v := 2) hx hb dMA_perform_111 (by decide) ?_
      refine lv_goto (tgt := 116) hx hb dMA_perform_112 rfl ?_
      refine zr_put hx hb hts zi_MA tyMA tyMA_ok nmMA hown hK.1 hP hS zl_629.1 zl_629.2 rfl 6 (by decide) rfl (hts _ zq_170) rfl rfl rfl dMA_perform_116 (fun H locs hP hS => ?_)
      obtain ⟨t202, ez⟩ : ∃ tz : zs_T, tz = zs_i st 629 6 2 := ⟨_, rfl⟩
      have h := h t202 ez
      have hP : zs_P g zs_ly zs_N A t202 H := by rw [ez]; exact hP
      clear ez
      refine lv_aload_n hx hb dMA_perform_119 rfl (lv_at hl 0 rfl) ?_
      refine zr_geti hx hb hts zi_MA hown hK.1 hP zl_629.1 zl_629.2 rfl 6 (by decide) rfl (hts _ zq_170) dMA_perform_120 ?_
      exact zr_iret hx hb hr hlk hP hS h dMA_perform_123
set_option maxHeartbeats 4000000 in
set_option maxRecDepth 100000 in
theorem zw_MA_perform_38_s (hM : zs_M p c cMA_perform 3 s m meth args "ThriftyStores$Machine" (some .int) g) {d1 : Nat} (hd1 : zs_Pr d1) {K : Int32 → zs_T → Prop}  {B38 : Int32 → zs_T → Prop}  (hB38 : ∀ (l2 : Int32) (st : zs_T), B38 l2 st → zs_Go p l e (zs_rm 4 90) s m args below meth c g A (MQ below (zs_Qi g zs_ly zs_N A K) args s 0 0 A) 3 38 [(0, .ref (g.2.1 629)), (1, .ref (g.2.1 d1)), (2, .int l2)] [] st) (l2 : Int32) (st : zs_T) (h : zf_MA_perform_38_s d1 K B38 l2 st) : zs_Go p l e (zs_rm 4 90) s m args below meth c g A (MQ below (zs_Qi g zs_ly zs_N A K) args s 0 0 A) 3 38 [(0, .ref (g.2.1 629)), (1, .ref (g.2.1 d1)), (2, .int l2)] [] st := by
  obtain ⟨hx, hb, hml, hr, hlk, hts, hown, hK⟩ := id hM
  intro ls H locs hl hP hS
  unfold zf_MA_perform_38_s at h
  refine lv_aload_n hx hb dMA_perform_38 rfl (lv_at hl 0 rfl) ?_
  refine zr_geti hx hb hts zi_MA hown hK.1 hP zl_629.1 zl_629.2 rfl 6 (by decide) rfl (hts _ zq_170) dMA_perform_39 ?_
  refine lv_iconst (v := (-1)) hx hb dMA_perform_42 (by decide) ?_
  refine lv_icmp_ne (tgt := 91) hx hb dMA_perform_43 rfl (fun hc => ?_) (fun hc => ?_)
  · have h := h.1 hc
    clear hc
    exact zw_MA_perform_91 hM hd1 st h ls H locs (lv_sub hl [0, 1] rfl) hP hS
  · have h := h.2 hc
    clear hc
    refine lv_aload_n hx hb dMA_perform_46 rfl (lv_at hl 0 rfl) ?_
    refine zr_geti hx hb hts zi_MA hown hK.1 hP zl_629.1 zl_629.2 rfl 7 (by decide) rfl (hts _ zq_171) dMA_perform_47 ?_
    refine lv_aload_n hx hb dMA_perform_50 rfl (lv_at hl 1 rfl) ?_
    refine zr_geti hx hb hts zi_PR hown hK.1 hP hd1.1.1 hd1.1.2 rfl 4 (by decide) rfl (hts _ zq_59) dMA_perform_51 ?_
    refine lv_icmp_ge (tgt := 91) hx hb dMA_perform_54 rfl (fun hc => ?_) (fun hc => ?_)
    · have h := h.1 hc
      clear hc
      exact zw_MA_perform_91 hM hd1 st h ls H locs (lv_sub hl [0, 1] rfl) hP hS
    · have h := h.2 hc
      clear hc
      refine lv_aload_n hx hb dMA_perform_57 rfl (lv_at hl 0 rfl) ?_
      refine zr_geti hx hb hts zi_MA hown hK.1 hP zl_629.1 zl_629.2 rfl 10 (by decide) rfl (hts _ zq_176) dMA_perform_58 ?_
      refine lv_iload_n hx hb dMA_perform_61 rfl (lv_at hl 2 rfl) ?_
      refine lv_icmp_ge (tgt := 91) hx hb dMA_perform_62 rfl (fun hc => ?_) (fun hc => ?_)
      · have h := h.1 hc
        clear hc
        exact zw_MA_perform_91 hM hd1 st h ls H locs (lv_sub hl [0, 1] rfl) hP hS
      · have h := h.2 hc
        clear hc
        refine lv_aload_n hx hb dMA_perform_65 rfl (lv_at hl 0 rfl) ?_
        refine lv_aload_n hx hb dMA_perform_66 rfl (lv_at hl 0 rfl) ?_
        refine lv_aload_n hx hb dMA_perform_67 rfl (lv_at hl 1 rfl) ?_
        refine lv_aload_n hx hb dMA_perform_68 rfl (lv_at hl 0 rfl) ?_
        refine zr_geti hx hb hts zi_MA hown hK.1 hP zl_629.1 zl_629.2 rfl 7 (by decide) rfl (hts _ zq_171) dMA_perform_69 ?_
        refine zr_calli (va_runV (As := [.ref (g.2.1 d1), .int (st.1 629 7)]) (rest := [.ref (g.2.1 629)]) ⟨hx, hb, hml, hown, hts⟩ (zc_MA_step l g A hd1 h) (cwV 2 hts (zs_gV zq_650 zq_652 zp_25 zq_7 zq_653) rfl rfl rfl ⟨rfl, by decide, by decide, by decide +kernel⟩ ⟨Nat.le_of_ble_eq_true rfl, Nat.le_of_ble_eq_true rfl⟩) (zs_preV zs_nwk hK hP zl_629.1 zl_629.2 rfl) rfl rfl hl.1 rfl (lv_room (Nat.le_of_ble_eq_true rfl)) dMA_perform_72 ⟨Nat.le_refl _, Nat.le_refl _⟩) hS (fun r102 u101 H locs h hP hS => ?_)
        refine zr_put hx hb hts zi_MA tyMA tyMA_ok nmMA hown hK.1 hP hS zl_629.1 zl_629.2 rfl 6 (by decide) rfl (hts _ zq_170) rfl rfl rfl dMA_perform_75 (fun H locs hP hS => ?_)
        obtain ⟨t103, ez⟩ : ∃ tz : zs_T, tz = zs_i u101 629 6 r102 := ⟨_, rfl⟩
        have h := h t103 ez
        have hP : zs_P g zs_ly zs_N A t103 H := by rw [ez]; exact hP
        clear ez
        refine lv_aload_n hx hb dMA_perform_78 rfl (lv_at hl 0 rfl) ?_
        refine lv_dup hx hb dMA_perform_79 rfl ?_
        refine zr_geti hx hb hts zi_MA hown hK.1 hP zl_629.1 zl_629.2 rfl 10 (by decide) rfl (hts _ zq_176) dMA_perform_80 ?_
        refine lv_iconst (v := 1) hx hb dMA_perform_83 (by decide) ?_
        refine lv_iadd hx hb dMA_perform_84 ?_
        refine zr_put hx hb hts zi_MA tyMA tyMA_ok nmMA hown hK.1 hP hS zl_629.1 zl_629.2 rfl 10 (by decide) rfl (hts _ zq_176) rfl rfl rfl dMA_perform_85 (fun H locs hP hS => ?_)
        obtain ⟨t104, ez⟩ : ∃ tz : zs_T, tz = zs_i t103 629 10 ((t103.1 629 10) + 1) := ⟨_, rfl⟩
        have h := h t104 ez
        have hP : zs_P g zs_ly zs_N A t104 H := by rw [ez]; exact hP
        clear ez
        refine lv_goto (tgt := 38) hx hb dMA_perform_88 rfl ?_
        exact hB38 l2 t104 h ls H locs (lv_sub hl [0, 1, 2] rfl) hP hS
theorem zw_MA_perform_38 (hM : zs_M p c cMA_perform 3 s m meth args "ThriftyStores$Machine" (some .int) g) {d1 : Nat} (hd1 : zs_Pr d1) {K : Int32 → zs_T → Prop}   : ∀ (n : Nat) (l2 : Int32) (st : zs_T), zf_MA_perform_38 d1 K n l2 st → zs_Go p l e (zs_rm 4 90) s m args below meth c g A (MQ below (zs_Qi g zs_ly zs_N A K) args s 0 0 A) 3 38 [(0, .ref (g.2.1 629)), (1, .ref (g.2.1 d1)), (2, .int l2)] [] st := by
  intro n
  induction n with
  | zero => intro l2 st h; exact False.elim h
  | succ n ih => intro l2 st h; exact zw_MA_perform_38_s hM hd1 ih l2 st h
set_option maxHeartbeats 4000000 in
set_option maxRecDepth 100000 in
theorem zc_MA_perform (l : Launch) (g : zs_G) (A : Nat → Prop) {d1 : Nat} {l2 : Int32} (hd1 : zs_Pr d1) {st : zs_T} {K : Int32 → zs_T → Prop} (h : zf_MA_perform d1 l2 st K) : Met l yMA_perform (.code yMA_perform cMA_perform 3 (some .int) :: zs_tb) (zs_rm 4 90) (zs_Pc zs_nl g zs_ly zs_N A [.ref (g.2.1 629), .ref (g.2.1 d1), .int l2] st) (zs_Qi g zs_ly zs_N A K) 0 0 A := by
  refine zs_met (cc := cMA_perform) (maxL := 3) (ret := (some .int)) (by decide) (Nat.le_of_ble_eq_true rfl) (fun p e s m below meth c hM => ?_)
  have hM : zs_M p c cMA_perform 3 s m meth [.ref (g.2.1 629), .ref (g.2.1 d1), .int l2].toArray "ThriftyStores$Machine" (some .int) g := hM
  obtain ⟨hx, hb, hml, hr, hlk, hts, hown, hK⟩ := id hM
  intro ls H locs hl hP hS
  have hl : lv_has ls 3 [(0, .ref (g.2.1 629)), (1, .ref (g.2.1 d1)), (2, .int l2)] := hl
  unfold zf_MA_perform at h
  refine lv_aload_n hx hb dMA_perform_0 rfl (lv_at hl 0 rfl) ?_
  refine zr_getr (b := 630) hx hb hts zi_MA hown hK.1 hP zl_629.1 zl_629.2 rfl 0 (by decide) rfl (hts _ zq_164) dMA_perform_1 ?_
  refine lv_lconst (v := 0) hx hb dMA_perform_4 (by decide) ?_
  refine zr_callv (va_runS (As := [.ref (g.2.1 630), .long 0]) (rest := []) ⟨hx, hb, hml, hown, hts⟩ (zc_AR_fill_AJJV l g A zl_630 h) (va_cwS 2 hts (zs_gS zq_649 zq_390 zq_15 zq_391) rfl rfl rfl ⟨by decide, by decide, by decide +kernel⟩ ⟨Nat.le_of_ble_eq_true rfl, Nat.le_of_ble_eq_true rfl⟩) (zs_preS zs_nwk hK hP) rfl rfl hl.1 rfl (lv_room (Nat.le_of_ble_eq_true rfl)) dMA_perform_5 ⟨Nat.le_refl _, Nat.le_refl _⟩) hS (fun u1 H locs h hP hS => ?_)
  refine lv_aload_n hx hb dMA_perform_8 rfl (lv_at hl 0 rfl) ?_
  refine lv_iconst (v := 0) hx hb dMA_perform_9 (by decide) ?_
  refine zr_put hx hb hts zi_MA tyMA tyMA_ok nmMA hown hK.1 hP hS zl_629.1 zl_629.2 rfl 4 (by decide) rfl (hts _ zq_168) rfl rfl rfl dMA_perform_10 (fun H locs hP hS => ?_)
  obtain ⟨t2, ez⟩ : ∃ tz : zs_T, tz = zs_i u1 629 4 0 := ⟨_, rfl⟩
  have h := h t2 ez
  have hP : zs_P g zs_ly zs_N A t2 H := by rw [ez]; exact hP
  clear ez
  refine lv_aload_n hx hb dMA_perform_13 rfl (lv_at hl 0 rfl) ?_
  refine lv_iconst (v := 0) hx hb dMA_perform_14 (by decide) ?_
  refine zr_put hx hb hts zi_MA tyMA tyMA_ok nmMA hown hK.1 hP hS zl_629.1 zl_629.2 rfl 5 (by decide) rfl (hts _ zq_169) rfl rfl rfl dMA_perform_15 (fun H locs hP hS => ?_)
  obtain ⟨t3, ez⟩ : ∃ tz : zs_T, tz = zs_i t2 629 5 0 := ⟨_, rfl⟩
  have h := h t3 ez
  have hP : zs_P g zs_ly zs_N A t3 H := by rw [ez]; exact hP
  clear ez
  refine lv_aload_n hx hb dMA_perform_18 rfl (lv_at hl 0 rfl) ?_
  refine lv_iconst (v := 0) hx hb dMA_perform_19 (by decide) ?_
  refine zr_put hx hb hts zi_MA tyMA tyMA_ok nmMA hown hK.1 hP hS zl_629.1 zl_629.2 rfl 9 (by decide) rfl (hts _ zq_174) rfl rfl rfl dMA_perform_20 (fun H locs hP hS => ?_)
  obtain ⟨t4, ez⟩ : ∃ tz : zs_T, tz = zs_i t3 629 9 0 := ⟨_, rfl⟩
  have h := h t4 ez
  have hP : zs_P g zs_ly zs_N A t4 H := by rw [ez]; exact hP
  clear ez
  refine lv_aload_n hx hb dMA_perform_23 rfl (lv_at hl 0 rfl) ?_
  refine lv_iconst (v := 0) hx hb dMA_perform_24 (by decide) ?_
  refine zr_put hx hb hts zi_MA tyMA tyMA_ok nmMA hown hK.1 hP hS zl_629.1 zl_629.2 rfl 7 (by decide) rfl (hts _ zq_171) rfl rfl rfl dMA_perform_25 (fun H locs hP hS => ?_)
  obtain ⟨t5, ez⟩ : ∃ tz : zs_T, tz = zs_i t4 629 7 0 := ⟨_, rfl⟩
  have h := h t5 ez
  have hP : zs_P g zs_ly zs_N A t5 H := by rw [ez]; exact hP
  clear ez
  refine lv_aload_n hx hb dMA_perform_28 rfl (lv_at hl 0 rfl) ?_
  refine lv_iconst (v := (-1)) hx hb dMA_perform_29 (by decide) ?_
  refine zr_put hx hb hts zi_MA tyMA tyMA_ok nmMA hown hK.1 hP hS zl_629.1 zl_629.2 rfl 6 (by decide) rfl (hts _ zq_170) rfl rfl rfl dMA_perform_30 (fun H locs hP hS => ?_)
  obtain ⟨t6, ez⟩ : ∃ tz : zs_T, tz = zs_i t5 629 6 (-1) := ⟨_, rfl⟩
  have h := h t6 ez
  have hP : zs_P g zs_ly zs_N A t6 H := by rw [ez]; exact hP
  clear ez
  refine lv_aload_n hx hb dMA_perform_33 rfl (lv_at hl 0 rfl) ?_
  refine lv_iconst (v := 0) hx hb dMA_perform_34 (by decide) ?_
  refine zr_put hx hb hts zi_MA tyMA tyMA_ok nmMA hown hK.1 hP hS zl_629.1 zl_629.2 rfl 10 (by decide) rfl (hts _ zq_176) rfl rfl rfl dMA_perform_35 (fun H locs hP hS => ?_)
  obtain ⟨t7, ez⟩ : ∃ tz : zs_T, tz = zs_i t6 629 10 0 := ⟨_, rfl⟩
  have h := h t7 ez
  have hP : zs_P g zs_ly zs_N A t7 H := by rw [ez]; exact hP
  clear ez
  obtain ⟨n, h⟩ := h
  exact zw_MA_perform_38 hM hd1 n l2 t7 h ls H locs (lv_sub hl [0, 1, 2] rfl) hP hS
set_option maxHeartbeats 4000000 in
set_option maxRecDepth 100000 in
theorem zc_MA_objectsKept (l : Launch) (g : zs_G) (A : Nat → Prop)   {st : zs_T} {K : Int32 → zs_T → Prop} (h : zf_MA_objectsKept  st K) : Met l yMA_objectsKept (.code yMA_objectsKept cMA_objectsKept 1 (some .int) :: zs_tb) (zs_rm 0 0) (zs_Pc zs_nl g zs_ly zs_N A [.ref (g.2.1 629)] st) (zs_Qi g zs_ly zs_N A K) 0 0 A := by
  refine zs_met (cc := cMA_objectsKept) (maxL := 1) (ret := (some .int)) (by decide) (Nat.le_of_ble_eq_true rfl) (fun p e s m below meth c hM => ?_)
  have hM : zs_M p c cMA_objectsKept 1 s m meth [.ref (g.2.1 629)].toArray "ThriftyStores$Machine" (some .int) g := hM
  obtain ⟨hx, hb, hml, hr, hlk, hts, hown, hK⟩ := id hM
  intro ls H locs hl hP hS
  have hl : lv_has ls 1 [(0, .ref (g.2.1 629))] := hl
  unfold zf_MA_objectsKept at h
  refine lv_aload_n hx hb dMA_objectsKept_0 rfl (lv_at hl 0 rfl) ?_
  refine zr_geti hx hb hts zi_MA hown hK.1 hP zl_629.1 zl_629.2 rfl 6 (by decide) rfl (hts _ zq_170) dMA_objectsKept_1 ?_
  refine lv_if_ne (tgt := 14) hx hb dMA_objectsKept_4 rfl (fun hc => ?_) (fun hc => ?_)
  · have h := h.1 hc
    clear hc
    refine lv_iconst (v := 0) hx hb dMA_objectsKept_14 (by decide) ?_
    exact zr_iret hx hb hr hlk hP hS h dMA_objectsKept_15
  · have h := h.2 hc
    clear hc
    refine lv_aload_n hx hb dMA_objectsKept_7 rfl (lv_at hl 0 rfl) ?_
    refine zr_geti hx hb hts zi_MA hown hK.1 hP zl_629.1 zl_629.2 rfl 5 (by decide) rfl (hts _ zq_169) dMA_objectsKept_8 ?_
    refine lv_goto (tgt := 15) hx hb dMA_objectsKept_11 rfl ?_
    exact zr_iret hx hb hr hlk hP hS h dMA_objectsKept_15
set_option maxHeartbeats 4000000 in
set_option maxRecDepth 100000 in
theorem zc_MA_hasKeptCell (l : Launch) (g : zs_G) (A : Nat → Prop) {l1 : Int32} {l2 : Int32}  {st : zs_T} {K : Int32 → zs_T → Prop} (h : zf_MA_hasKeptCell l1 l2 st K) : Met l yMA_hasKeptCell (.code yMA_hasKeptCell cMA_hasKeptCell 3 (some .boolean) :: zs_tb) (zs_rm 1 20) (zs_Pc zs_nl g zs_ly zs_N A [.ref (g.2.1 629), .int l1, .int l2] st) (zs_Qi g zs_ly zs_N A K) 0 0 A := by
  refine zs_met (cc := cMA_hasKeptCell) (maxL := 3) (ret := (some .boolean)) (by decide) (Nat.le_of_ble_eq_true rfl) (fun p e s m below meth c hM => ?_)
  have hM : zs_M p c cMA_hasKeptCell 3 s m meth [.ref (g.2.1 629), .int l1, .int l2].toArray "ThriftyStores$Machine" (some .boolean) g := hM
  obtain ⟨hx, hb, hml, hr, hlk, hts, hown, hK⟩ := id hM
  intro ls H locs hl hP hS
  have hl : lv_has ls 3 [(0, .ref (g.2.1 629)), (1, .int l1), (2, .int l2)] := hl
  unfold zf_MA_hasKeptCell at h
  refine lv_iload_n hx hb dMA_hasKeptCell_0 rfl (lv_at hl 1 rfl) ?_
  refine lv_if_lt (tgt := 35) hx hb dMA_hasKeptCell_1 rfl (fun hc => ?_) (fun hc => ?_)
  · have h := h.1 hc
    clear hc
    refine lv_iconst (v := 0) hx hb dMA_hasKeptCell_35 (by decide) ?_
    exact zr_zret hx hb hr hlk hP hS rfl h dMA_hasKeptCell_36
  · have h := h.2 hc
    clear hc
    refine lv_iload_n hx hb dMA_hasKeptCell_4 rfl (lv_at hl 1 rfl) ?_
    refine lv_aload_n hx hb dMA_hasKeptCell_5 rfl (lv_at hl 0 rfl) ?_
    refine zr_calli (va_runV (As := []) (rest := [.int l1]) ⟨hx, hb, hml, hown, hts⟩ (zc_MA_objectsKept l g A  h) (cwV 0 hts (zs_gV zq_720 zq_250 zq_251 zq_7 zq_252) rfl rfl rfl ⟨rfl, by decide, by decide, by decide +kernel⟩ ⟨Nat.le_of_ble_eq_true rfl, Nat.le_of_ble_eq_true rfl⟩) (zs_preV zs_nwk hK hP zl_629.1 zl_629.2 rfl) rfl rfl hl.1 rfl (lv_room (Nat.le_of_ble_eq_true rfl)) dMA_hasKeptCell_6 ⟨Nat.le_refl _, Nat.le_refl _⟩) hS (fun r2 u1 H locs h hP hS => ?_)
    refine lv_icmp_ge (tgt := 35) hx hb dMA_hasKeptCell_9 rfl (fun hc => ?_) (fun hc => ?_)
    · have h := h.1 hc
      clear hc
      refine lv_iconst (v := 0) hx hb dMA_hasKeptCell_35 (by decide) ?_
      exact zr_zret hx hb hr hlk hP hS rfl h dMA_hasKeptCell_36
    · have h := h.2 hc
      clear hc
      refine lv_iload_n hx hb dMA_hasKeptCell_12 rfl (lv_at hl 2 rfl) ?_
      refine lv_if_lt (tgt := 35) hx hb dMA_hasKeptCell_13 rfl (fun hc => ?_) (fun hc => ?_)
      · have h := h.1 hc
        clear hc
        refine lv_iconst (v := 0) hx hb dMA_hasKeptCell_35 (by decide) ?_
        exact zr_zret hx hb hr hlk hP hS rfl h dMA_hasKeptCell_36
      · have h := h.2 hc
        clear hc
        refine lv_iload_n hx hb dMA_hasKeptCell_16 rfl (lv_at hl 2 rfl) ?_
        refine lv_aload_n hx hb dMA_hasKeptCell_17 rfl (lv_at hl 0 rfl) ?_
        refine zr_getr (b := 632) hx hb hts zi_MA hown hK.1 hP zl_629.1 zl_629.2 rfl 2 (by decide) rfl (hts _ zq_166) dMA_hasKeptCell_18 ?_
        refine lv_aload_n hx hb dMA_hasKeptCell_21 rfl (lv_at hl 0 rfl) ?_
        refine zr_getr (b := 633) hx hb hts zi_MA hown hK.1 hP zl_629.1 zl_629.2 rfl 3 (by decide) rfl (hts _ zq_167) dMA_hasKeptCell_22 ?_
        refine lv_iload_n hx hb dMA_hasKeptCell_25 rfl (lv_at hl 1 rfl) ?_
        obtain ⟨hi3, h⟩ := h
        refine zr_iald hx hb hK.1 hP zl_633.1 zl_633.2 hi3 dMA_hasKeptCell_26 ?_
        obtain ⟨hi4, h⟩ := h
        refine zr_iald hx hb hK.1 hP zl_632.1 zl_632.2 hi4 dMA_hasKeptCell_27 ?_
        refine lv_icmp_ge (tgt := 35) hx hb dMA_hasKeptCell_28 rfl (fun hc => ?_) (fun hc => ?_)
        · have h := h.1 hc
          clear hc
          refine lv_iconst (v := 0) hx hb dMA_hasKeptCell_35 (by decide) ?_
          exact zr_zret hx hb hr hlk hP hS rfl h dMA_hasKeptCell_36
        · have h := h.2 hc
          clear hc
          refine lv_iconst (v := 1) hx hb dMA_hasKeptCell_31 (by decide) ?_
          refine lv_goto (tgt := 36) hx hb dMA_hasKeptCell_32 rfl ?_
          exact zr_zret hx hb hr hlk hP hS rfl h dMA_hasKeptCell_36
set_option maxHeartbeats 4000000 in
set_option maxRecDepth 100000 in
theorem zc_MA_partOfCell (l : Launch) (g : zs_G) (A : Nat → Prop) {l1 : Int32} {l2 : Int32} {l3 : Int32}  {st : zs_T} {K : Int32 → zs_T → Prop} (h : zf_MA_partOfCell l1 l2 l3 st K) : Met l yMA_partOfCell (.code yMA_partOfCell cMA_partOfCell 7 (some .int) :: zs_tb) (zs_rm 1 21) (zs_Pc zs_nl g zs_ly zs_N A [.ref (g.2.1 629), .int l1, .int l2, .int l3] st) (zs_Qi g zs_ly zs_N A K) 0 0 A := by
  refine zs_met (cc := cMA_partOfCell) (maxL := 7) (ret := (some .int)) (by decide) (Nat.le_of_ble_eq_true rfl) (fun p e s m below meth c hM => ?_)
  have hM : zs_M p c cMA_partOfCell 7 s m meth [.ref (g.2.1 629), .int l1, .int l2, .int l3].toArray "ThriftyStores$Machine" (some .int) g := hM
  obtain ⟨hx, hb, hml, hr, hlk, hts, hown, hK⟩ := id hM
  intro ls H locs hl hP hS
  have hl : lv_has ls 7 [(0, .ref (g.2.1 629)), (1, .int l1), (2, .int l2), (3, .int l3)] := hl
  unfold zf_MA_partOfCell at h
  refine lv_aload_n hx hb dMA_partOfCell_0 rfl (lv_at hl 0 rfl) ?_
  refine zr_getr (b := 631) hx hb hts zi_MA hown hK.1 hP zl_629.1 zl_629.2 rfl 1 (by decide) rfl (hts _ zq_165) dMA_partOfCell_1 ?_
  refine lv_aload_n hx hb dMA_partOfCell_4 rfl (lv_at hl 0 rfl) ?_
  refine zr_getr (b := 633) hx hb hts zi_MA hown hK.1 hP zl_629.1 zl_629.2 rfl 3 (by decide) rfl (hts _ zq_167) dMA_partOfCell_5 ?_
  refine lv_iload_n hx hb dMA_partOfCell_8 rfl (lv_at hl 1 rfl) ?_
  obtain ⟨hi1, h⟩ := h
  refine zr_iald hx hb hK.1 hP zl_633.1 zl_633.2 hi1 dMA_partOfCell_9 ?_
  refine lv_bipush (v := 16) hx hb dMA_partOfCell_10 (by decide) ?_
  refine lv_imul hx hb dMA_partOfCell_12 ?_
  refine lv_iload_n hx hb dMA_partOfCell_13 rfl (lv_at hl 2 rfl) ?_
  refine lv_iadd hx hb dMA_partOfCell_14 ?_
  obtain ⟨hi2, h⟩ := h
  refine zr_lald hx hb hK.1 hP zl_631.1 zl_631.2 hi2 dMA_partOfCell_15 ?_
  refine lv_lstore hx hb dMA_partOfCell_16 hl (by decide) rfl (fun ls hl => ?_)
  have hl : lv_has ls 7 [(4, .long (st.2 631 (((st.1 633 l1.toNatClampNeg) * 16) + l2).toNatClampNeg)), (0, .ref (g.2.1 629)), (1, .int l1), (2, .int l2), (3, .int l3)] := hl
  refine lv_lload hx hb dMA_partOfCell_18 (lv_at hl 0 rfl) ?_
  refine zr_calli (va_runS (As := [.long (st.2 631 (((st.1 633 l1.toNatClampNeg) * 16) + l2).toNatClampNeg)]) (rest := []) ⟨hx, hb, hml, hown, hts⟩ (zc_MA_isAddress l g A  h) (va_cwS 1 hts (zs_gS zq_666 zq_667 zq_7 zq_668) rfl rfl rfl ⟨by decide, by decide, by decide +kernel⟩ ⟨Nat.le_of_ble_eq_true rfl, Nat.le_of_ble_eq_true rfl⟩) (zs_preS zs_nwk hK hP) rfl rfl hl.1 rfl (lv_room (Nat.le_of_ble_eq_true rfl)) dMA_partOfCell_20 ⟨Nat.le_refl _, Nat.le_refl _⟩) hS (fun r4 u3 H locs h hP hS => ?_)
  refine lv_istore hx hb dMA_partOfCell_23 hl (by decide) rfl (fun ls hl => ?_)
  have hl : lv_has ls 7 [(6, .int r4), (4, .long (st.2 631 (((st.1 633 l1.toNatClampNeg) * 16) + l2).toNatClampNeg)), (0, .ref (g.2.1 629)), (1, .int l1), (2, .int l2), (3, .int l3)] := hl
  refine lv_iload_n hx hb dMA_partOfCell_25 rfl (lv_at hl 5 rfl) ?_
  by_cases hc : l3 = 0
  · refine lv_lookup (tgt := 52) (off := 26) hx hb dMA_partOfCell_26 (by decide) (by rw [hc]; decide) rfl ?_
    have h := h.1 hc
    clear hc
    refine lv_iload hx hb dMA_partOfCell_52 (lv_at hl 0 rfl) ?_
    refine lv_if_eq (tgt := 61) hx hb dMA_partOfCell_54 rfl (fun hc => ?_) (fun hc => ?_)
    · have h := h.1 hc
      clear hc
      refine lv_iconst (v := 0) hx hb dMA_partOfCell_61 (by decide) ?_
      exact zr_iret hx hb hr hlk hP hS h dMA_partOfCell_62
    · have h := h.2 hc
      clear hc
      refine lv_iconst (v := 1) hx hb dMA_partOfCell_57 (by decide) ?_
      refine lv_goto (tgt := 62) hx hb dMA_partOfCell_58 rfl ?_
      exact zr_iret hx hb hr hlk hP hS h dMA_partOfCell_62
  · have h := h.2 hc
    have hn0 := hc
    clear hc
    by_cases hc : l3 = 1
    · refine lv_lookup (tgt := 63) (off := 37) hx hb dMA_partOfCell_26 (by decide) (by rw [hc]; decide) rfl ?_
      have h := h.1 hc
      clear hc
      refine lv_iload hx hb dMA_partOfCell_63 (lv_at hl 0 rfl) ?_
      refine lv_if_eq (tgt := 76) hx hb dMA_partOfCell_65 rfl (fun hc => ?_) (fun hc => ?_)
      · have h := h.1 hc
        clear hc
        refine lv_lload hx hb dMA_partOfCell_76 (lv_at hl 1 rfl) ?_
        refine lv_l2i hx hb dMA_partOfCell_78 rfl ?_
        exact zr_iret hx hb hr hlk hP hS h dMA_partOfCell_79
      · have h := h.2 hc
        clear hc
        refine lv_lload hx hb dMA_partOfCell_68 (lv_at hl 1 rfl) ?_
        refine zr_calli (va_runS (As := [.long (st.2 631 (((st.1 633 l1.toNatClampNeg) * 16) + l2).toNatClampNeg)]) (rest := []) ⟨hx, hb, hml, hown, hts⟩ (zc_MA_objectOf l g A  h) (va_cwS 1 hts (zs_gS zq_673 zq_674 zq_7 zq_675) rfl rfl rfl ⟨by decide, by decide, by decide +kernel⟩ ⟨Nat.le_of_ble_eq_true rfl, Nat.le_of_ble_eq_true rfl⟩) (zs_preS zs_nwk hK hP) rfl rfl hl.1 rfl (lv_room (Nat.le_of_ble_eq_true rfl)) dMA_partOfCell_70 ⟨Nat.le_refl _, Nat.le_refl _⟩) hS (fun r6 u5 H locs h hP hS => ?_)
        refine lv_goto (tgt := 79) hx hb dMA_partOfCell_73 rfl ?_
        exact zr_iret hx hb hr hlk hP hS h dMA_partOfCell_79
    · have h := h.2 hc
      have hn1 := hc
      clear hc
      refine lv_lookup (tgt := 80) hx hb dMA_partOfCell_26 (by decide) ((lv_osw hn0 (by decide)).trans ((lv_osw hn1 (by decide)).trans (rfl))) rfl ?_
      refine lv_iload hx hb dMA_partOfCell_80 (lv_at hl 0 rfl) ?_
      refine lv_if_eq (tgt := 91) hx hb dMA_partOfCell_82 rfl (fun hc => ?_) (fun hc => ?_)
      · have h := h.1 hc
        clear hc
        refine lv_iconst (v := 0) hx hb dMA_partOfCell_91 (by decide) ?_
        exact zr_iret hx hb hr hlk hP hS h dMA_partOfCell_92
      · have h := h.2 hc
        clear hc
        refine lv_lload hx hb dMA_partOfCell_85 (lv_at hl 1 rfl) ?_
        refine lv_l2i hx hb dMA_partOfCell_87 rfl ?_
        refine lv_goto (tgt := 92) hx hb dMA_partOfCell_88 rfl ?_
        exact zr_iret hx hb hr hlk hP hS h dMA_partOfCell_92
end ZW
