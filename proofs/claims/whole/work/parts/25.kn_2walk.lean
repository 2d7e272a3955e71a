section ZW
variable {p : Program} {l : Launch} {e : Env} {s : State} {m : MethodId} {args : Array Value} {below : List Frame} {meth : Method} {c : Code} {g : zs_G} {A : Nat → Prop}
set_option maxHeartbeats 4000000 in
set_option maxRecDepth 100000 in
theorem zw_KN_begin_2_s (hM : zs_M p c cKN_begin 2 s m meth args "ThriftyStores$Knowledge" none g)   {K : zs_T → Prop}  {B2 : Int32 → zs_T → Prop}  (hB2 : ∀ (l1 : Int32) (st : zs_T), B2 l1 st → zs_Go p l e (zs_rm 1 21) s m args below meth c g A (MQ below (zs_Qv g zs_ly zs_N A K) args s 0 0 A) 2 2 [(0, .ref (g.2.1 17)), (1, .int l1)] [] st) (l1 : Int32) (st : zs_T) (h : zf_KN_begin_2_s K B2 l1 st) : zs_Go p l e (zs_rm 1 21) s m args below meth c g A (MQ below (zs_Qv g zs_ly zs_N A K) args s 0 0 A) 2 2 [(0, .ref (g.2.1 17)), (1, .int l1)] [] st := by
  obtain ⟨hx, hb, hml, hr, hlk, hts, hown, hK⟩ := id hM
  intro ls H locs hl hP hS
  unfold zf_KN_begin_2_s at h
  refine lv_iload_n hx hb dKN_begin_2 rfl (lv_at hl 1 rfl) ?_
  refine lv_sipush (v := 201) hx hb dKN_begin_3 (by decide) ?_
  refine lv_icmp_ge (tgt := 29) hx hb dKN_begin_6 rfl (fun hc => ?_) (fun hc => ?_)
  · have h := h.1 hc
    clear hc
    refine lv_aload_n hx hb dKN_begin_29 rfl (lv_at hl 0 rfl) ?_
    refine zr_getr (b := 19) hx hb hts zi_KN hown hK.1 hP zl_17.1 zl_17.2 rfl 1 (by decide) rfl (hts _ zq_134) dKN_begin_30 ?_
    refine lv_iconst (v := 0) hx hb dKN_begin_33 (by decide) ?_
    refine lv_iconst (v := 1) hx hb dKN_begin_34 (by decide) ?_
    obtain ⟨hi101, h⟩ := h
    refine zr_zast hx hb hK.1 hP hS zl_19.1 zl_19.2 hi101 dKN_begin_35 (fun H locs hP hS => ?_)
    obtain ⟨t102, ez⟩ : ∃ tz : zs_T, tz = zs_i st 19 (0 : Int32).toNatClampNeg (vp_nar .boolean 1) := ⟨_, rfl⟩
    have h := h t102 ez
    have hP : zs_P g zs_ly zs_N A t102 H := by rw [ez]; exact hP
    clear ez
    refine lv_aload_n hx hb dKN_begin_36 rfl (lv_at hl 0 rfl) ?_
    refine zr_getr (b := 20) hx hb hts zi_KN hown hK.1 hP zl_17.1 zl_17.2 rfl 2 (by decide) rfl (hts _ zq_137) dKN_begin_37 ?_
    refine lv_iconst (v := 0) hx hb dKN_begin_40 (by decide) ?_
    refine lv_iconst (v := 1) hx hb dKN_begin_41 (by decide) ?_
    obtain ⟨hi103, h⟩ := h
    refine zr_zast hx hb hK.1 hP hS zl_20.1 zl_20.2 hi103 dKN_begin_42 (fun H locs hP hS => ?_)
    obtain ⟨t104, ez⟩ : ∃ tz : zs_T, tz = zs_i t102 20 (0 : Int32).toNatClampNeg (vp_nar .boolean 1) := ⟨_, rfl⟩
    have h := h t104 ez
    have hP : zs_P g zs_ly zs_N A t104 H := by rw [ez]; exact hP
    clear ez
    refine lv_aload_n hx hb dKN_begin_43 rfl (lv_at hl 0 rfl) ?_
    refine zr_getr (b := 18) hx hb hts zi_KN hown hK.1 hP zl_17.1 zl_17.2 rfl 0 (by decide) rfl (hts _ zq_131) dKN_begin_44 ?_
    refine lv_iconst (v := 0) hx hb dKN_begin_47 (by decide) ?_
    obtain ⟨hi105, hk106, h⟩ := h
    refine zr_aald hx hb hK.1 hP zl_18.1 zl_18.2 hi105 hk106 dKN_begin_48 ?_
    refine zr_callv (va_runV (As := []) (rest := []) ⟨hx, hb, hml, hown, hts⟩ (zc_FA_begin l g A (zs_Fa_b hk106) h) (cwV 0 hts (zs_gV zq_444 zq_445 zq_446 zq_5 zq_447) rfl rfl rfl ⟨rfl, by decide, by decide, by decide +kernel⟩ ⟨Nat.le_of_ble_eq_true rfl, Nat.le_of_ble_eq_true rfl⟩) (zs_preV zs_nwk hK hP (zs_Fa_b hk106).1.1 (zs_Fa_b hk106).1.2 rfl) rfl rfl hl.1 rfl (lv_room (Nat.le_of_ble_eq_true rfl)) dKN_begin_49 ⟨Nat.le_refl _, Nat.le_refl _⟩) hS (fun u107 H locs h hP hS => ?_)
    exact zr_vret hx hb hr hlk hP hS h dKN_begin_52
  · have h := h.2 hc
    clear hc
    refine lv_aload_n hx hb dKN_begin_9 rfl (lv_at hl 0 rfl) ?_
    refine zr_getr (b := 19) hx hb hts zi_KN hown hK.1 hP zl_17.1 zl_17.2 rfl 1 (by decide) rfl (hts _ zq_134) dKN_begin_10 ?_
    refine lv_iload_n hx hb dKN_begin_13 rfl (lv_at hl 1 rfl) ?_
    refine lv_iconst (v := 0) hx hb dKN_begin_14 (by decide) ?_
    obtain ⟨hi108, h⟩ := h
    refine zr_zast hx hb hK.1 hP hS zl_19.1 zl_19.2 hi108 dKN_begin_15 (fun H locs hP hS => ?_)
    obtain ⟨t109, ez⟩ : ∃ tz : zs_T, tz = zs_i st 19 l1.toNatClampNeg (vp_nar .boolean 0) := ⟨_, rfl⟩
    have h := h t109 ez
    have hP : zs_P g zs_ly zs_N A t109 H := by rw [ez]; exact hP
    clear ez
    refine lv_aload_n hx hb dKN_begin_16 rfl (lv_at hl 0 rfl) ?_
    refine zr_getr (b := 20) hx hb hts zi_KN hown hK.1 hP zl_17.1 zl_17.2 rfl 2 (by decide) rfl (hts _ zq_137) dKN_begin_17 ?_
    refine lv_iload_n hx hb dKN_begin_20 rfl (lv_at hl 1 rfl) ?_
    refine lv_iconst (v := 0) hx hb dKN_begin_21 (by decide) ?_
    obtain ⟨hi110, h⟩ := h
    refine zr_zast hx hb hK.1 hP hS zl_20.1 zl_20.2 hi110 dKN_begin_22 (fun H locs hP hS => ?_)
    obtain ⟨t111, ez⟩ : ∃ tz : zs_T, tz = zs_i t109 20 l1.toNatClampNeg (vp_nar .boolean 0) := ⟨_, rfl⟩
    have h := h t111 ez
    have hP : zs_P g zs_ly zs_N A t111 H := by rw [ez]; exact hP
    clear ez
    refine lv_iinc (k := 1) (v := l1 + 1) hx hb dKN_begin_23 hl rfl (by rw [show Int32.ofInt (1) = 1 from by decide]) (by decide) rfl (fun ls hl => ?_)
    have hl : lv_has ls 2 [(1, .int (l1 + 1)), (0, .ref (g.2.1 17))] := hl
    refine lv_goto (tgt := 2) hx hb dKN_begin_26 rfl ?_
    exact hB2 (l1 + 1) t111 h ls H locs (lv_sub hl [1, 0] rfl) hP hS
theorem zw_KN_begin_2 (hM : zs_M p c cKN_begin 2 s m meth args "ThriftyStores$Knowledge" none g)   {K : zs_T → Prop}   : ∀ (n : Nat) (l1 : Int32) (st : zs_T), zf_KN_begin_2 K n l1 st → zs_Go p l e (zs_rm 1 21) s m args below meth c g A (MQ below (zs_Qv g zs_ly zs_N A K) args s 0 0 A) 2 2 [(0, .ref (g.2.1 17)), (1, .int l1)] [] st := by
  intro n
  induction n with
  | zero => intro l1 st h; exact False.elim h
  | succ n ih => intro l1 st h; exact zw_KN_begin_2_s hM  ih l1 st h
set_option maxHeartbeats 4000000 in
set_option maxRecDepth 100000 in
theorem zc_KN_begin (l : Launch) (g : zs_G) (A : Nat → Prop)   {st : zs_T} {K : zs_T → Prop} (h : zf_KN_begin  st K) : Met l yKN_begin (.code yKN_begin cKN_begin 2 none :: zs_tb) (zs_rm 1 21) (zs_Pc zs_nl g zs_ly zs_N A [.ref (g.2.1 17)] st) (zs_Qv g zs_ly zs_N A K) 0 0 A := by
  refine zs_met (cc := cKN_begin) (maxL := 2) (ret := none) (by decide) (Nat.le_of_ble_eq_true rfl) (fun p e s m below meth c hM => ?_)
  have hM : zs_M p c cKN_begin 2 s m meth [.ref (g.2.1 17)].toArray "ThriftyStores$Knowledge" none g := hM
  obtain ⟨hx, hb, hml, hr, hlk, hts, hown, hK⟩ := id hM
  intro ls H locs hl hP hS
  have hl : lv_has ls 2 [(0, .ref (g.2.1 17))] := hl
  unfold zf_KN_begin at h
  refine lv_iconst (v := 0) hx hb dKN_begin_0 (by decide) ?_
  refine lv_istore_n hx hb dKN_begin_1 rfl hl (by decide) rfl (fun ls hl => ?_)
  have hl : lv_has ls 2 [(1, .int 0), (0, .ref (g.2.1 17))] := hl
  obtain ⟨n, h⟩ := h
  exact zw_KN_begin_2 hM  n 0 st h ls H locs (lv_sub hl [1, 0] rfl) hP hS
set_option maxHeartbeats 4000000 in
set_option maxRecDepth 100000 in
theorem zc_KN_flowTo (l : Launch) (g : zs_G) (A : Nat → Prop) {l1 : Int32}  {st : zs_T} {K : zs_T → Prop} (h : zf_KN_flowTo l1 st K) : Met l yKN_flowTo (.code yKN_flowTo cKN_flowTo 2 none :: zs_tb) (zs_rm 2 39) (zs_Pc zs_nl g zs_ly zs_N A [.ref (g.2.1 17), .int l1] st) (zs_Qv g zs_ly zs_N A K) 0 0 A := by
  refine zs_met (cc := cKN_flowTo) (maxL := 2) (ret := none) (by decide) (Nat.le_of_ble_eq_true rfl) (fun p e s m below meth c hM => ?_)
  have hM : zs_M p c cKN_flowTo 2 s m meth [.ref (g.2.1 17), .int l1].toArray "ThriftyStores$Knowledge" none g := hM
  obtain ⟨hx, hb, hml, hr, hlk, hts, hown, hK⟩ := id hM
  intro ls H locs hl hP hS
  have hl : lv_has ls 2 [(0, .ref (g.2.1 17)), (1, .int l1)] := hl
  unfold zf_KN_flowTo at h
  refine lv_iload_n hx hb dKN_flowTo_0 rfl (lv_at hl 1 rfl) ?_
  refine lv_iconst (v := (-1)) hx hb dKN_flowTo_1 (by decide) ?_
  refine lv_icmp_ne (tgt := 6) hx hb dKN_flowTo_2 rfl (fun hc => ?_) (fun hc => ?_)
  · have h := h.1 hc
    clear hc
    refine lv_aload_n hx hb dKN_flowTo_6 rfl (lv_at hl 0 rfl) ?_
    refine zr_getr (b := 19) hx hb hts zi_KN hown hK.1 hP zl_17.1 zl_17.2 rfl 1 (by decide) rfl (hts _ zq_134) dKN_flowTo_7 ?_
    refine lv_iload_n hx hb dKN_flowTo_10 rfl (lv_at hl 1 rfl) ?_
    obtain ⟨hi1, h⟩ := h
    refine zr_zald hx hb hK.1 hP zl_19.1 zl_19.2 hi1 dKN_flowTo_11 ?_
    refine lv_if_ne (tgt := 45) hx hb dKN_flowTo_12 rfl (fun hc => ?_) (fun hc => ?_)
    · have h := h.1 hc
      clear hc
      refine lv_aload_n hx hb dKN_flowTo_45 rfl (lv_at hl 0 rfl) ?_
      refine zr_getr (b := 18) hx hb hts zi_KN hown hK.1 hP zl_17.1 zl_17.2 rfl 0 (by decide) rfl (hts _ zq_131) dKN_flowTo_46 ?_
      refine lv_iload_n hx hb dKN_flowTo_49 rfl (lv_at hl 1 rfl) ?_
      obtain ⟨hi2, hk3, h⟩ := h
      refine zr_aald hx hb hK.1 hP zl_18.1 zl_18.2 hi2 hk3 dKN_flowTo_50 ?_
      refine lv_aload_n hx hb dKN_flowTo_51 rfl (lv_at hl 0 rfl) ?_
      refine zr_getr (b := 21) hx hb hts zi_KN hown hK.1 hP zl_17.1 zl_17.2 rfl 3 (by decide) rfl (hts _ zq_138) dKN_flowTo_52 ?_
      refine zr_calli (va_runV (As := [.ref (g.2.1 21)]) (rest := []) ⟨hx, hb, hml, hown, hts⟩ (zc_FA_keepCommon l g A (zs_Fa_b hk3) zs_Fa_21 h) (cwV 1 hts (zs_gV zq_487 zq_488 zq_489 zq_5 zq_490) rfl rfl rfl ⟨rfl, by decide, by decide, by decide +kernel⟩ ⟨Nat.le_of_ble_eq_true rfl, Nat.le_of_ble_eq_true rfl⟩) (zs_preV zs_nwk hK hP (zs_Fa_b hk3).1.1 (zs_Fa_b hk3).1.2 rfl) rfl rfl hl.1 rfl (lv_room (Nat.le_of_ble_eq_true rfl)) dKN_flowTo_55 ⟨Nat.le_refl _, Nat.le_refl _⟩) hS (fun r5 u4 H locs h hP hS => ?_)
      refine lv_if_eq (tgt := 68) hx hb dKN_flowTo_58 rfl (fun hc => ?_) (fun hc => ?_)
      · have h := h.1 hc
        clear hc
        exact zr_vret hx hb hr hlk hP hS h dKN_flowTo_68
      · have h := h.2 hc
        clear hc
        refine lv_aload_n hx hb dKN_flowTo_61 rfl (lv_at hl 0 rfl) ?_
        refine zr_getr (b := 20) hx hb hts zi_KN hown hK.1 hP zl_17.1 zl_17.2 rfl 2 (by decide) rfl (hts _ zq_137) dKN_flowTo_62 ?_
        refine lv_iload_n hx hb dKN_flowTo_65 rfl (lv_at hl 1 rfl) ?_
        refine lv_iconst (v := 1) hx hb dKN_flowTo_66 (by decide) ?_
        obtain ⟨hi6, h⟩ := h
        refine zr_zast hx hb hK.1 hP hS zl_20.1 zl_20.2 hi6 dKN_flowTo_67 (fun H locs hP hS => ?_)
        obtain ⟨t7, ez⟩ : ∃ tz : zs_T, tz = zs_i u4 20 l1.toNatClampNeg (vp_nar .boolean 1) := ⟨_, rfl⟩
        have h := h t7 ez
        have hP : zs_P g zs_ly zs_N A t7 H := by rw [ez]; exact hP
        clear ez
        exact zr_vret hx hb hr hlk hP hS h dKN_flowTo_68
    · have h := h.2 hc
      clear hc
      refine lv_aload_n hx hb dKN_flowTo_15 rfl (lv_at hl 0 rfl) ?_
      refine zr_getr (b := 19) hx hb hts zi_KN hown hK.1 hP zl_17.1 zl_17.2 rfl 1 (by decide) rfl (hts _ zq_134) dKN_flowTo_16 ?_
      refine lv_iload_n hx hb dKN_flowTo_19 rfl (lv_at hl 1 rfl) ?_
      refine lv_iconst (v := 1) hx hb dKN_flowTo_20 (by decide) ?_
      obtain ⟨hi8, h⟩ := h
      refine zr_zast hx hb hK.1 hP hS zl_19.1 zl_19.2 hi8 dKN_flowTo_21 (fun H locs hP hS => ?_)
      obtain ⟨t9, ez⟩ : ∃ tz : zs_T, tz = zs_i st 19 l1.toNatClampNeg (vp_nar .boolean 1) := ⟨_, rfl⟩
      have h := h t9 ez
      have hP : zs_P g zs_ly zs_N A t9 H := by rw [ez]; exact hP
      clear ez
      refine lv_aload_n hx hb dKN_flowTo_22 rfl (lv_at hl 0 rfl) ?_
      refine zr_getr (b := 20) hx hb hts zi_KN hown hK.1 hP zl_17.1 zl_17.2 rfl 2 (by decide) rfl (hts _ zq_137) dKN_flowTo_23 ?_
      refine lv_iload_n hx hb dKN_flowTo_26 rfl (lv_at hl 1 rfl) ?_
      refine lv_iconst (v := 1) hx hb dKN_flowTo_27 (by decide) ?_
      obtain ⟨hi10, h⟩ := h
      refine zr_zast hx hb hK.1 hP hS zl_20.1 zl_20.2 hi10 dKN_flowTo_28 (fun H locs hP hS => ?_)
      obtain ⟨t11, ez⟩ : ∃ tz : zs_T, tz = zs_i t9 20 l1.toNatClampNeg (vp_nar .boolean 1) := ⟨_, rfl⟩
      have h := h t11 ez
      have hP : zs_P g zs_ly zs_N A t11 H := by rw [ez]; exact hP
      clear ez
      refine lv_aload_n hx hb dKN_flowTo_29 rfl (lv_at hl 0 rfl) ?_
      refine zr_getr (b := 18) hx hb hts zi_KN hown hK.1 hP zl_17.1 zl_17.2 rfl 0 (by decide) rfl (hts _ zq_131) dKN_flowTo_30 ?_
      refine lv_iload_n hx hb dKN_flowTo_33 rfl (lv_at hl 1 rfl) ?_
      obtain ⟨hi12, hk13, h⟩ := h
      refine zr_aald hx hb hK.1 hP zl_18.1 zl_18.2 hi12 hk13 dKN_flowTo_34 ?_
      refine lv_aload_n hx hb dKN_flowTo_35 rfl (lv_at hl 0 rfl) ?_
      refine zr_getr (b := 21) hx hb hts zi_KN hown hK.1 hP zl_17.1 zl_17.2 rfl 3 (by decide) rfl (hts _ zq_138) dKN_flowTo_36 ?_
      refine zr_callv (va_runV (As := [.ref (g.2.1 21)]) (rest := []) ⟨hx, hb, hml, hown, hts⟩ (zc_FA_copy l g A (zs_Fa_b hk13) zs_Fa_21 h) (cwV 1 hts (zs_gV zq_450 zq_451 zq_452 zq_5 zq_453) rfl rfl rfl ⟨rfl, by decide, by decide, by decide +kernel⟩ ⟨Nat.le_of_ble_eq_true rfl, Nat.le_of_ble_eq_true rfl⟩) (zs_preV zs_nwk hK hP (zs_Fa_b hk13).1.1 (zs_Fa_b hk13).1.2 rfl) rfl rfl hl.1 rfl (lv_room (Nat.le_of_ble_eq_true rfl)) dKN_flowTo_39 ⟨Nat.le_refl _, Nat.le_refl _⟩) hS (fun u14 H locs h hP hS => ?_)
      refine lv_goto (tgt := 68) hx hb dKN_flowTo_42 rfl ?_
      exact zr_vret hx hb hr hlk hP hS h dKN_flowTo_68
  · have h := h.2 hc
    clear hc
    exact zr_vret hx hb hr hlk hP hS h dKN_flowTo_5
set_option maxHeartbeats 4000000 in
set_option maxRecDepth 100000 in
theorem zw_KN_find_102 (hM : zs_M p c cKN_find 6 s m meth args "ThriftyStores$Knowledge" none g) {d1 : Nat} (hd1 : zs_Pr d1) {K : zs_T → Prop} {B9 : Int32 → Int32 → zs_T → Prop} {B25 : Int32 → Int32 → Int32 → zs_T → Prop} (hB9 : ∀ (l3 : Int32) (l4 : Int32) (st : zs_T), B9 l3 l4 st → zs_Go p l e (zs_rm 3 73) s m args below meth c g A (MQ below (zs_Qv g zs_ly zs_N A K) args s 0 0 A) 6 9 [(0, .ref (g.2.1 17)), (1, .ref (g.2.1 d1)), (2, .ref (g.2.1 12)), (3, .int l3), (4, .int l4)] [] st) (hB25 : ∀ (l3 : Int32) (l4 : Int32) (l5 : Int32) (st : zs_T), B25 l3 l4 l5 st → zs_Go p l e (zs_rm 3 73) s m args below meth c g A (MQ below (zs_Qv g zs_ly zs_N A K) args s 0 0 A) 6 25 [(0, .ref (g.2.1 17)), (1, .ref (g.2.1 d1)), (2, .ref (g.2.1 12)), (3, .int l3), (4, .int l4), (5, .int l5)] [] st) (l3 : Int32) (l4 : Int32) (l5 : Int32) (st : zs_T) (h : zf_KN_find_102 d1 K B9 B25 l3 l4 l5 st) : zs_Go p l e (zs_rm 3 73) s m args below meth c g A (MQ below (zs_Qv g zs_ly zs_N A K) args s 0 0 A) 6 102 [(0, .ref (g.2.1 17)), (1, .ref (g.2.1 d1)), (2, .ref (g.2.1 12)), (3, .int l3), (4, .int l4), (5, .int l5)] [] st := by
  obtain ⟨hx, hb, hml, hr, hlk, hts, hown, hK⟩ := id hM
  intro ls H locs hl hP hS
  unfold zf_KN_find_102 at h
  refine lv_iinc (k := 5) (v := l5 + 1) hx hb dKN_find_102 hl rfl (by rw [show Int32.ofInt (1) = 1 from by decide]) (by decide) rfl (fun ls hl => ?_)
  have hl : lv_has ls 6 [(5, .int (l5 + 1)), (0, .ref (g.2.1 17)), (1, .ref (g.2.1 d1)), (2, .ref (g.2.1 12)), (3, .int l3), (4, .int l4)] := hl
  refine lv_goto (tgt := 25) hx hb dKN_find_105 rfl ?_
  exact hB25 l3 l4 (l5 + 1) st h ls H locs (lv_sub hl [1, 2, 3, 4, 5, 0] rfl) hP hS
set_option maxHeartbeats 4000000 in
set_option maxRecDepth 100000 in
theorem zw_KN_find_25_s (hM : zs_M p c cKN_find 6 s m meth args "ThriftyStores$Knowledge" none g) {d1 : Nat} (hd1 : zs_Pr d1) {K : zs_T → Prop} {B9 : Int32 → Int32 → zs_T → Prop} {B25 : Int32 → Int32 → Int32 → zs_T → Prop} (hB9 : ∀ (l3 : Int32) (l4 : Int32) (st : zs_T), B9 l3 l4 st → zs_Go p l e (zs_rm 3 73) s m args below meth c g A (MQ below (zs_Qv g zs_ly zs_N A K) args s 0 0 A) 6 9 [(0, .ref (g.2.1 17)), (1, .ref (g.2.1 d1)), (2, .ref (g.2.1 12)), (3, .int l3), (4, .int l4)] [] st) (hB25 : ∀ (l3 : Int32) (l4 : Int32) (l5 : Int32) (st : zs_T), B25 l3 l4 l5 st → zs_Go p l e (zs_rm 3 73) s m args below meth c g A (MQ below (zs_Qv g zs_ly zs_N A K) args s 0 0 A) 6 25 [(0, .ref (g.2.1 17)), (1, .ref (g.2.1 d1)), (2, .ref (g.2.1 12)), (3, .int l3), (4, .int l4), (5, .int l5)] [] st) (l3 : Int32) (l4 : Int32) (l5 : Int32) (st : zs_T) (h : zf_KN_find_25_s d1 K B9 B25 l3 l4 l5 st) : zs_Go p l e (zs_rm 3 73) s m args below meth c g A (MQ below (zs_Qv g zs_ly zs_N A K) args s 0 0 A) 6 25 [(0, .ref (g.2.1 17)), (1, .ref (g.2.1 d1)), (2, .ref (g.2.1 12)), (3, .int l3), (4, .int l4), (5, .int l5)] [] st := by
  obtain ⟨hx, hb, hml, hr, hlk, hts, hown, hK⟩ := id hM
  intro ls H locs hl hP hS
  unfold zf_KN_find_25_s at h
  refine lv_iload hx hb dKN_find_25 (lv_at hl 5 rfl) ?_
  refine lv_aload_n hx hb dKN_find_27 rfl (lv_at hl 1 rfl) ?_
  refine zr_geti hx hb hts zi_PR hown hK.1 hP hd1.1.1 hd1.1.2 rfl 4 (by decide) rfl (hts _ zq_56) dKN_find_28 ?_
  refine lv_icmp_ge (tgt := 108) hx hb dKN_find_31 rfl (fun hc => ?_) (fun hc => ?_)
  · have h := h.1 hc
    clear hc
    refine lv_iinc (k := 4) (v := l4 + 1) hx hb dKN_find_108 hl rfl (by rw [show Int32.ofInt (1) = 1 from by decide]) (by decide) rfl (fun ls hl => ?_)
    have hl : lv_has ls 6 [(4, .int (l4 + 1)), (0, .ref (g.2.1 17)), (1, .ref (g.2.1 d1)), (2, .ref (g.2.1 12)), (3, .int l3), (5, .int l5)] := hl
    refine lv_goto (tgt := 9) hx hb dKN_find_111 rfl ?_
    exact hB9 l3 (l4 + 1) st h ls H locs (lv_sub hl [1, 2, 3, 4, 0] rfl) hP hS
  · have h := h.2 hc
    clear hc
    refine lv_aload_n hx hb dKN_find_34 rfl (lv_at hl 0 rfl) ?_
    refine zr_getr (b := 20) hx hb hts zi_KN hown hK.1 hP zl_17.1 zl_17.2 rfl 2 (by decide) rfl (hts _ zq_137) dKN_find_35 ?_
    refine lv_iload hx hb dKN_find_38 (lv_at hl 5 rfl) ?_
    obtain ⟨hi201, h⟩ := h
    refine zr_zald hx hb hK.1 hP zl_20.1 zl_20.2 hi201 dKN_find_40 ?_
    refine lv_if_eq (tgt := 102) hx hb dKN_find_41 rfl (fun hc => ?_) (fun hc => ?_)
    · have h := h.1 hc
      clear hc
      exact zw_KN_find_102 hM hd1 hB9 hB25 l3 l4 l5 st h ls H locs (lv_sub hl [0, 1, 2, 3, 4, 5] rfl) hP hS
    · have h := h.2 hc
      clear hc
      refine lv_aload_n hx hb dKN_find_44 rfl (lv_at hl 0 rfl) ?_
      refine zr_getr (b := 20) hx hb hts zi_KN hown hK.1 hP zl_17.1 zl_17.2 rfl 2 (by decide) rfl (hts _ zq_137) dKN_find_45 ?_
      refine lv_iload hx hb dKN_find_48 (lv_at hl 5 rfl) ?_
      refine lv_iconst (v := 0) hx hb dKN_find_50 (by decide) ?_
      obtain ⟨hi202, h⟩ := h
      refine zr_zast hx hb hK.1 hP hS zl_20.1 zl_20.2 hi202 dKN_find_51 (fun H locs hP hS => ?_)
      obtain ⟨t203, ez⟩ : ∃ tz : zs_T, tz = zs_i st 20 l5.toNatClampNeg (vp_nar .boolean 0) := ⟨_, rfl⟩
      have h := h t203 ez
      have hP : zs_P g zs_ly zs_N A t203 H := by rw [ez]; exact hP
      clear ez
      refine lv_iconst (v := 1) hx hb dKN_find_52 (by decide) ?_
      refine lv_istore_n hx hb dKN_find_53 rfl hl (by decide) rfl (fun ls hl => ?_)
      have hl : lv_has ls 6 [(3, .int 1), (0, .ref (g.2.1 17)), (1, .ref (g.2.1 d1)), (2, .ref (g.2.1 12)), (4, .int l4), (5, .int l5)] := hl
      refine lv_aload_n hx hb dKN_find_54 rfl (lv_at hl 1 rfl) ?_
      refine zr_getr (b := 21) hx hb hts zi_KN hown hK.1 hP zl_17.1 zl_17.2 rfl 3 (by decide) rfl (hts _ zq_138) dKN_find_55 ?_
      refine lv_aload_n hx hb dKN_find_58 rfl (lv_at hl 1 rfl) ?_
      refine zr_getr (b := 18) hx hb hts zi_KN hown hK.1 hP zl_17.1 zl_17.2 rfl 0 (by decide) rfl (hts _ zq_131) dKN_find_59 ?_
      refine lv_iload hx hb dKN_find_62 (lv_at hl 5 rfl) ?_
      obtain ⟨hi204, hk205, h⟩ := h
      refine zr_aald hx hb hK.1 hP zl_18.1 zl_18.2 hi204 hk205 dKN_find_64 ?_
      refine zr_callv (va_runV (As := [.ref (g.2.1 (24 + 3 * l5.toNatClampNeg))]) (rest := []) ⟨hx, hb, hml, hown, hts⟩ (zc_FA_copy l g A zs_Fa_21 (zs_Fa_b hk205) h) (cwV 1 hts (zs_gV zq_450 zq_451 zq_452 zq_5 zq_453) rfl rfl rfl ⟨rfl, by decide, by decide, by decide +kernel⟩ ⟨Nat.le_of_ble_eq_true rfl, Nat.le_of_ble_eq_true rfl⟩) (zs_preV zs_nwk hK hP zs_Fa_21.1.1 zs_Fa_21.1.2 rfl) rfl rfl hl.1 rfl (lv_room (Nat.le_of_ble_eq_true rfl)) dKN_find_65 ⟨Nat.le_refl _, Nat.le_refl _⟩) hS (fun u206 H locs h hP hS => ?_)
      refine lv_aload_n hx hb dKN_find_68 rfl (lv_at hl 1 rfl) ?_
      refine zr_getr (b := 21) hx hb hts zi_KN hown hK.1 hP zl_17.1 zl_17.2 rfl 3 (by decide) rfl (hts _ zq_138) dKN_find_69 ?_
      refine lv_aload_n hx hb dKN_find_72 rfl (lv_at hl 2 rfl) ?_
      refine lv_iload hx hb dKN_find_73 (lv_at hl 5 rfl) ?_
      refine lv_aload_n hx hb dKN_find_75 rfl (lv_at hl 3 rfl) ?_
      refine zr_getr (b := 16) hx hb hts zi_AD hown hK.1 hP zl_12.1 zl_12.2 rfl 4 (by decide) rfl (hts _ zq_83) dKN_find_76 ?_
      refine zr_callv (va_runV (As := [.ref (g.2.1 d1), .int l5, .ref (g.2.1 16)]) (rest := []) ⟨hx, hb, hml, hown, hts⟩ (zc_FA_pass l g A zs_Fa_21 hd1 h) (cwV 3 hts (zs_gV zq_455 zq_456 zq_457 zq_5 zq_458) rfl rfl rfl ⟨rfl, by decide, by decide, by decide +kernel⟩ ⟨Nat.le_of_ble_eq_true rfl, Nat.le_of_ble_eq_true rfl⟩) (zs_preV zs_nwk hK hP zs_Fa_21.1.1 zs_Fa_21.1.2 rfl) rfl rfl hl.1 rfl (lv_room (Nat.le_of_ble_eq_true rfl)) dKN_find_79 ⟨Nat.le_refl _, Nat.le_refl _⟩) hS (fun u207 H locs h hP hS => ?_)
      refine lv_aload_n hx hb dKN_find_82 rfl (lv_at hl 1 rfl) ?_
      refine lv_aload_n hx hb dKN_find_83 rfl (lv_at hl 2 rfl) ?_
      refine lv_iload hx hb dKN_find_84 (lv_at hl 5 rfl) ?_
      refine zr_calli (va_runV (As := [.int l5]) (rest := [.ref (g.2.1 17)]) ⟨hx, hb, hml, hown, hts⟩ (zc_PR_follower l g A hd1 h) (cwV 1 hts (zs_gV zq_479 zq_480 zq_481 zq_2 zq_482) rfl rfl rfl ⟨rfl, by decide, by decide, by decide +kernel⟩ ⟨Nat.le_of_ble_eq_true rfl, Nat.le_of_ble_eq_true rfl⟩) (zs_preV zs_nwk hK hP hd1.1.1 hd1.1.2 rfl) rfl rfl hl.1 rfl (lv_room (Nat.le_of_ble_eq_true rfl)) dKN_find_86 ⟨Nat.le_refl _, Nat.le_refl _⟩) hS (fun r209 u208 H locs h hP hS => ?_)
      refine zr_callv (va_runV (As := [.int r209]) (rest := []) ⟨hx, hb, hml, hown, hts⟩ (zc_KN_flowTo l g A  h) (cwV 1 hts (zs_gV zq_483 zq_485 zp_17 zq_4 zq_486) rfl rfl rfl ⟨rfl, by decide, by decide, by decide +kernel⟩ ⟨Nat.le_of_ble_eq_true rfl, Nat.le_of_ble_eq_true rfl⟩) (zs_preV zs_nwk hK hP zl_17.1 zl_17.2 rfl) rfl rfl hl.1 rfl (lv_room (Nat.le_of_ble_eq_true rfl)) dKN_find_89 ⟨Nat.le_refl _, Nat.le_refl _⟩) hS (fun u210 H locs h hP hS => ?_)
      refine lv_aload_n hx hb dKN_find_92 rfl (lv_at hl 1 rfl) ?_
      refine lv_aload_n hx hb dKN_find_93 rfl (lv_at hl 2 rfl) ?_
      refine lv_iload hx hb dKN_find_94 (lv_at hl 5 rfl) ?_
      refine zr_calli (va_runV (As := [.int l5]) (rest := [.ref (g.2.1 17)]) ⟨hx, hb, hml, hown, hts⟩ (zc_PR_target l g A hd1 h) (cwV 1 hts (zs_gV zq_491 zq_492 zq_493 zq_2 zq_494) rfl rfl rfl ⟨rfl, by decide, by decide, by decide +kernel⟩ ⟨Nat.le_of_ble_eq_true rfl, Nat.le_of_ble_eq_true rfl⟩) (zs_preV zs_nwk hK hP hd1.1.1 hd1.1.2 rfl) rfl rfl hl.1 rfl (lv_room (Nat.le_of_ble_eq_true rfl)) dKN_find_96 ⟨Nat.le_refl _, Nat.le_refl _⟩) hS (fun r212 u211 H locs h hP hS => ?_)
      refine zr_callv (va_runV (As := [.int r212]) (rest := []) ⟨hx, hb, hml, hown, hts⟩ (zc_KN_flowTo l g A  h) (cwV 1 hts (zs_gV zq_483 zq_485 zp_17 zq_4 zq_486) rfl rfl rfl ⟨rfl, by decide, by decide, by decide +kernel⟩ ⟨Nat.le_of_ble_eq_true rfl, Nat.le_of_ble_eq_true rfl⟩) (zs_preV zs_nwk hK hP zl_17.1 zl_17.2 rfl) rfl rfl hl.1 rfl (lv_room (Nat.le_of_ble_eq_true rfl)) dKN_find_99 ⟨Nat.le_refl _, Nat.le_refl _⟩) hS (fun u213 H locs h hP hS => ?_)
      exact zw_KN_find_102 hM hd1 hB9 hB25 1 l4 l5 u213 h ls H locs (lv_sub hl [1, 2, 3, 0, 4, 5] rfl) hP hS
theorem zw_KN_find_25 (hM : zs_M p c cKN_find 6 s m meth args "ThriftyStores$Knowledge" none g) {d1 : Nat} (hd1 : zs_Pr d1) {K : zs_T → Prop} {B9 : Int32 → Int32 → zs_T → Prop} (hB9 : ∀ (l3 : Int32) (l4 : Int32) (st : zs_T), B9 l3 l4 st → zs_Go p l e (zs_rm 3 73) s m args below meth c g A (MQ below (zs_Qv g zs_ly zs_N A K) args s 0 0 A) 6 9 [(0, .ref (g.2.1 17)), (1, .ref (g.2.1 d1)), (2, .ref (g.2.1 12)), (3, .int l3), (4, .int l4)] [] st) : ∀ (n : Nat) (l3 : Int32) (l4 : Int32) (l5 : Int32) (st : zs_T), zf_KN_find_25 d1 K B9 n l3 l4 l5 st → zs_Go p l e (zs_rm 3 73) s m args below meth c g A (MQ below (zs_Qv g zs_ly zs_N A K) args s 0 0 A) 6 25 [(0, .ref (g.2.1 17)), (1, .ref (g.2.1 d1)), (2, .ref (g.2.1 12)), (3, .int l3), (4, .int l4), (5, .int l5)] [] st := by
  intro n
  induction n with
  | zero => intro l3 l4 l5 st h; exact False.elim h
  | succ n ih => intro l3 l4 l5 st h; exact zw_KN_find_25_s hM hd1 hB9 ih l3 l4 l5 st h
set_option maxHeartbeats 4000000 in
set_option maxRecDepth 100000 in
theorem zw_KN_find_9_s (hM : zs_M p c cKN_find 6 s m meth args "ThriftyStores$Knowledge" none g) {d1 : Nat} (hd1 : zs_Pr d1) {K : zs_T → Prop}  {B9 : Int32 → Int32 → zs_T → Prop}  (hB9 : ∀ (l3 : Int32) (l4 : Int32) (st : zs_T), B9 l3 l4 st → zs_Go p l e (zs_rm 3 73) s m args below meth c g A (MQ below (zs_Qv g zs_ly zs_N A K) args s 0 0 A) 6 9 [(0, .ref (g.2.1 17)), (1, .ref (g.2.1 d1)), (2, .ref (g.2.1 12)), (3, .int l3), (4, .int l4)] [] st) (l3 : Int32) (l4 : Int32) (st : zs_T) (h : zf_KN_find_9_s d1 K B9 l3 l4 st) : zs_Go p l e (zs_rm 3 73) s m args below meth c g A (MQ below (zs_Qv g zs_ly zs_N A K) args s 0 0 A) 6 9 [(0, .ref (g.2.1 17)), (1, .ref (g.2.1 d1)), (2, .ref (g.2.1 12)), (3, .int l3), (4, .int l4)] [] st := by
  obtain ⟨hx, hb, hml, hr, hlk, hts, hown, hK⟩ := id hM
  intro ls H locs hl hP hS
  unfold zf_KN_find_9_s at h
  refine lv_iload_n hx hb dKN_find_9 rfl (lv_at hl 3 rfl) ?_
  refine lv_if_eq (tgt := 114) hx hb dKN_find_10 rfl (fun hc => ?_) (fun hc => ?_)
  · have h := h.1 hc
    clear hc
    exact zr_vret hx hb hr hlk hP hS h dKN_find_114
  · have h := h.2 hc
    clear hc
    refine lv_iload hx hb dKN_find_13 (lv_at hl 4 rfl) ?_
    refine lv_ldc hx hb hown (hts _ zq_449) dKN_find_15 ?_
    refine lv_icmp_ge (tgt := 114) hx hb dKN_find_17 rfl (fun hc => ?_) (fun hc => ?_)
    · have h := h.1 hc
      clear hc
      exact zr_vret hx hb hr hlk hP hS h dKN_find_114
    · have h := h.2 hc
      clear hc
      refine lv_iconst (v := 0) hx hb dKN_find_20 (by decide) ?_
      refine lv_istore_n hx hb dKN_find_21 rfl hl (by decide) rfl (fun ls hl => ?_)
      have hl : lv_has ls 6 [(3, .int 0), (0, .ref (g.2.1 17)), (1, .ref (g.2.1 d1)), (2, .ref (g.2.1 12)), (4, .int l4)] := hl
      refine lv_iconst (v := 0) hx hb dKN_find_22 (by decide) ?_
      refine lv_istore hx hb dKN_find_23 hl (by decide) rfl (fun ls hl => ?_)
      have hl : lv_has ls 6 [(5, .int 0), (3, .int 0), (0, .ref (g.2.1 17)), (1, .ref (g.2.1 d1)), (2, .ref (g.2.1 12)), (4, .int l4)] := hl
      obtain ⟨n, h⟩ := h
      exact zw_KN_find_25 hM hd1 hB9 n 0 l4 0 st h ls H locs (lv_sub hl [2, 3, 4, 1, 5, 0] rfl) hP hS
theorem zw_KN_find_9 (hM : zs_M p c cKN_find 6 s m meth args "ThriftyStores$Knowledge" none g) {d1 : Nat} (hd1 : zs_Pr d1) {K : zs_T → Prop}   : ∀ (n : Nat) (l3 : Int32) (l4 : Int32) (st : zs_T), zf_KN_find_9 d1 K n l3 l4 st → zs_Go p l e (zs_rm 3 73) s m args below meth c g A (MQ below (zs_Qv g zs_ly zs_N A K) args s 0 0 A) 6 9 [(0, .ref (g.2.1 17)), (1, .ref (g.2.1 d1)), (2, .ref (g.2.1 12)), (3, .int l3), (4, .int l4)] [] st := by
  intro n
  induction n with
  | zero => intro l3 l4 st h; exact False.elim h
  | succ n ih => intro l3 l4 st h; exact zw_KN_find_9_s hM hd1 ih l3 l4 st h
set_option maxHeartbeats 4000000 in
set_option maxRecDepth 100000 in
theorem zc_KN_find (l : Launch) (g : zs_G) (A : Nat → Prop) {d1 : Nat} (hd1 : zs_Pr d1) {st : zs_T} {K : zs_T → Prop} (h : zf_KN_find d1 st K) : Met l yKN_find (.code yKN_find cKN_find 6 none :: zs_tb) (zs_rm 3 73) (zs_Pc zs_nl g zs_ly zs_N A [.ref (g.2.1 17), .ref (g.2.1 d1), .ref (g.2.1 12)] st) (zs_Qv g zs_ly zs_N A K) 0 0 A := by
  refine zs_met (cc := cKN_find) (maxL := 6) (ret := none) (by decide) (Nat.le_of_ble_eq_true rfl) (fun p e s m below meth c hM => ?_)
  have hM : zs_M p c cKN_find 6 s m meth [.ref (g.2.1 17), .ref (g.2.1 d1), .ref (g.2.1 12)].toArray "ThriftyStores$Knowledge" none g := hM
  obtain ⟨hx, hb, hml, hr, hlk, hts, hown, hK⟩ := id hM
  intro ls H locs hl hP hS
  have hl : lv_has ls 6 [(0, .ref (g.2.1 17)), (1, .ref (g.2.1 d1)), (2, .ref (g.2.1 12))] := hl
  unfold zf_KN_find at h
  refine lv_aload_n hx hb dKN_find_0 rfl (lv_at hl 0 rfl) ?_
  refine zr_callv (va_runV (As := []) (rest := []) ⟨hx, hb, hml, hown, hts⟩ (zc_KN_begin l g A  h) (cwV 0 hts (zs_gV zq_440 zq_442 zp_12 zq_4 zq_443) rfl rfl rfl ⟨rfl, by decide, by decide, by decide +kernel⟩ ⟨Nat.le_of_ble_eq_true rfl, Nat.le_of_ble_eq_true rfl⟩) (zs_preV zs_nwk hK hP zl_17.1 zl_17.2 rfl) rfl rfl hl.1 rfl (lv_room (Nat.le_of_ble_eq_true rfl)) dKN_find_1 ⟨Nat.le_refl _, Nat.le_refl _⟩) hS (fun u1 H locs h hP hS => ?_)
  refine lv_iconst (v := 1) hx hb dKN_find_4 (by decide) ?_
  refine lv_istore_n hx hb dKN_find_5 rfl hl (by decide) rfl (fun ls hl => ?_)
  have hl : lv_has ls 6 [(3, .int 1), (0, .ref (g.2.1 17)), (1, .ref (g.2.1 d1)), (2, .ref (g.2.1 12))] := hl
  refine lv_iconst (v := 0) hx hb dKN_find_6 (by decide) ?_
  refine lv_istore hx hb dKN_find_7 hl (by decide) rfl (fun ls hl => ?_)
  have hl : lv_has ls 6 [(4, .int 0), (3, .int 1), (0, .ref (g.2.1 17)), (1, .ref (g.2.1 d1)), (2, .ref (g.2.1 12))] := hl
  obtain ⟨n, h⟩ := h
  exact zw_KN_find_9 hM hd1 n 1 0 u1 h ls H locs (lv_sub hl [2, 3, 4, 1, 0] rfl) hP hS
set_option maxHeartbeats 4000000 in
set_option maxRecDepth 100000 in
theorem zc_KN_tells (l : Launch) (g : zs_G) (A : Nat → Prop) {l1 : Int32} {l2 : Int32} {l3 : Int32} {l4 : Int32}  {st : zs_T} {K : Int32 → zs_T → Prop} (h : zf_KN_tells l1 l2 l3 l4 st K) : Met l yKN_tells (.code yKN_tells cKN_tells 5 (some .boolean) :: zs_tb) (zs_rm 0 0) (zs_Pc zs_nl g zs_ly zs_N A [.ref (g.2.1 17), .int l1, .int l2, .int l3, .int l4] st) (zs_Qi g zs_ly zs_N A K) 0 0 A := by
  refine zs_met (cc := cKN_tells) (maxL := 5) (ret := (some .boolean)) (by decide) (Nat.le_of_ble_eq_true rfl) (fun p e s m below meth c hM => ?_)
  have hM : zs_M p c cKN_tells 5 s m meth [.ref (g.2.1 17), .int l1, .int l2, .int l3, .int l4].toArray "ThriftyStores$Knowledge" (some .boolean) g := hM
  obtain ⟨hx, hb, hml, hr, hlk, hts, hown, hK⟩ := id hM
  intro ls H locs hl hP hS
  have hl : lv_has ls 5 [(0, .ref (g.2.1 17)), (1, .int l1), (2, .int l2), (3, .int l3), (4, .int l4)] := hl
  unfold zf_KN_tells at h
  refine lv_aload_n hx hb dKN_tells_0 rfl (lv_at hl 0 rfl) ?_
  refine zr_getr (b := 19) hx hb hts zi_KN hown hK.1 hP zl_17.1 zl_17.2 rfl 1 (by decide) rfl (hts _ zq_134) dKN_tells_1 ?_
  refine lv_iload_n hx hb dKN_tells_4 rfl (lv_at hl 1 rfl) ?_
  obtain ⟨hi1, h⟩ := h
  refine zr_zald hx hb hK.1 hP zl_19.1 zl_19.2 hi1 dKN_tells_5 ?_
  refine lv_if_ne (tgt := 11) hx hb dKN_tells_6 rfl (fun hc => ?_) (fun hc => ?_)
  · have h := h.1 hc
    clear hc
    refine lv_iload_n hx hb dKN_tells_11 rfl (lv_at hl 2 rfl) ?_
    by_cases hc : l2 = 0
    · refine lv_tableIn (tgt := 40) (off := 28) hx hb dKN_tells_12 (by rw [hc]; decide) (by rw [hc]; decide) (by rw [hc]; decide) rfl ?_
      have h := h.1 hc
      clear hc
      refine lv_aload_n hx hb dKN_tells_40 rfl (lv_at hl 0 rfl) ?_
      refine zr_getr (b := 18) hx hb hts zi_KN hown hK.1 hP zl_17.1 zl_17.2 rfl 0 (by decide) rfl (hts _ zq_131) dKN_tells_41 ?_
      refine lv_iload_n hx hb dKN_tells_44 rfl (lv_at hl 1 rfl) ?_
      obtain ⟨hi2, hk3, h⟩ := h
      refine zr_aald hx hb hK.1 hP zl_18.1 zl_18.2 hi2 hk3 dKN_tells_45 ?_
      refine zr_getr (b := 24 + 3 * l1.toNatClampNeg + 1) hx hb hts zi_FA hown hK.1 hP (zs_Fa_b hk3).1.1 (zs_Fa_b hk3).1.2 rfl 0 (by decide) rfl (hts _ zq_115) dKN_tells_46 ?_
      refine lv_iload_n hx hb dKN_tells_49 rfl (lv_at hl 3 rfl) ?_
      obtain ⟨hi4, h⟩ := h
      refine zr_iald hx hb hK.1 hP (zs_Fa_b hk3).2.1.1 (zs_Fa_b hk3).2.1.2 hi4 dKN_tells_50 ?_
      refine lv_iload hx hb dKN_tells_51 (lv_at hl 4 rfl) ?_
      refine lv_ishr hx hb dKN_tells_53 ?_
      refine lv_iconst (v := 1) hx hb dKN_tells_54 (by decide) ?_
      refine lv_iand hx hb dKN_tells_55 ?_
      refine lv_if_eq (tgt := 63) hx hb dKN_tells_56 rfl (fun hc => ?_) (fun hc => ?_)
      · have h := h.1 hc
        clear hc
        refine lv_iconst (v := 0) hx hb dKN_tells_63 (by decide) ?_
        exact zr_zret hx hb hr hlk hP hS rfl h dKN_tells_64
      · have h := h.2 hc
        clear hc
        refine lv_iconst (v := 1) hx hb dKN_tells_59 (by decide) ?_
        refine lv_goto (tgt := 64) hx hb dKN_tells_60 rfl ?_
        exact zr_zret hx hb hr hlk hP hS rfl h dKN_tells_64
    · have h := h.2 hc
      have hn0 := hc
      clear hc
      by_cases hc : l2 = 1
      · refine lv_tableIn (tgt := 65) (off := 53) hx hb dKN_tells_12 (by rw [hc]; decide) (by rw [hc]; decide) (by rw [hc]; decide) rfl ?_
        have h := h.1 hc
        clear hc
        refine lv_aload_n hx hb dKN_tells_65 rfl (lv_at hl 0 rfl) ?_
        refine zr_getr (b := 18) hx hb hts zi_KN hown hK.1 hP zl_17.1 zl_17.2 rfl 0 (by decide) rfl (hts _ zq_131) dKN_tells_66 ?_
        refine lv_iload_n hx hb dKN_tells_69 rfl (lv_at hl 1 rfl) ?_
        obtain ⟨hi5, hk6, h⟩ := h
        refine zr_aald hx hb hK.1 hP zl_18.1 zl_18.2 hi5 hk6 dKN_tells_70 ?_
        refine zr_getr (b := 24 + 3 * l1.toNatClampNeg + 2) hx hb hts zi_FA hown hK.1 hP (zs_Fa_b hk6).1.1 (zs_Fa_b hk6).1.2 rfl 1 (by decide) rfl (hts _ zq_118) dKN_tells_71 ?_
        refine lv_iload_n hx hb dKN_tells_74 rfl (lv_at hl 3 rfl) ?_
        obtain ⟨hi7, h⟩ := h
        refine zr_iald hx hb hK.1 hP (zs_Fa_b hk6).2.2.1 (zs_Fa_b hk6).2.2.2 hi7 dKN_tells_75 ?_
        refine lv_iload hx hb dKN_tells_76 (lv_at hl 4 rfl) ?_
        refine lv_ishr hx hb dKN_tells_78 ?_
        refine lv_iconst (v := 1) hx hb dKN_tells_79 (by decide) ?_
        refine lv_iand hx hb dKN_tells_80 ?_
        refine lv_if_eq (tgt := 88) hx hb dKN_tells_81 rfl (fun hc => ?_) (fun hc => ?_)
        · have h := h.1 hc
          clear hc
          refine lv_iconst (v := 0) hx hb dKN_tells_88 (by decide) ?_
          exact zr_zret hx hb hr hlk hP hS rfl h dKN_tells_89
        · have h := h.2 hc
          clear hc
          refine lv_iconst (v := 1) hx hb dKN_tells_84 (by decide) ?_
          refine lv_goto (tgt := 89) hx hb dKN_tells_85 rfl ?_
          exact zr_zret hx hb hr hlk hP hS rfl h dKN_tells_89
      · have h := h.2 hc
        have hn1 := hc
        clear hc
        by_cases hc : l2 = 2
        · refine lv_tableIn (tgt := 90) (off := 78) hx hb dKN_tells_12 (by rw [hc]; decide) (by rw [hc]; decide) (by rw [hc]; decide) rfl ?_
          have h := h.1 hc
          clear hc
          refine lv_aload_n hx hb dKN_tells_90 rfl (lv_at hl 0 rfl) ?_
          refine zr_getr (b := 18) hx hb hts zi_KN hown hK.1 hP zl_17.1 zl_17.2 rfl 0 (by decide) rfl (hts _ zq_131) dKN_tells_91 ?_
          refine lv_iload_n hx hb dKN_tells_94 rfl (lv_at hl 1 rfl) ?_
          obtain ⟨hi8, hk9, h⟩ := h
          refine zr_aald hx hb hK.1 hP zl_18.1 zl_18.2 hi8 hk9 dKN_tells_95 ?_
          refine zr_geti hx hb hts zi_FA hown hK.1 hP (zs_Fa_b hk9).1.1 (zs_Fa_b hk9).1.2 rfl 2 (by decide) rfl (hts _ zq_121) dKN_tells_96 ?_
          refine lv_iload_n hx hb dKN_tells_99 rfl (lv_at hl 3 rfl) ?_
          refine lv_ishr hx hb dKN_tells_100 ?_
          refine lv_iconst (v := 1) hx hb dKN_tells_101 (by decide) ?_
          refine lv_iand hx hb dKN_tells_102 ?_
          refine lv_if_eq (tgt := 110) hx hb dKN_tells_103 rfl (fun hc => ?_) (fun hc => ?_)
          · have h := h.1 hc
            clear hc
            refine lv_iconst (v := 0) hx hb dKN_tells_110 (by decide) ?_
            exact zr_zret hx hb hr hlk hP hS rfl h dKN_tells_111
          · have h := h.2 hc
            clear hc
            refine lv_iconst (v := 1) hx hb dKN_tells_106 (by decide) ?_
            refine lv_goto (tgt := 111) hx hb dKN_tells_107 rfl ?_
            exact zr_zret hx hb hr hlk hP hS rfl h dKN_tells_111
        · have h := h.2 hc
          have hn2 := hc
          clear hc
          refine lv_tableOut (tgt := 112) hx hb dKN_tells_12 (by have q0 := lv_neT hn0 (a := 0) (by decide); have q1 := lv_neT hn1 (a := 1) (by decide); have q2 := lv_neT hn2 (a := 2) (by decide); omega) rfl ?_
          refine lv_iconst (v := 1) hx hb dKN_tells_112 (by decide) ?_
          exact zr_zret hx hb hr hlk hP hS rfl h dKN_tells_113
  · have h := h.2 hc
    clear hc
    refine lv_iconst (v := 0) hx hb dKN_tells_9 (by decide) ?_
    exact zr_zret hx hb hr hlk hP hS rfl h dKN_tells_10
end ZW
